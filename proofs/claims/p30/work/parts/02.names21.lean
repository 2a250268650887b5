set_option maxRecDepth 20000 in
theorem ggL_does_L_flare : GoodIn wsL_does wsL_flare := goodIn_ca (goodIn_ca (goodIn_ca (goodIn_r _ [303, 243, 5, 6, 230, 7, 8, 304, 305, 306, 12, 307, 248, 249, 14, 15, 16, 17, 308, 309, 310, 311, 312, 313, 314, 315, 316, 179, 180, 191, 35, 36, 37, 38, 39, 192, 127, 128, 129, 130, 131, 132, 133, 134, 135, 136, 137, 138, 139, 140, 141, 60, 22, 23, 24, 317, 318, 319, 320, 44, 45, 321, 322, 323, 324, 325, 196, 326, 285, 327, 55, 56, 57, 58, 59, 61, 62, 63, 64, 65, 66, 67, 68, 69, 70, 71, 72, 73, 74, 75, 76, 77, 78, 79, 80, 81, 82, 83, 84, 85, 86, 87, 88, 89, 90, 91, 92, 93, 94, 95, 96, 97, 98, 99, 100, 101, 102, 103, 104, 105, 106, 107, 328, 329, 330, 331, 286, 332, 333, 334, 335, 623, 624, 625, 626, 627, 628, 629, 630, 631, 632, 633, 655, 656, 642, 643, 644, 648, 649, 650, 651, 652, 653, 654] (by decide +kernel) (by decide +kernel)) (goodIn_sub (fun _ h => List.mem_cons_of_mem _ (List.mem_append_right _ h)) (by decide +kernel))) (goodIn_sub (fun _ h => List.mem_cons_of_mem _ (List.mem_append_left _ (List.mem_append_left _ (List.mem_append_right _ h)))) (by decide +kernel))) (goodIn_sub (fun _ h => List.mem_cons_of_mem _ (List.mem_append_left _ (List.mem_append_right _ h))) (by decide +kernel))
set_option maxRecDepth 20000 in
theorem gL_does_L_flare : GoodIn wsL_does (va_wsS RL 149 yL_flare wsL_flare) := goodIn_app (goodIn_of _ (by decide +kernel)) ggL_does_L_flare
set_option maxRecDepth 20000 in
theorem ggL_does_L_cross : GoodIn wsL_does wsL_cross := goodIn_ca (goodIn_ca (goodIn_ca (goodIn_r _ [338, 243, 5, 6, 230, 7, 8, 339, 340, 341, 12, 342, 248, 249, 14, 15, 16, 17, 178, 343, 344, 345, 312, 313, 314, 315, 316, 179, 180, 191, 35, 36, 37, 38, 39, 192, 127, 128, 129, 130, 131, 132, 133, 134, 135, 136, 137, 138, 139, 140, 141, 60, 346, 347, 348, 196, 349, 204, 22, 23, 24, 350, 351, 352, 353, 44, 45, 354, 355, 356, 357, 358, 359, 360, 361, 198, 327, 55, 56, 57, 58, 59, 61, 62, 63, 64, 65, 66, 67, 68, 69, 70, 71, 72, 73, 74, 75, 76, 77, 78, 79, 80, 81, 82, 83, 84, 85, 86, 87, 88, 89, 90, 91, 92, 93, 94, 95, 96, 97, 98, 99, 100, 101, 102, 103, 104, 105, 106, 107, 623, 624, 625, 626, 627, 628, 629, 630, 631, 632, 633, 657, 658, 659, 660, 642, 643, 644, 648, 649, 650, 651, 652, 653, 654] (by decide +kernel) (by decide +kernel)) (goodIn_sub (fun _ h => List.mem_cons_of_mem _ (List.mem_append_right _ h)) (by decide +kernel))) (goodIn_sub (fun _ h => List.mem_cons_of_mem _ (List.mem_append_left _ (List.mem_append_left _ (List.mem_append_right _ h)))) (by decide +kernel))) (goodIn_sub (fun _ h => List.mem_cons_of_mem _ (List.mem_append_left _ (List.mem_append_right _ h))) (by decide +kernel))
set_option maxRecDepth 20000 in
theorem gL_does_L_cross : GoodIn wsL_does (va_wsS RL 151 yL_cross wsL_cross) := goodIn_app (goodIn_of _ (by decide +kernel)) ggL_does_L_cross
set_option maxRecDepth 20000 in
theorem ggL_does_L_season : GoodIn wsL_does wsL_season := goodIn_ca (goodIn_r _ [364, 5, 7, 365, 366, 367, 12, 368, 14, 15, 369, 370, 22, 23, 24, 623, 624, 625, 626, 627, 628, 629, 630, 631, 632, 633] (by decide +kernel) (by decide +kernel)) (goodIn_sub (fun _ h => List.mem_cons_of_mem _ (List.mem_append_left _ (List.mem_append_left _ (List.mem_append_right _ h)))) (by decide +kernel))
set_option maxRecDepth 20000 in
theorem gL_does_L_season : GoodIn wsL_does (va_wsS RL 153 yL_season wsL_season) := goodIn_app (goodIn_of _ (by decide +kernel)) ggL_does_L_season
set_option maxRecDepth 20000 in
theorem ggL_does_L_cloud : GoodIn wsL_does wsL_cloud := goodIn_ca (goodIn_r _ [373, 5, 7, 374, 375, 376, 12, 377, 14, 15, 312, 378, 22, 23, 24, 623, 624, 625, 626, 627, 628, 629, 630, 631, 632, 633] (by decide +kernel) (by decide +kernel)) (goodIn_sub (fun _ h => List.mem_cons_of_mem _ (List.mem_append_left _ (List.mem_append_left _ (List.mem_append_right _ h)))) (by decide +kernel))
set_option maxRecDepth 20000 in
theorem gL_does_L_cloud : GoodIn wsL_does (va_wsS RL 155 yL_cloud wsL_cloud) := goodIn_app (goodIn_of _ (by decide +kernel)) ggL_does_L_cloud
set_option maxRecDepth 20000 in
theorem ggL_does_L_world : GoodIn wsL_does wsL_world := goodIn_ca (goodIn_ca (goodIn_r _ [381, 5, 6, 7, 8, 382, 383, 384, 12, 385, 14, 15, 16, 17, 177, 386, 22, 23, 24, 235, 236, 237, 184, 238, 186, 239, 35, 36, 37, 38, 39, 623, 624, 625, 626, 627, 628, 629, 630, 631, 632, 633, 645, 646, 647, 642, 643, 644] (by decide +kernel) (by decide +kernel)) (goodIn_sub (fun _ h => List.mem_cons_of_mem _ (List.mem_append_left _ (List.mem_append_left _ (List.mem_append_right _ h)))) (by decide +kernel))) (goodIn_sub (fun _ h => List.mem_cons_of_mem _ (List.mem_append_left _ (List.mem_append_right _ h))) (by decide +kernel))
set_option maxRecDepth 20000 in
theorem gL_does_L_world : GoodIn wsL_does (va_wsS RL 157 yL_world wsL_world) := goodIn_app (goodIn_of _ (by decide +kernel)) ggL_does_L_world
set_option maxRecDepth 20000 in
theorem ggL_does_L_books : GoodIn wsL_does wsL_books := goodIn_ca (goodIn_ca (goodIn_ca (goodIn_r _ [389, 390, 391, 3, 392, 243, 5, 230, 7, 393, 394, 395, 12, 396, 248, 249, 14, 15, 397, 18, 313, 314, 315, 316, 179, 180, 191, 35, 36, 37, 38, 39, 192, 127, 128, 129, 130, 131, 132, 133, 134, 135, 136, 137, 138, 139, 140, 141, 60, 398, 399, 400, 401, 402, 403, 404, 405, 346, 347, 348, 196, 349, 204, 406, 407, 408, 409, 410, 151, 76, 152, 177, 411, 412, 413, 414, 415, 416, 417, 418, 222, 419, 420, 421, 422, 31, 423, 424, 425, 426, 427, 112, 113, 214, 215, 216, 217, 428, 429, 430, 184, 431, 432, 433, 186, 434, 435, 436, 90, 437, 438, 439, 440, 239, 441, 442, 443, 444, 445, 446, 447, 448, 449, 450, 451, 23, 24, 452, 453, 454, 455, 456, 457, 458, 459, 460, 461, 462, 463, 464, 465, 224, 225, 226, 114, 466, 467, 468, 469, 33, 34, 470, 471, 472, 473, 474, 475, 476, 477, 227, 228, 229, 8, 478, 479, 480, 6, 481, 482, 483, 484, 16, 17, 485, 486, 487, 488, 489, 490, 491, 492, 493, 623, 624, 625, 626, 627, 628, 629, 630, 631, 632, 633, 642, 643, 644, 648, 649, 650, 651, 652, 653, 654, 638, 639, 640, 641, 645, 646, 647, 661, 662, 663, 664, 665, 666, 667] (by decide +kernel) (by decide +kernel)) (goodIn_sub (fun _ h => List.mem_cons_of_mem _ (List.mem_append_right _ h)) (by decide +kernel))) (goodIn_sub (fun _ h => List.mem_cons_of_mem _ (List.mem_append_left _ (List.mem_append_left _ (List.mem_append_right _ h)))) (by decide +kernel))) (goodIn_sub (fun _ h => List.mem_cons_of_mem _ (List.mem_append_left _ (List.mem_append_right _ h))) (by decide +kernel))
set_option maxRecDepth 20000 in
theorem gL_does_L_books : GoodIn wsL_does (va_wsS RL 159 yL_books wsL_books) := goodIn_app (goodIn_of _ (by decide +kernel)) ggL_does_L_books
set_option maxRecDepth 20000 in
theorem ggL_does_L_vote : GoodIn wsL_does wsL_vote := goodIn_ca (goodIn_r _ [496, 243, 230, 497, 498, 499, 12, 500, 248, 249, 397, 501, 502, 503, 401, 504, 505, 506, 507, 508, 509, 510, 511, 512, 513, 514, 515, 623, 624, 625, 626, 627, 628, 629, 630, 631, 632, 633, 663, 664, 665, 666, 667] (by decide +kernel) (by decide +kernel)) (goodIn_sub (fun _ h => List.mem_cons_of_mem _ (List.mem_append_right _ h)) (by decide +kernel))
set_option maxRecDepth 20000 in
theorem gL_does_L_vote : GoodIn wsL_does (va_wsS RL 162 yL_vote wsL_vote) := goodIn_app (goodIn_of _ (by decide +kernel)) ggL_does_L_vote
set_option maxRecDepth 20000 in
theorem ggL_does_L_measured : GoodIn wsL_does wsL_measured := goodIn_ca (goodIn_ca (goodIn_r _ [518, 243, 5, 230, 7, 519, 520, 521, 12, 522, 248, 249, 14, 15, 313, 314, 315, 316, 179, 180, 191, 35, 36, 37, 38, 39, 192, 127, 128, 129, 130, 131, 132, 133, 134, 135, 136, 137, 138, 139, 140, 141, 60, 403, 404, 405, 346, 347, 348, 196, 349, 204, 406, 407, 408, 409, 410, 151, 76, 152, 177, 411, 412, 413, 414, 18, 415, 416, 417, 418, 222, 419, 420, 421, 422, 31, 423, 424, 425, 426, 427, 112, 113, 214, 215, 216, 217, 428, 429, 430, 184, 431, 432, 433, 186, 434, 435, 436, 90, 437, 438, 439, 440, 239, 441, 442, 443, 444, 445, 446, 447, 448, 449, 450, 451, 23, 24, 452, 453, 454, 455, 456, 457, 458, 459, 460, 623, 624, 625, 626, 627, 628, 629, 630, 631, 632, 633, 642, 643, 644, 648, 649, 650, 651, 652, 653, 654, 638, 639, 640, 641, 645, 646, 647, 661, 662] (by decide +kernel) (by decide +kernel)) (goodIn_sub (fun _ h => List.mem_cons_of_mem _ (List.mem_append_right _ h)) (by decide +kernel))) (goodIn_sub (fun _ h => List.mem_cons_of_mem _ (List.mem_append_left _ (List.mem_append_left _ (List.mem_append_right _ h)))) (by decide +kernel))
set_option maxRecDepth 20000 in
theorem gL_does_L_measured : GoodIn wsL_does (va_wsS RL 165 yL_measured wsL_measured) := goodIn_app (goodIn_of _ (by decide +kernel)) ggL_does_L_measured
set_option maxRecDepth 20000 in
theorem ggL_does_L_takes_p0 : GoodIn wsL_does wsL_takes_r1 := goodIn_r _ [526, 527, 3, 528, 6, 8, 529, 530, 531, 12, 532, 16, 17, 312, 378, 177, 533, 534, 535, 536, 369, 370, 22, 23] (by decide +kernel) (by decide +kernel)
set_option maxRecDepth 20000 in
theorem ggL_does_L_takes_p1 : GoodIn wsL_does wsL_takes_r2 := goodIn_r _ [24, 537, 538, 539, 184, 540, 186, 239, 35, 36, 37, 38, 39, 541, 542, 543, 544, 434, 441, 127, 128, 129, 130, 131] (by decide +kernel) (by decide +kernel)
set_option maxRecDepth 20000 in
theorem ggL_does_L_takes_p2 : GoodIn wsL_does wsL_takes_r3 := goodIn_r _ [132, 133, 134, 135, 136, 137, 138, 139, 140, 141, 60, 545, 546, 547, 548, 549, 550, 551, 552, 553, 554, 445, 179, 180] (by decide +kernel) (by decide +kernel)
set_option maxRecDepth 20000 in
theorem ggL_does_L_takes_p3 : GoodIn wsL_does wsL_takes_r4 := goodIn_r _ [555, 102, 76, 103, 556, 557, 558, 559, 44, 45, 282, 447, 560, 561, 439, 90, 440, 191, 192, 562, 563, 564, 196, 565] (by decide +kernel) (by decide +kernel)
set_option maxRecDepth 20000 in
theorem ggL_does_L_takes_p4 : GoodIn wsL_does wsL_takes_r5 := goodIn_r _ [204, 566, 567, 568, 569, 410, 151, 152, 570, 571, 572, 573, 386, 461, 462, 463, 464, 18, 415, 416, 417, 418, 222, 419] (by decide +kernel) (by decide +kernel)
set_option maxRecDepth 20000 in
theorem ggL_does_L_takes_p5 : GoodIn wsL_does wsL_takes_r6 := goodIn_r _ [347, 348, 349, 465, 224, 225, 31, 226, 114, 214, 215, 216, 217, 112, 328, 329, 330, 331, 286, 285, 332, 333, 75, 77] (by decide +kernel) (by decide +kernel)
set_option maxRecDepth 20000 in
theorem ggL_does_L_takes_p6 : GoodIn wsL_does wsL_takes_r7 := goodIn_r _ [334, 335, 411, 412, 413, 414, 420, 421, 422, 423, 424, 425, 426, 427, 113, 574, 575, 576, 577, 198, 578, 579, 580, 581] (by decide +kernel) (by decide +kernel)
set_option maxRecDepth 20000 in
theorem ggL_does_L_takes_p7 : GoodIn wsL_does wsL_takes_r8 := goodIn_r _ [345, 582, 356, 355, 583, 357, 584, 585, 586, 587, 448, 449, 450, 451, 588, 589, 590, 591, 592, 55, 56, 57, 58, 59] (by decide +kernel) (by decide +kernel)
set_option maxRecDepth 20000 in
theorem ggL_does_L_takes_p8 : GoodIn wsL_does wsL_takes_r9 := goodIn_r _ [61, 62, 63, 64, 65, 66, 67, 68, 69, 70, 71, 72, 73, 74, 78, 79, 80, 81, 82, 83, 84, 85, 86, 87] (by decide +kernel) (by decide +kernel)
set_option maxRecDepth 20000 in
theorem ggL_does_L_takes_p9 : GoodIn wsL_does wsL_takes_r10 := goodIn_r _ [88, 89, 91, 92, 93, 94, 95, 96, 97, 98, 99, 100, 101, 104, 105, 106, 107, 227, 228, 229, 230, 7, 593, 594] (by decide +kernel) (by decide +kernel)
set_option maxRecDepth 20000 in
theorem ggL_does_L_takes_p10 : GoodIn wsL_does wsL_takes_r11 := goodIn_r _ [595, 5, 596, 597, 598, 599, 14, 15, 600, 601, 602, 243, 603, 604, 605, 606, 248, 249, 607, 313, 314, 315, 316, 608] (by decide +kernel) (by decide +kernel)
set_option maxRecDepth 20000 in
theorem ggL_does_L_takes_p11 : GoodIn wsL_does wsL_takes_r12 := goodIn_r _ [443, 444, 446, 609, 610, 611, 612, 613, 614, 615, 616, 617, 618, 619, 620, 621, 622, 346] (by decide +kernel) (by decide +kernel)
set_option maxRecDepth 20000 in
theorem ggL_does_L_takes_p12 : GoodIn wsL_does wsX80 := goodIn_r _ [623, 624, 625, 626, 627, 628, 629, 630, 631, 632, 633] (by decide +kernel) (by decide +kernel)
set_option maxRecDepth 20000 in
theorem ggL_does_L_takes_p13 : GoodIn wsL_does wsX00 := goodIn_r _ [645, 646, 647] (by decide +kernel) (by decide +kernel)
set_option maxRecDepth 20000 in
theorem ggL_does_L_takes_p14 : GoodIn wsL_does wsX30 := goodIn_r _ [661, 662] (by decide +kernel) (by decide +kernel)
set_option maxRecDepth 20000 in
theorem ggL_does_L_takes_p15 : GoodIn wsL_does wsJx4a65c0 := goodIn_r _ [642, 643, 644] (by decide +kernel) (by decide +kernel)
set_option maxRecDepth 20000 in
theorem ggL_does_L_takes_p16 : GoodIn wsL_does wsX60 := goodIn_r _ [648, 649, 650, 651, 652, 653, 654] (by decide +kernel) (by decide +kernel)
set_option maxRecDepth 20000 in
theorem ggL_does_L_takes_p17 : GoodIn wsL_does wsX50 := goodIn_r _ [638, 639, 640, 641] (by decide +kernel) (by decide +kernel)
set_option maxRecDepth 20000 in
theorem ggL_does_L_takes_p18 : GoodIn wsL_does wsX20 := goodIn_r _ [655, 656] (by decide +kernel) (by decide +kernel)
set_option maxRecDepth 20000 in
theorem ggL_does_L_takes_p19 : GoodIn wsL_does wsX70 := goodIn_r _ [657, 658, 659, 660] (by decide +kernel) (by decide +kernel)
set_option maxRecDepth 20000 in
theorem ggL_does_L_takes_c : GoodIn wsL_does [Cond.code yL_takes cL_takes 5 (some .int)] := goodIn_r _ [525] (by decide +kernel) (by decide +kernel)
set_option maxRecDepth 20000 in
theorem ggL_does_L_takes : GoodIn wsL_does wsL_takes := fun w h => (List.mem_cons.mp h).elim (fun e => ggL_does_L_takes_c w (List.mem_cons.mpr (Or.inl e))) ((goodIn_app (goodIn_app (goodIn_app (goodIn_app (goodIn_app (goodIn_app (goodIn_app (goodIn_app (goodIn_app (goodIn_app (goodIn_app (goodIn_app ggL_does_L_takes_p0 (goodIn_app ggL_does_L_takes_p1 (goodIn_app ggL_does_L_takes_p2 (goodIn_app ggL_does_L_takes_p3 (goodIn_app ggL_does_L_takes_p4 (goodIn_app ggL_does_L_takes_p5 (goodIn_app ggL_does_L_takes_p6 (goodIn_app ggL_does_L_takes_p7 (goodIn_app ggL_does_L_takes_p8 (goodIn_app ggL_does_L_takes_p9 (goodIn_app ggL_does_L_takes_p10 ggL_does_L_takes_p11))))))))))) ggL_does_L_takes_p12) ggL_does_L_takes_p13) ggL_does_L_takes_p14) ggL_does_L_takes_p15) ggL_does_L_takes_p16) ggL_does_L_takes_p17) ggL_does_L_takes_p18) ggL_does_L_takes_p19) (goodIn_sub (fun _ h => List.mem_cons_of_mem _ (List.mem_append_left _ (List.mem_append_right _ h))) (by decide +kernel))) (goodIn_sub (fun _ h => List.mem_cons_of_mem _ (List.mem_append_left _ (List.mem_append_left _ (List.mem_append_right _ h)))) (by decide +kernel))) (goodIn_sub (fun _ h => List.mem_cons_of_mem _ (List.mem_append_right _ h)) (by decide +kernel))) w)
set_option maxRecDepth 20000 in
theorem gL_does_L_takes : GoodIn wsL_does (va_wsS RL 167 yL_takes wsL_takes) := goodIn_app (goodIn_of _ (by decide +kernel)) ggL_does_L_takes
theorem dL_does_0 : decode cL_does 0 = .ok (.iload_n 2, 1) := by decide +kernel
theorem dL_does_1 : decode cL_does 1 = .ok (.bipush 20, 2) := by decide +kernel
theorem dL_does_3 : decode cL_does 3 = .ok (.idiv, 1) := by decide +kernel
theorem dL_does_4 : decode cL_does 4 = .ok (.istore_n 3, 1) := by decide +kernel
theorem dL_does_5 : decode cL_does 5 = .ok (.iload_n 3, 1) := by decide +kernel
theorem dL_does_6 : decode cL_does 6 = .ok (.iconst 3, 1) := by decide +kernel
theorem dL_does_7 : decode cL_does 7 = .ok (.irem, 1) := by decide +kernel
theorem dL_does_8 : decode cL_does 8 = .ok (.istore 4, 2) := by decide +kernel
theorem dL_does_10 : decode cL_does 10 = .ok (.iload_n 2, 1) := by decide +kernel
theorem dL_does_11 : decode cL_does 11 = .ok (.bipush 20, 2) := by decide +kernel
theorem dL_does_13 : decode cL_does 13 = .ok (.irem, 1) := by decide +kernel
theorem dL_does_14 : decode cL_does 14 = .ok (.tableswitch 471 0 12 #[66, 143, 213, 304, 304, 321, 349, 362, 370, 382, 382, 388, 451], 66) := by decide +kernel
theorem dL_does_80 : decode cL_does 80 = .ok (.aload_n 0, 1) := by decide +kernel
theorem dL_does_81 : decode cL_does 81 = .ok (.iload_n 3, 1) := by decide +kernel
theorem dL_does_82 : decode cL_does 82 = .ok (.iconst 4, 1) := by decide +kernel
theorem dL_does_83 : decode cL_does 83 = .ok (.irem, 1) := by decide +kernel
theorem dL_does_84 : decode cL_does 84 = .ok (.iload_n 3, 1) := by decide +kernel
theorem dL_does_85 : decode cL_does 85 = .ok (.iconst 4, 1) := by decide +kernel
theorem dL_does_86 : decode cL_does 86 = .ok (.idiv, 1) := by decide +kernel
theorem dL_does_87 : decode cL_does 87 = .ok (.bipush 7, 2) := by decide +kernel
theorem dL_does_89 : decode cL_does 89 = .ok (.irem, 1) := by decide +kernel
theorem dL_does_90 : decode cL_does 90 = .ok (.iconst 3, 1) := by decide +kernel
theorem dL_does_91 : decode cL_does 91 = .ok (.isub, 1) := by decide +kernel
theorem dL_does_92 : decode cL_does 92 = .ok (.iload_n 3, 1) := by decide +kernel
theorem dL_does_93 : decode cL_does 93 = .ok (.bipush 28, 2) := by decide +kernel
theorem dL_does_95 : decode cL_does 95 = .ok (.idiv, 1) := by decide +kernel
theorem dL_does_96 : decode cL_does 96 = .ok (.bipush 7, 2) := by decide +kernel
theorem dL_does_98 : decode cL_does 98 = .ok (.irem, 1) := by decide +kernel
theorem dL_does_99 : decode cL_does 99 = .ok (.iconst 3, 1) := by decide +kernel
theorem dL_does_100 : decode cL_does 100 = .ok (.isub, 1) := by decide +kernel
theorem dL_does_101 : decode cL_does 101 = .ok (.iload_n 3, 1) := by decide +kernel
theorem dL_does_102 : decode cL_does 102 = .ok (.sipush 196, 3) := by decide +kernel
theorem dL_does_105 : decode cL_does 105 = .ok (.idiv, 1) := by decide +kernel
theorem dL_does_106 : decode cL_does 106 = .ok (.bipush 9, 2) := by decide +kernel
theorem dL_does_108 : decode cL_does 108 = .ok (.irem, 1) := by decide +kernel
theorem dL_does_109 : decode cL_does 109 = .ok (.invokestatic 139, 3) := by decide +kernel
theorem dL_does_112 : decode cL_does 112 = .ok (.istore 5, 2) := by decide +kernel
theorem dL_does_114 : decode cL_does 114 = .ok (.aload_n 1, 1) := by decide +kernel
theorem dL_does_115 : decode cL_does 115 = .ok (.bipush 19, 2) := by decide +kernel
theorem dL_does_117 : decode cL_does 117 = .ok (.iload 5, 2) := by decide +kernel
theorem dL_does_119 : decode cL_does 119 = .ok (.invokestatic 142, 3) := by decide +kernel
theorem dL_does_122 : decode cL_does 122 = .ok (.ifCond .eq 10, 3) := by decide +kernel
theorem dL_does_125 : decode cL_does 125 = .ok (.aload_n 1, 1) := by decide +kernel
theorem dL_does_126 : decode cL_does 126 = .ok (.bipush 19, 2) := by decide +kernel
theorem dL_does_128 : decode cL_does 128 = .ok (.iaload, 1) := by decide +kernel
theorem dL_does_129 : decode cL_does 129 = .ok (.goto 4, 3) := by decide +kernel
theorem dL_does_132 : decode cL_does 132 = .ok (.iconst (-1), 1) := by decide +kernel
theorem dL_does_133 : decode cL_does 133 = .ok (.iastore, 1) := by decide +kernel
theorem dL_does_134 : decode cL_does 134 = .ok (.iload 5, 2) := by decide +kernel
theorem dL_does_136 : decode cL_does 136 = .ok (.invokestatic 142, 3) := by decide +kernel
theorem dL_does_139 : decode cL_does 139 = .ok (.ifCond .ne 10, 3) := by decide +kernel
theorem dL_does_142 : decode cL_does 142 = .ok (.aload_n 0, 1) := by decide +kernel
theorem dL_does_143 : decode cL_does 143 = .ok (.invokevirtual 107, 3) := by decide +kernel
theorem dL_does_146 : decode cL_does 146 = .ok (.ifCond .ne 8, 3) := by decide +kernel
theorem dL_does_149 : decode cL_does 149 = .ok (.iload 5, 2) := by decide +kernel
theorem dL_does_151 : decode cL_does 151 = .ok (.goto 5, 3) := by decide +kernel
theorem dL_does_154 : decode cL_does 154 = .ok (.bipush (-5), 2) := by decide +kernel
theorem dL_does_156 : decode cL_does 156 = .ok (.ireturn, 1) := by decide +kernel
theorem dL_does_157 : decode cL_does 157 = .ok (.aload_n 0, 1) := by decide +kernel
theorem dL_does_158 : decode cL_does 158 = .ok (.iload_n 3, 1) := by decide +kernel
theorem dL_does_159 : decode cL_does 159 = .ok (.iconst 4, 1) := by decide +kernel
theorem dL_does_160 : decode cL_does 160 = .ok (.irem, 1) := by decide +kernel
theorem dL_does_161 : decode cL_does 161 = .ok (.iload_n 3, 1) := by decide +kernel
theorem dL_does_162 : decode cL_does 162 = .ok (.iconst 4, 1) := by decide +kernel
theorem dL_does_163 : decode cL_does 163 = .ok (.idiv, 1) := by decide +kernel
theorem dL_does_164 : decode cL_does 164 = .ok (.bipush 23, 2) := by decide +kernel
theorem dL_does_166 : decode cL_does 166 = .ok (.irem, 1) := by decide +kernel
theorem dL_does_167 : decode cL_does 167 = .ok (.bipush 11, 2) := by decide +kernel
theorem dL_does_169 : decode cL_does 169 = .ok (.isub, 1) := by decide +kernel
theorem dL_does_170 : decode cL_does 170 = .ok (.iload_n 3, 1) := by decide +kernel
theorem dL_does_171 : decode cL_does 171 = .ok (.bipush 92, 2) := by decide +kernel
theorem dL_does_173 : decode cL_does 173 = .ok (.idiv, 1) := by decide +kernel
theorem dL_does_174 : decode cL_does 174 = .ok (.bipush 7, 2) := by decide +kernel
theorem dL_does_176 : decode cL_does 176 = .ok (.irem, 1) := by decide +kernel
theorem dL_does_177 : decode cL_does 177 = .ok (.iconst 3, 1) := by decide +kernel
theorem dL_does_178 : decode cL_does 178 = .ok (.isub, 1) := by decide +kernel
theorem dL_does_179 : decode cL_does 179 = .ok (.invokestatic 145, 3) := by decide +kernel
theorem dL_does_182 : decode cL_does 182 = .ok (.istore 5, 2) := by decide +kernel
theorem dL_does_184 : decode cL_does 184 = .ok (.aload_n 1, 1) := by decide +kernel
theorem dL_does_185 : decode cL_does 185 = .ok (.bipush 19, 2) := by decide +kernel
theorem dL_does_187 : decode cL_does 187 = .ok (.iload 5, 2) := by decide +kernel
theorem dL_does_189 : decode cL_does 189 = .ok (.invokestatic 142, 3) := by decide +kernel
theorem dL_does_192 : decode cL_does 192 = .ok (.ifCond .eq 10, 3) := by decide +kernel
theorem dL_does_195 : decode cL_does 195 = .ok (.aload_n 1, 1) := by decide +kernel
theorem dL_does_196 : decode cL_does 196 = .ok (.bipush 19, 2) := by decide +kernel
theorem dL_does_198 : decode cL_does 198 = .ok (.iaload, 1) := by decide +kernel
theorem dL_does_199 : decode cL_does 199 = .ok (.goto 4, 3) := by decide +kernel
theorem dL_does_202 : decode cL_does 202 = .ok (.iconst (-1), 1) := by decide +kernel
theorem dL_does_203 : decode cL_does 203 = .ok (.iastore, 1) := by decide +kernel
theorem dL_does_204 : decode cL_does 204 = .ok (.iload 5, 2) := by decide +kernel
theorem dL_does_206 : decode cL_does 206 = .ok (.invokestatic 142, 3) := by decide +kernel
theorem dL_does_209 : decode cL_does 209 = .ok (.ifCond .ne 10, 3) := by decide +kernel
theorem dL_does_212 : decode cL_does 212 = .ok (.aload_n 0, 1) := by decide +kernel
theorem dL_does_213 : decode cL_does 213 = .ok (.invokevirtual 107, 3) := by decide +kernel
theorem dL_does_216 : decode cL_does 216 = .ok (.ifCond .ne 8, 3) := by decide +kernel
theorem dL_does_219 : decode cL_does 219 = .ok (.iload 5, 2) := by decide +kernel
theorem dL_does_221 : decode cL_does 221 = .ok (.goto 5, 3) := by decide +kernel
theorem dL_does_224 : decode cL_does 224 = .ok (.bipush (-5), 2) := by decide +kernel
theorem dL_does_226 : decode cL_does 226 = .ok (.ireturn, 1) := by decide +kernel
theorem dL_does_227 : decode cL_does 227 = .ok (.aload_n 1, 1) := by decide +kernel
theorem dL_does_228 : decode cL_does 228 = .ok (.iconst 1, 1) := by decide +kernel
theorem dL_does_229 : decode cL_does 229 = .ok (.iaload, 1) := by decide +kernel
theorem dL_does_230 : decode cL_does 230 = .ok (.iconst 2, 1) := by decide +kernel
theorem dL_does_231 : decode cL_does 231 = .ok (.if_icmp .ne 7, 3) := by decide +kernel
theorem dL_does_234 : decode cL_does 234 = .ok (.iconst 0, 1) := by decide +kernel
theorem dL_does_235 : decode cL_does 235 = .ok (.goto 26, 3) := by decide +kernel
theorem dL_does_238 : decode cL_does 238 = .ok (.aload_n 0, 1) := by decide +kernel
theorem dL_does_239 : decode cL_does 239 = .ok (.iload_n 3, 1) := by decide +kernel
theorem dL_does_240 : decode cL_does 240 = .ok (.iconst 5, 1) := by decide +kernel
theorem dL_does_241 : decode cL_does 241 = .ok (.irem, 1) := by decide +kernel
theorem dL_does_242 : decode cL_does 242 = .ok (.iconst 2, 1) := by decide +kernel
theorem dL_does_243 : decode cL_does 243 = .ok (.isub, 1) := by decide +kernel
theorem dL_does_244 : decode cL_does 244 = .ok (.iload_n 3, 1) := by decide +kernel
theorem dL_does_245 : decode cL_does 245 = .ok (.iconst 5, 1) := by decide +kernel
theorem dL_does_246 : decode cL_does 246 = .ok (.idiv, 1) := by decide +kernel
theorem dL_does_247 : decode cL_does 247 = .ok (.iconst 5, 1) := by decide +kernel
theorem dL_does_248 : decode cL_does 248 = .ok (.irem, 1) := by decide +kernel
theorem dL_does_249 : decode cL_does 249 = .ok (.iconst 2, 1) := by decide +kernel
theorem dL_does_250 : decode cL_does 250 = .ok (.isub, 1) := by decide +kernel
theorem dL_does_251 : decode cL_does 251 = .ok (.iload_n 3, 1) := by decide +kernel
theorem dL_does_252 : decode cL_does 252 = .ok (.bipush 25, 2) := by decide +kernel
theorem dL_does_254 : decode cL_does 254 = .ok (.idiv, 1) := by decide +kernel
theorem dL_does_255 : decode cL_does 255 = .ok (.bipush 101, 2) := by decide +kernel
theorem dL_does_257 : decode cL_does 257 = .ok (.irem, 1) := by decide +kernel
theorem dL_does_258 : decode cL_does 258 = .ok (.invokestatic 147, 3) := by decide +kernel
theorem dL_does_261 : decode cL_does 261 = .ok (.istore 5, 2) := by decide +kernel
theorem dL_does_263 : decode cL_does 263 = .ok (.aload_n 1, 1) := by decide +kernel
theorem dL_does_264 : decode cL_does 264 = .ok (.iconst 1, 1) := by decide +kernel
theorem dL_does_265 : decode cL_does 265 = .ok (.iaload, 1) := by decide +kernel
theorem dL_does_266 : decode cL_does 266 = .ok (.iconst 2, 1) := by decide +kernel
theorem dL_does_267 : decode cL_does 267 = .ok (.if_icmp .ge 48, 3) := by decide +kernel
theorem dL_does_270 : decode cL_does 270 = .ok (.iload 5, 2) := by decide +kernel
theorem dL_does_272 : decode cL_does 272 = .ok (.invokestatic 142, 3) := by decide +kernel
theorem dL_does_275 : decode cL_does 275 = .ok (.ifCond .ne 40, 3) := by decide +kernel
theorem dL_does_278 : decode cL_does 278 = .ok (.aload_n 1, 1) := by decide +kernel
theorem dL_does_279 : decode cL_does 279 = .ok (.iconst 3, 1) := by decide +kernel
theorem dL_does_280 : decode cL_does 280 = .ok (.iconst 2, 1) := by decide +kernel
theorem dL_does_281 : decode cL_does 281 = .ok (.aload_n 1, 1) := by decide +kernel
theorem dL_does_282 : decode cL_does 282 = .ok (.iconst 1, 1) := by decide +kernel
theorem dL_does_283 : decode cL_does 283 = .ok (.iaload, 1) := by decide +kernel
theorem dL_does_284 : decode cL_does 284 = .ok (.imul, 1) := by decide +kernel
theorem dL_does_285 : decode cL_does 285 = .ok (.iadd, 1) := by decide +kernel
theorem dL_does_286 : decode cL_does 286 = .ok (.iload_n 3, 1) := by decide +kernel
theorem dL_does_287 : decode cL_does 287 = .ok (.iconst 5, 1) := by decide +kernel
theorem dL_does_288 : decode cL_does 288 = .ok (.irem, 1) := by decide +kernel
theorem dL_does_289 : decode cL_does 289 = .ok (.iconst 2, 1) := by decide +kernel
theorem dL_does_290 : decode cL_does 290 = .ok (.isub, 1) := by decide +kernel
theorem dL_does_291 : decode cL_does 291 = .ok (.iastore, 1) := by decide +kernel
theorem dL_does_292 : decode cL_does 292 = .ok (.aload_n 1, 1) := by decide +kernel
theorem dL_does_293 : decode cL_does 293 = .ok (.iconst 4, 1) := by decide +kernel
theorem dL_does_294 : decode cL_does 294 = .ok (.iconst 2, 1) := by decide +kernel
theorem dL_does_295 : decode cL_does 295 = .ok (.aload_n 1, 1) := by decide +kernel
theorem dL_does_296 : decode cL_does 296 = .ok (.iconst 1, 1) := by decide +kernel
theorem dL_does_297 : decode cL_does 297 = .ok (.iaload, 1) := by decide +kernel
theorem dL_does_298 : decode cL_does 298 = .ok (.imul, 1) := by decide +kernel
theorem dL_does_299 : decode cL_does 299 = .ok (.iadd, 1) := by decide +kernel
theorem dL_does_300 : decode cL_does 300 = .ok (.iload_n 3, 1) := by decide +kernel
theorem dL_does_301 : decode cL_does 301 = .ok (.iconst 5, 1) := by decide +kernel
theorem dL_does_302 : decode cL_does 302 = .ok (.idiv, 1) := by decide +kernel
theorem dL_does_303 : decode cL_does 303 = .ok (.iconst 5, 1) := by decide +kernel
theorem dL_does_304 : decode cL_does 304 = .ok (.irem, 1) := by decide +kernel
theorem dL_does_305 : decode cL_does 305 = .ok (.iconst 2, 1) := by decide +kernel
theorem dL_does_306 : decode cL_does 306 = .ok (.isub, 1) := by decide +kernel
theorem dL_does_307 : decode cL_does 307 = .ok (.iastore, 1) := by decide +kernel
theorem dL_does_308 : decode cL_does 308 = .ok (.aload_n 1, 1) := by decide +kernel
theorem dL_does_309 : decode cL_does 309 = .ok (.iconst 1, 1) := by decide +kernel
theorem dL_does_310 : decode cL_does 310 = .ok (.dup2, 1) := by decide +kernel
theorem dL_does_311 : decode cL_does 311 = .ok (.iaload, 1) := by decide +kernel
theorem dL_does_312 : decode cL_does 312 = .ok (.iconst 1, 1) := by decide +kernel
theorem dL_does_313 : decode cL_does 313 = .ok (.iadd, 1) := by decide +kernel
theorem dL_does_314 : decode cL_does 314 = .ok (.iastore, 1) := by decide +kernel
theorem dL_does_315 : decode cL_does 315 = .ok (.iload 5, 2) := by decide +kernel
theorem dL_does_317 : decode cL_does 317 = .ok (.ireturn, 1) := by decide +kernel
theorem dL_does_318 : decode cL_does 318 = .ok (.aload_n 0, 1) := by decide +kernel
theorem dL_does_319 : decode cL_does 319 = .ok (.iload 4, 2) := by decide +kernel
theorem dL_does_321 : decode cL_does 321 = .ok (.iload_n 3, 1) := by decide +kernel
theorem dL_does_322 : decode cL_does 322 = .ok (.iconst 3, 1) := by decide +kernel
theorem dL_does_323 : decode cL_does 323 = .ok (.idiv, 1) := by decide +kernel
theorem dL_does_324 : decode cL_does 324 = .ok (.sipush 240, 3) := by decide +kernel
theorem dL_does_327 : decode cL_does 327 = .ok (.irem, 1) := by decide +kernel
theorem dL_does_328 : decode cL_does 328 = .ok (.bipush 120, 2) := by decide +kernel
theorem dL_does_330 : decode cL_does 330 = .ok (.isub, 1) := by decide +kernel
theorem dL_does_331 : decode cL_does 331 = .ok (.invokestatic 149, 3) := by decide +kernel
theorem dL_does_334 : decode cL_does 334 = .ok (.ireturn, 1) := by decide +kernel
theorem dL_does_335 : decode cL_does 335 = .ok (.aload_n 0, 1) := by decide +kernel
theorem dL_does_336 : decode cL_does 336 = .ok (.iload 4, 2) := by decide +kernel
theorem dL_does_338 : decode cL_does 338 = .ok (.iload_n 3, 1) := by decide +kernel
theorem dL_does_339 : decode cL_does 339 = .ok (.iconst 3, 1) := by decide +kernel
theorem dL_does_340 : decode cL_does 340 = .ok (.idiv, 1) := by decide +kernel
theorem dL_does_341 : decode cL_does 341 = .ok (.iconst 5, 1) := by decide +kernel
theorem dL_does_342 : decode cL_does 342 = .ok (.irem, 1) := by decide +kernel
theorem dL_does_343 : decode cL_does 343 = .ok (.iload_n 3, 1) := by decide +kernel
theorem dL_does_344 : decode cL_does 344 = .ok (.bipush 15, 2) := by decide +kernel
theorem dL_does_346 : decode cL_does 346 = .ok (.idiv, 1) := by decide +kernel
theorem dL_does_347 : decode cL_does 347 = .ok (.bipush 52, 2) := by decide +kernel
theorem dL_does_349 : decode cL_does 349 = .ok (.irem, 1) := by decide +kernel
theorem dL_does_350 : decode cL_does 350 = .ok (.iload_n 3, 1) := by decide +kernel
theorem dL_does_351 : decode cL_does 351 = .ok (.sipush 780, 3) := by decide +kernel
theorem dL_does_354 : decode cL_does 354 = .ok (.idiv, 1) := by decide +kernel
theorem dL_does_355 : decode cL_does 355 = .ok (.sipush 1100, 3) := by decide +kernel
theorem dL_does_358 : decode cL_does 358 = .ok (.irem, 1) := by decide +kernel
theorem dL_does_359 : decode cL_does 359 = .ok (.invokestatic 151, 3) := by decide +kernel
theorem dL_does_362 : decode cL_does 362 = .ok (.ireturn, 1) := by decide +kernel
theorem dL_does_363 : decode cL_does 363 = .ok (.aload_n 0, 1) := by decide +kernel
theorem dL_does_364 : decode cL_does 364 = .ok (.iconst 0, 1) := by decide +kernel
theorem dL_does_365 : decode cL_does 365 = .ok (.bipush 60, 2) := by decide +kernel
theorem dL_does_367 : decode cL_does 367 = .ok (.iload_n 3, 1) := by decide +kernel
theorem dL_does_368 : decode cL_does 368 = .ok (.bipush 60, 2) := by decide +kernel
theorem dL_does_370 : decode cL_does 370 = .ok (.irem, 1) := by decide +kernel
theorem dL_does_371 : decode cL_does 371 = .ok (.iadd, 1) := by decide +kernel
theorem dL_does_372 : decode cL_does 372 = .ok (.invokestatic 153, 3) := by decide +kernel
theorem dL_does_375 : decode cL_does 375 = .ok (.ireturn, 1) := by decide +kernel
theorem dL_does_376 : decode cL_does 376 = .ok (.aload_n 0, 1) := by decide +kernel
theorem dL_does_377 : decode cL_does 377 = .ok (.iload_n 3, 1) := by decide +kernel
theorem dL_does_378 : decode cL_does 378 = .ok (.iconst 4, 1) := by decide +kernel
theorem dL_does_379 : decode cL_does 379 = .ok (.irem, 1) := by decide +kernel
theorem dL_does_380 : decode cL_does 380 = .ok (.invokestatic 155, 3) := by decide +kernel
theorem dL_does_383 : decode cL_does 383 = .ok (.ireturn, 1) := by decide +kernel
theorem dL_does_384 : decode cL_does 384 = .ok (.aload_n 0, 1) := by decide +kernel
theorem dL_does_385 : decode cL_does 385 = .ok (.bipush 35, 2) := by decide +kernel
theorem dL_does_387 : decode cL_does 387 = .ok (.iload_n 3, 1) := by decide +kernel
theorem dL_does_388 : decode cL_does 388 = .ok (.bipush 70, 2) := by decide +kernel
theorem dL_does_390 : decode cL_does 390 = .ok (.irem, 1) := by decide +kernel
theorem dL_does_391 : decode cL_does 391 = .ok (.iadd, 1) := by decide +kernel
theorem dL_does_392 : decode cL_does 392 = .ok (.invokestatic 157, 3) := by decide +kernel
theorem dL_does_395 : decode cL_does 395 = .ok (.ireturn, 1) := by decide +kernel
theorem dL_does_396 : decode cL_does 396 = .ok (.aload_n 0, 1) := by decide +kernel
theorem dL_does_397 : decode cL_does 397 = .ok (.iload_n 3, 1) := by decide +kernel
theorem dL_does_398 : decode cL_does 398 = .ok (.invokestatic 159, 3) := by decide +kernel
theorem dL_does_401 : decode cL_does 401 = .ok (.ireturn, 1) := by decide +kernel
theorem dL_does_402 : decode cL_does 402 = .ok (.aload_n 0, 1) := by decide +kernel
theorem dL_does_403 : decode cL_does 403 = .ok (.iload_n 3, 1) := by decide +kernel
theorem dL_does_404 : decode cL_does 404 = .ok (.bipush 6, 2) := by decide +kernel
theorem dL_does_406 : decode cL_does 406 = .ok (.irem, 1) := by decide +kernel
theorem dL_does_407 : decode cL_does 407 = .ok (.iload_n 3, 1) := by decide +kernel
theorem dL_does_408 : decode cL_does 408 = .ok (.bipush 6, 2) := by decide +kernel
theorem dL_does_410 : decode cL_does 410 = .ok (.idiv, 1) := by decide +kernel
theorem dL_does_411 : decode cL_does 411 = .ok (.iconst 3, 1) := by decide +kernel
theorem dL_does_412 : decode cL_does 412 = .ok (.irem, 1) := by decide +kernel
theorem dL_does_413 : decode cL_does 413 = .ok (.ifCond .le 7, 3) := by decide +kernel
theorem dL_does_416 : decode cL_does 416 = .ok (.iconst 1, 1) := by decide +kernel
theorem dL_does_417 : decode cL_does 417 = .ok (.goto 4, 3) := by decide +kernel
theorem dL_does_420 : decode cL_does 420 = .ok (.iconst 0, 1) := by decide +kernel
theorem dL_does_421 : decode cL_does 421 = .ok (.invokestatic 162, 3) := by decide +kernel
theorem dL_does_424 : decode cL_does 424 = .ok (.istore 5, 2) := by decide +kernel
theorem dL_does_426 : decode cL_does 426 = .ok (.aload_n 1, 1) := by decide +kernel
theorem dL_does_427 : decode cL_does 427 = .ok (.bipush 20, 2) := by decide +kernel
theorem dL_does_429 : decode cL_does 429 = .ok (.iload 5, 2) := by decide +kernel
theorem dL_does_431 : decode cL_does 431 = .ok (.iconst 1, 1) := by decide +kernel
theorem dL_does_432 : decode cL_does 432 = .ok (.if_icmp .ne 7, 3) := by decide +kernel
theorem dL_does_435 : decode cL_does 435 = .ok (.iconst 1, 1) := by decide +kernel
theorem dL_does_436 : decode cL_does 436 = .ok (.goto 7, 3) := by decide +kernel
theorem dL_does_439 : decode cL_does 439 = .ok (.aload_n 1, 1) := by decide +kernel
theorem dL_does_440 : decode cL_does 440 = .ok (.bipush 20, 2) := by decide +kernel
theorem dL_does_442 : decode cL_does 442 = .ok (.iaload, 1) := by decide +kernel
theorem dL_does_443 : decode cL_does 443 = .ok (.iastore, 1) := by decide +kernel
theorem dL_does_444 : decode cL_does 444 = .ok (.aload_n 1, 1) := by decide +kernel
theorem dL_does_445 : decode cL_does 445 = .ok (.bipush 20, 2) := by decide +kernel
theorem dL_does_447 : decode cL_does 447 = .ok (.iaload, 1) := by decide +kernel
theorem dL_does_448 : decode cL_does 448 = .ok (.iconst 1, 1) := by decide +kernel
theorem dL_does_449 : decode cL_does 449 = .ok (.if_icmp .ne 13, 3) := by decide +kernel
theorem dL_does_452 : decode cL_does 452 = .ok (.iload 5, 2) := by decide +kernel
theorem dL_does_454 : decode cL_does 454 = .ok (.ifCond .ne 8, 3) := by decide +kernel
theorem dL_does_457 : decode cL_does 457 = .ok (.bipush (-5), 2) := by decide +kernel
theorem dL_does_459 : decode cL_does 459 = .ok (.goto 5, 3) := by decide +kernel
theorem dL_does_462 : decode cL_does 462 = .ok (.iload 5, 2) := by decide +kernel
theorem dL_does_464 : decode cL_does 464 = .ok (.ireturn, 1) := by decide +kernel
theorem dL_does_465 : decode cL_does 465 = .ok (.aload_n 0, 1) := by decide +kernel
theorem dL_does_466 : decode cL_does 466 = .ok (.iload 4, 2) := by decide +kernel
theorem dL_does_468 : decode cL_does 468 = .ok (.iload_n 3, 1) := by decide +kernel
theorem dL_does_469 : decode cL_does 469 = .ok (.iconst 3, 1) := by decide +kernel
theorem dL_does_470 : decode cL_does 470 = .ok (.idiv, 1) := by decide +kernel
theorem dL_does_471 : decode cL_does 471 = .ok (.bipush 7, 2) := by decide +kernel
theorem dL_does_473 : decode cL_does 473 = .ok (.irem, 1) := by decide +kernel
theorem dL_does_474 : decode cL_does 474 = .ok (.iload_n 3, 1) := by decide +kernel
theorem dL_does_475 : decode cL_does 475 = .ok (.bipush 21, 2) := by decide +kernel
theorem dL_does_477 : decode cL_does 477 = .ok (.idiv, 1) := by decide +kernel
theorem dL_does_478 : decode cL_does 478 = .ok (.bipush 7, 2) := by decide +kernel
theorem dL_does_480 : decode cL_does 480 = .ok (.irem, 1) := by decide +kernel
theorem dL_does_481 : decode cL_does 481 = .ok (.invokestatic 165, 3) := by decide +kernel
theorem dL_does_484 : decode cL_does 484 = .ok (.ireturn, 1) := by decide +kernel
theorem dL_does_485 : decode cL_does 485 = .ok (.aload_n 0, 1) := by decide +kernel
theorem dL_does_486 : decode cL_does 486 = .ok (.aload_n 1, 1) := by decide +kernel
theorem dL_does_487 : decode cL_does 487 = .ok (.iload_n 3, 1) := by decide +kernel
theorem dL_does_488 : decode cL_does 488 = .ok (.invokestatic 167, 3) := by decide +kernel
theorem dL_does_491 : decode cL_does 491 = .ok (.ireturn, 1) := by decide +kernel
set_option maxRecDepth 20000 in
theorem ggL_books_L_book : GoodIn wsL_books wsL_book := goodIn_ca (goodIn_ca (goodIn_r _ [4, 5, 6, 7, 8, 9, 10, 11, 12, 13, 14, 15, 16, 17, 18, 19, 20, 21, 22, 23, 24, 25, 26, 27, 28, 29, 30, 31, 32, 33, 34, 35, 36, 37, 38, 39, 40, 41, 42, 43, 44, 45, 46, 47, 48, 49, 50, 51, 52, 53, 54, 55, 56, 57, 58, 59, 60, 61, 62, 63, 64, 65, 66, 67, 68, 69, 70, 71, 72, 73, 74, 75, 76, 77, 78, 79, 80, 81, 82, 83, 84, 85, 86, 87, 88, 89, 90, 91, 92, 93, 94, 95, 96, 97, 98, 99, 100, 101, 102, 103, 104, 105, 106, 107, 108, 109, 110, 111, 112, 113, 114, 115, 116, 117, 118, 119, 120, 121, 122, 123, 124, 125, 126, 127, 128, 129, 130, 131, 132, 133, 134, 135, 136, 137, 138, 139, 140, 141, 142, 143, 144, 145, 146, 147, 148, 149, 150, 151, 152, 153, 154, 155, 156, 157, 158, 182, 183, 184, 185, 186, 187, 188, 189, 190, 191, 192, 193, 194, 195, 196, 197, 198, 199, 200, 201, 202, 203, 204, 205, 206, 207, 208, 209, 210, 211, 212, 213, 214, 215, 216] (by decide +kernel) (by decide +kernel)) (goodIn_sub (fun _ h => List.mem_cons_of_mem _ (List.mem_append_left _ (List.mem_append_left _ (List.mem_append_right _ h)))) (by decide +kernel))) (goodIn_sub (fun _ h => List.mem_cons_of_mem _ (List.mem_append_left _ (List.mem_append_right _ h))) (by decide +kernel))
set_option maxRecDepth 20000 in
theorem gL_books_L_book : GoodIn wsL_books (va_wsS RL 171 yL_book wsL_book) := goodIn_app (goodIn_of _ (by decide +kernel)) ggL_books_L_book
set_option maxRecDepth 20000 in
theorem ggL_books_L_isRefused : GoodIn wsL_books wsL_isRefused := goodIn_r _ [161, 7, 8, 162] (by decide +kernel) (by decide +kernel)
set_option maxRecDepth 20000 in
theorem gL_books_L_isRefused : GoodIn wsL_books (va_wsS RL 142 yL_isRefused wsL_isRefused) := goodIn_app (goodIn_of _ (by decide +kernel)) ggL_books_L_isRefused
set_option maxRecDepth 20000 in
theorem ggL_books_L_isFresh : GoodIn wsL_books wsL_isFresh := goodIn_ca (goodIn_ca (goodIn_r _ [165, 5, 166, 7, 162, 167, 168, 169, 12, 170, 14, 15, 171, 172, 18, 19, 49, 50, 51, 52, 53, 173, 174, 175, 176, 177, 178, 179, 180, 156, 158, 181, 145, 146, 147, 85, 148, 149, 150, 27, 28, 29, 30, 31, 182, 183, 184, 185, 186, 187, 188, 189, 190, 191, 192, 212, 213, 214, 215, 216, 203, 204, 205, 206, 193, 194, 195] (by decide +kernel) (by decide +kernel)) (goodIn_sub (fun _ h => List.mem_cons_of_mem _ (List.mem_append_left _ (List.mem_append_left _ (List.mem_append_right _ h)))) (by decide +kernel))) (goodIn_sub (fun _ h => List.mem_cons_of_mem _ (List.mem_append_right _ h)) (by decide +kernel))
set_option maxRecDepth 20000 in
theorem gL_books_L_isFresh : GoodIn wsL_books (va_wsS RL 127 yL_isFresh wsL_isFresh) := goodIn_app (goodIn_of _ (by decide +kernel)) ggL_books_L_isFresh
theorem dL_books_0 : decode cL_books 0 = .ok (.iload_n 1, 1) := by decide +kernel
theorem dL_books_1 : decode cL_books 1 = .ok (.iconst 2, 1) := by decide +kernel
theorem dL_books_2 : decode cL_books 2 = .ok (.irem, 1) := by decide +kernel
theorem dL_books_3 : decode cL_books 3 = .ok (.istore_n 2, 1) := by decide +kernel
theorem dL_books_4 : decode cL_books 4 = .ok (.aload_n 0, 1) := by decide +kernel
theorem dL_books_5 : decode cL_books 5 = .ok (.iload_n 2, 1) := by decide +kernel
theorem dL_books_6 : decode cL_books 6 = .ok (.iload_n 1, 1) := by decide +kernel
theorem dL_books_7 : decode cL_books 7 = .ok (.iconst 2, 1) := by decide +kernel
theorem dL_books_8 : decode cL_books 8 = .ok (.idiv, 1) := by decide +kernel
theorem dL_books_9 : decode cL_books 9 = .ok (.iconst 2, 1) := by decide +kernel
theorem dL_books_10 : decode cL_books 10 = .ok (.irem, 1) := by decide +kernel
theorem dL_books_11 : decode cL_books 11 = .ok (.iload_n 1, 1) := by decide +kernel
theorem dL_books_12 : decode cL_books 12 = .ok (.iconst 4, 1) := by decide +kernel
theorem dL_books_13 : decode cL_books 13 = .ok (.idiv, 1) := by decide +kernel
theorem dL_books_14 : decode cL_books 14 = .ok (.iconst 3, 1) := by decide +kernel
theorem dL_books_15 : decode cL_books 15 = .ok (.irem, 1) := by decide +kernel
theorem dL_books_16 : decode cL_books 16 = .ok (.iload_n 1, 1) := by decide +kernel
theorem dL_books_17 : decode cL_books 17 = .ok (.bipush 12, 2) := by decide +kernel
theorem dL_books_19 : decode cL_books 19 = .ok (.idiv, 1) := by decide +kernel
theorem dL_books_20 : decode cL_books 20 = .ok (.iconst 3, 1) := by decide +kernel
theorem dL_books_21 : decode cL_books 21 = .ok (.irem, 1) := by decide +kernel
theorem dL_books_22 : decode cL_books 22 = .ok (.invokestatic 171, 3) := by decide +kernel
theorem dL_books_25 : decode cL_books 25 = .ok (.istore_n 3, 1) := by decide +kernel
theorem dL_books_26 : decode cL_books 26 = .ok (.iload_n 3, 1) := by decide +kernel
theorem dL_books_27 : decode cL_books 27 = .ok (.invokestatic 142, 3) := by decide +kernel
theorem dL_books_30 : decode cL_books 30 = .ok (.ifCond .ne 17, 3) := by decide +kernel
theorem dL_books_33 : decode cL_books 33 = .ok (.aload_n 0, 1) := by decide +kernel
theorem dL_books_34 : decode cL_books 34 = .ok (.iload_n 2, 1) := by decide +kernel
theorem dL_books_35 : decode cL_books 35 = .ok (.invokestatic 127, 3) := by decide +kernel
theorem dL_books_38 : decode cL_books 38 = .ok (.iconst 1, 1) := by decide +kernel
theorem dL_books_39 : decode cL_books 39 = .ok (.if_icmp .eq 8, 3) := by decide +kernel
theorem dL_books_42 : decode cL_books 42 = .ok (.bipush (-5), 2) := by decide +kernel
theorem dL_books_44 : decode cL_books 44 = .ok (.goto 4, 3) := by decide +kernel
theorem dL_books_47 : decode cL_books 47 = .ok (.iload_n 3, 1) := by decide +kernel
theorem dL_books_48 : decode cL_books 48 = .ok (.ireturn, 1) := by decide +kernel
