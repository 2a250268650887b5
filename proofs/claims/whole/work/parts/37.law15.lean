set_option maxRecDepth 20000 in
theorem ggL_law_X9_lost : GoodIn wsL_law wsX9_lost := goodIn_r _ [872, 349, 199, 200, 5, 201, 507, 508, 509, 510, 165, 342, 343, 344, 339, 340, 341, 511, 512, 513, 514, 166, 988, 989, 990, 991, 992, 993, 994, 995, 996, 997, 998, 999, 1000, 1001, 1002, 1003, 1004, 1005, 1006, 1007, 1008, 1009, 1010, 1011, 1012, 1013, 1014, 1015, 1016, 1017, 1018, 1019, 1020, 1021, 1022, 1023, 1024, 1025, 1026] (by decide +kernel) (by decide +kernel)
set_option maxRecDepth 20000 in
theorem gL_law_X9_lost : GoodIn wsL_law (wsV RL 173 RX9 yX9_lost wsX9_lost) := goodIn_app (goodIn_of _ (by decide +kernel)) ggL_law_X9_lost
set_option maxRecDepth 20000 in
theorem ggL_law_L_delay : GoodIn wsL_law wsL_delay := goodIn_ca (goodIn_r _ [875, 368, 876, 877, 878, 2, 879, 373, 374, 431, 432, 433, 434, 20, 290, 299, 77, 78, 19, 79, 80, 300, 82, 83, 84, 85, 86, 87, 88, 89, 90, 91, 92, 93, 94, 95, 96, 50, 695, 696, 697, 478, 479, 480, 304, 481, 312, 608, 609, 610, 611, 35, 612, 613, 614, 615, 16, 616, 617, 618, 619, 330, 620, 621, 332, 333, 15, 334, 45, 322, 323, 324, 325, 43, 977, 978, 979, 980, 981, 982, 983, 984, 985, 986, 987, 1031, 1032, 1033, 1046, 1047, 1048, 1049, 1050, 1051, 1052, 1027, 1028, 1029, 1030] (by decide +kernel) (by decide +kernel)) (goodIn_sub (fun _ h => List.mem_append_right _ h) (by decide +kernel))
set_option maxRecDepth 20000 in
theorem gL_law_L_delay : GoodIn wsL_law (va_wsS RL 174 yL_delay wsL_delay) := goodIn_app (goodIn_of _ (by decide +kernel)) ggL_law_L_delay
set_option maxRecDepth 20000 in
theorem ggL_law_X9_delay : GoodIn wsL_law wsX9_delay := goodIn_r _ [883, 498, 499, 500, 5, 501, 502, 460, 461, 462, 463, 420, 339, 340, 341, 503, 504, 505, 506, 168, 169, 186, 199, 200, 201, 507, 508, 509, 510, 165, 511, 512, 513, 514, 166, 515, 516, 517, 518, 167, 345, 346, 347, 348, 349, 669, 670, 671, 672, 180, 988, 989, 990, 991, 992, 993, 994, 995, 996, 997, 998, 999, 1000, 1001, 1002, 1003, 1004, 1005, 1006, 1007, 1008, 1009, 1010, 1011, 1012, 1013, 1014, 1015, 1016, 1017, 1018, 1019, 1020, 1021, 1022, 1023, 1024, 1025, 1026] (by decide +kernel) (by decide +kernel)
set_option maxRecDepth 20000 in
theorem gL_law_X9_delay : GoodIn wsL_law (wsV RL 176 RX9 yX9_delay wsX9_delay) := goodIn_app (goodIn_of _ (by decide +kernel)) ggL_law_X9_delay
set_option maxRecDepth 20000 in
theorem ggL_law_L_light : GoodIn wsL_law wsL_light := goodIn_ca (goodIn_r _ [886, 368, 887, 888, 889, 2, 890, 373, 374, 431, 432, 433, 434, 20, 290, 299, 77, 78, 19, 79, 80, 300, 82, 83, 84, 85, 86, 87, 88, 89, 90, 91, 92, 93, 94, 95, 96, 50, 478, 479, 480, 304, 481, 312, 603, 604, 605, 606, 31, 607, 108, 109, 110, 608, 609, 610, 611, 35, 612, 613, 614, 615, 16, 616, 617, 618, 619, 330, 620, 621, 332, 333, 15, 334, 45, 322, 323, 324, 325, 43, 446, 447, 448, 449, 413, 412, 450, 451, 255, 256, 452, 453, 622, 623, 624, 625, 626, 627, 628, 629, 630, 631, 632, 633, 44, 634, 635, 636, 637, 306, 638, 639, 640, 641, 477, 642, 488, 487, 643, 489, 977, 978, 979, 980, 981, 982, 983, 984, 985, 986, 987, 1031, 1032, 1033, 1046, 1047, 1048, 1049, 1050, 1051, 1052, 1027, 1028, 1029, 1030, 1053, 1054, 1055, 1056, 1057, 1058] (by decide +kernel) (by decide +kernel)) (goodIn_sub (fun _ h => List.mem_append_right _ h) (by decide +kernel))
set_option maxRecDepth 20000 in
theorem gL_law_L_light : GoodIn wsL_law (va_wsS RL 177 yL_light wsL_light) := goodIn_app (goodIn_of _ (by decide +kernel)) ggL_law_L_light
set_option maxRecDepth 20000 in
theorem ggL_law_X9_light : GoodIn wsL_law wsX9_light := goodIn_r _ [894, 498, 499, 500, 5, 501, 502, 460, 461, 462, 463, 420, 339, 340, 341, 503, 504, 505, 506, 168, 169, 186, 199, 200, 201, 507, 508, 509, 510, 165, 511, 512, 513, 514, 166, 515, 516, 517, 518, 167, 345, 346, 347, 348, 349, 661, 662, 663, 664, 459, 360, 177, 176, 174, 175, 178, 665, 666, 667, 668, 196, 197, 198, 669, 670, 671, 672, 180, 464, 465, 466, 467, 170, 458, 171, 172, 173, 988, 989, 990, 991, 992, 993, 994, 995, 996, 997, 998, 999, 1000, 1001, 1002, 1003, 1004, 1005, 1006, 1007, 1008, 1009, 1010, 1011, 1012, 1013, 1014, 1015, 1016, 1017, 1018, 1019, 1020, 1021, 1022, 1023, 1024, 1025, 1026] (by decide +kernel) (by decide +kernel)
set_option maxRecDepth 20000 in
theorem gL_law_X9_light : GoodIn wsL_law (wsV RL 179 RX9 yX9_light wsX9_light) := goodIn_app (goodIn_of _ (by decide +kernel)) ggL_law_X9_light
set_option maxRecDepth 20000 in
theorem ggL_law_X8_frames : GoodIn wsL_law wsX8_frames := goodIn_r _ [898, 26, 550, 551, 552, 25, 553, 139, 554, 77, 78, 19, 79, 80, 977, 978, 979, 980, 981, 982, 983, 984, 985, 986, 987, 1034, 1035, 1036, 1031, 1032, 1033] (by decide +kernel) (by decide +kernel)
set_option maxRecDepth 20000 in
theorem gL_law_X8_frames : GoodIn wsL_law (wsV RL 180 RX8 yX8_frames wsX8_frames) := goodIn_app (goodIn_of _ (by decide +kernel)) ggL_law_X8_frames
set_option maxRecDepth 20000 in
theorem ggL_law_X9_frames : GoodIn wsL_law wsX9_frames := goodIn_r _ [902, 349, 359, 988, 989, 990, 991, 992, 993, 994, 995, 996, 997, 998, 999, 1000, 1001, 1002, 1003, 1004, 1005, 1006, 1007, 1008, 1009, 1010, 1011, 1012, 1013, 1014, 1015, 1016, 1017, 1018, 1019, 1020, 1021, 1022, 1023, 1024, 1025, 1026] (by decide +kernel) (by decide +kernel)
set_option maxRecDepth 20000 in
theorem gL_law_X9_frames : GoodIn wsL_law (wsV RL 183 RX9 yX9_frames wsX9_frames) := goodIn_app (goodIn_of _ (by decide +kernel)) ggL_law_X9_frames
set_option maxRecDepth 20000 in
theorem ggL_law_L_seen : GoodIn wsL_law wsL_seen := goodIn_ca (goodIn_ca (goodIn_r _ [905, 368, 206, 906, 907, 908, 2, 909, 373, 374, 212, 213, 26, 910, 575, 576, 25, 577, 139, 578, 554, 77, 78, 19, 79, 80, 579, 82, 83, 84, 85, 86, 87, 88, 89, 90, 91, 92, 93, 94, 95, 96, 50, 431, 432, 433, 434, 20, 290, 299, 300, 218, 219, 220, 911, 711, 712, 590, 713, 596, 648, 649, 650, 651, 977, 978, 979, 980, 981, 982, 983, 984, 985, 986, 987, 1034, 1035, 1036, 1031, 1032, 1033, 1059, 1060] (by decide +kernel) (by decide +kernel)) (goodIn_sub (fun _ h => List.mem_append_right _ h) (by decide +kernel))) (goodIn_sub (fun _ h => List.mem_append_left _ (List.mem_append_left _ (List.mem_append_right _ h))) (by decide +kernel))
set_option maxRecDepth 20000 in
theorem gL_law_L_seen : GoodIn wsL_law (va_wsS RL 184 yL_seen wsL_seen) := goodIn_app (goodIn_of _ (by decide +kernel)) ggL_law_L_seen
