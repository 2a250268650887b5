set_option maxRecDepth 20000 in
theorem ggL_law_X9_seen : GoodIn wsL_law wsX9_seen := goodIn_r _ [915, 359, 339, 340, 5, 341, 460, 461, 462, 463, 420, 345, 346, 347, 348, 349, 741, 742, 743, 744, 182, 988, 989, 990, 991, 992, 993, 994, 995, 996, 997, 998, 999, 1000, 1001, 1002, 1003, 1004, 1005, 1006, 1007, 1008, 1009, 1010, 1011, 1012, 1013, 1014, 1015, 1016, 1017, 1018, 1019, 1020, 1021, 1022, 1023, 1024, 1025, 1026] (by decide +kernel) (by decide +kernel)
set_option maxRecDepth 20000 in
theorem gL_law_X9_seen : GoodIn wsL_law (wsV RL 186 RX9 yX9_seen wsX9_seen) := goodIn_app (goodIn_of _ (by decide +kernel)) ggL_law_X9_seen
set_option maxRecDepth 20000 in
theorem ggL_law_L_measured : GoodIn wsL_law wsL_measured := goodIn_ca (goodIn_ca (goodIn_r _ [918, 368, 206, 919, 920, 921, 2, 922, 373, 374, 212, 213, 431, 432, 433, 434, 20, 290, 299, 77, 78, 19, 79, 80, 300, 82, 83, 84, 85, 86, 87, 88, 89, 90, 91, 92, 93, 94, 95, 96, 50, 695, 696, 697, 478, 479, 480, 304, 481, 312, 698, 699, 700, 701, 607, 108, 109, 110, 26, 622, 623, 624, 625, 16, 616, 617, 618, 619, 330, 620, 626, 627, 628, 15, 629, 630, 631, 632, 633, 43, 44, 322, 323, 324, 325, 702, 703, 704, 25, 705, 140, 141, 139, 578, 706, 707, 155, 708, 709, 154, 156, 554, 579, 710, 711, 712, 590, 713, 596, 648, 649, 650, 651, 219, 220, 714, 715, 716, 717, 718, 719, 720, 721, 722, 977, 978, 979, 980, 981, 982, 983, 984, 985, 986, 987, 1031, 1032, 1033, 1046, 1047, 1048, 1049, 1050, 1051, 1052, 1027, 1028, 1029, 1030, 1034, 1035, 1036, 1059, 1060] (by decide +kernel) (by decide +kernel)) (goodIn_sub (fun _ h => List.mem_append_right _ h) (by decide +kernel))) (goodIn_sub (fun _ h => List.mem_append_left _ (List.mem_append_left _ (List.mem_append_right _ h))) (by decide +kernel))
set_option maxRecDepth 20000 in
theorem gL_law_L_measured : GoodIn wsL_law (va_wsS RL 187 yL_measured wsL_measured) := goodIn_app (goodIn_of _ (by decide +kernel)) ggL_law_L_measured
set_option maxRecDepth 20000 in
theorem ggL_law_X9_measured : GoodIn wsL_law wsX9_measured := goodIn_r _ [926, 498, 499, 500, 5, 501, 502, 460, 461, 462, 463, 420, 339, 340, 341, 503, 504, 505, 506, 168, 169, 186, 199, 200, 201, 507, 508, 509, 510, 165, 511, 512, 513, 514, 166, 515, 516, 517, 518, 167, 345, 346, 347, 348, 349, 737, 738, 739, 740, 359, 181, 665, 666, 667, 668, 196, 197, 198, 741, 742, 743, 744, 182, 988, 989, 990, 991, 992, 993, 994, 995, 996, 997, 998, 999, 1000, 1001, 1002, 1003, 1004, 1005, 1006, 1007, 1008, 1009, 1010, 1011, 1012, 1013, 1014, 1015, 1016, 1017, 1018, 1019, 1020, 1021, 1022, 1023, 1024, 1025, 1026] (by decide +kernel) (by decide +kernel)
set_option maxRecDepth 20000 in
theorem gL_law_X9_measured : GoodIn wsL_law (wsV RL 189 RX9 yX9_measured wsX9_measured) := goodIn_app (goodIn_of _ (by decide +kernel)) ggL_law_X9_measured
set_option maxRecDepth 20000 in
theorem ggL_law_L_booked : GoodIn wsL_law wsL_booked := goodIn_ca (goodIn_ca (goodIn_r _ [929, 368, 207, 930, 931, 932, 2, 933, 373, 374, 214, 215, 30, 691, 692, 693, 29, 694, 761, 762, 763, 764, 152, 934, 935, 936, 937, 147, 731, 977, 978, 979, 980, 981, 982, 983, 984, 985, 986, 987, 1037, 1038, 1039, 1040, 1041] (by decide +kernel) (by decide +kernel)) (goodIn_sub (fun _ h => List.mem_append_right _ h) (by decide +kernel))) (goodIn_sub (fun _ h => List.mem_append_left _ (List.mem_append_right _ h)) (by decide +kernel))
set_option maxRecDepth 20000 in
theorem gL_law_L_booked : GoodIn wsL_law (va_wsS RL 190 yL_booked wsL_booked) := goodIn_app (goodIn_of _ (by decide +kernel)) ggL_law_L_booked
set_option maxRecDepth 20000 in
theorem ggL_law_X9_booked : GoodIn wsL_law wsX9_booked := goodIn_r _ [941, 769, 183, 942, 943, 944, 5, 945, 339, 340, 341, 345, 346, 347, 348, 349, 988, 989, 990, 991, 992, 993, 994, 995, 996, 997, 998, 999, 1000, 1001, 1002, 1003, 1004, 1005, 1006, 1007, 1008, 1009, 1010, 1011, 1012, 1013, 1014, 1015, 1016, 1017, 1018, 1019, 1020, 1021, 1022, 1023, 1024, 1025, 1026] (by decide +kernel) (by decide +kernel)
set_option maxRecDepth 20000 in
theorem gL_law_X9_booked : GoodIn wsL_law (wsV RL 192 RX9 yX9_booked wsX9_booked) := goodIn_app (goodIn_of _ (by decide +kernel)) ggL_law_X9_booked
set_option maxRecDepth 20000 in
theorem ggL_law_L_isFresh : GoodIn wsL_law wsL_isFresh := goodIn_ca (goodIn_ca (goodIn_r _ [948, 368, 207, 949, 950, 951, 2, 952, 373, 374, 214, 215, 30, 16, 691, 692, 693, 29, 694, 953, 954, 955, 956, 957, 958, 959, 960, 148, 731, 961, 723, 724, 725, 15, 726, 41, 76, 77, 78, 19, 79, 80, 977, 978, 979, 980, 981, 982, 983, 984, 985, 986, 987, 1037, 1038, 1039, 1040, 1041, 1027, 1028, 1029, 1030, 1031, 1032, 1033] (by decide +kernel) (by decide +kernel)) (goodIn_sub (fun _ h => List.mem_append_right _ h) (by decide +kernel))) (goodIn_sub (fun _ h => List.mem_append_left _ (List.mem_append_right _ h)) (by decide +kernel))
set_option maxRecDepth 20000 in
theorem gL_law_L_isFresh : GoodIn wsL_law (va_wsS RL 193 yL_isFresh wsL_isFresh) := goodIn_app (goodIn_of _ (by decide +kernel)) ggL_law_L_isFresh
set_option maxRecDepth 20000 in
theorem ggL_law_X9_isFresh : GoodIn wsL_law wsX9_isFresh := goodIn_r _ [965, 184, 358, 942, 943, 944, 5, 945, 339, 340, 341, 345, 346, 347, 348, 349, 988, 989, 990, 991, 992, 993, 994, 995, 996, 997, 998, 999, 1000, 1001, 1002, 1003, 1004, 1005, 1006, 1007, 1008, 1009, 1010, 1011, 1012, 1013, 1014, 1015, 1016, 1017, 1018, 1019, 1020, 1021, 1022, 1023, 1024, 1025, 1026] (by decide +kernel) (by decide +kernel)
set_option maxRecDepth 20000 in
theorem gL_law_X9_isFresh : GoodIn wsL_law (wsV RL 195 RX9 yX9_isFresh wsX9_isFresh) := goodIn_app (goodIn_of _ (by decide +kernel)) ggL_law_X9_isFresh
set_option maxRecDepth 20000 in
theorem ggL_law_L_dispute : GoodIn wsL_law wsL_dispute := goodIn_ca (goodIn_r _ [968, 207, 969, 970, 971, 2, 972, 214, 215, 30, 607, 108, 109, 110, 761, 762, 763, 29, 764, 152, 934, 935, 936, 937, 147, 731, 692, 693, 694, 977, 978, 979, 980, 981, 982, 983, 984, 985, 986, 987, 1037, 1038, 1039, 1040, 1041] (by decide +kernel) (by decide +kernel)) (goodIn_sub (fun _ h => List.mem_append_left _ (List.mem_append_right _ h)) (by decide +kernel))
set_option maxRecDepth 20000 in
theorem gL_law_L_dispute : GoodIn wsL_law (va_wsS RL 196 yL_dispute wsL_dispute) := goodIn_app (goodIn_of _ (by decide +kernel)) ggL_law_L_dispute
