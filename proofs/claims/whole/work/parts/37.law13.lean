set_option maxRecDepth 20000 in
theorem ggL_law_X9_book : GoodIn wsL_law wsX9_book := goodIn_r _ [735, 167, 186, 183, 184, 358, 736, 339, 340, 5, 341, 498, 499, 500, 501, 502, 460, 461, 462, 463, 420, 503, 504, 505, 506, 168, 169, 199, 200, 201, 507, 508, 509, 510, 165, 511, 512, 513, 514, 166, 515, 516, 517, 518, 345, 346, 347, 348, 349, 737, 738, 739, 740, 359, 181, 665, 666, 667, 668, 196, 197, 198, 741, 742, 743, 744, 182, 988, 989, 990, 991, 992, 993, 994, 995, 996, 997, 998, 999, 1000, 1001, 1002, 1003, 1004, 1005, 1006, 1007, 1008, 1009, 1010, 1011, 1012, 1013, 1014, 1015, 1016, 1017, 1018, 1019, 1020, 1021, 1022, 1023, 1024, 1025, 1026] (by decide +kernel) (by decide +kernel)
set_option maxRecDepth 20000 in
theorem gL_law_X9_book : GoodIn wsL_law (wsV RL 145 RX9 yX9_book wsX9_book) := goodIn_app (goodIn_of _ (by decide +kernel)) ggL_law_X9_book
set_option maxRecDepth 20000 in
theorem ggL_law_L_vote : GoodIn wsL_law wsL_vote := goodIn_ca (goodIn_r _ [747, 368, 748, 749, 750, 2, 751, 373, 374, 30, 752, 753, 754, 29, 755, 151, 756, 757, 758, 759, 152, 760, 761, 762, 763, 764, 977, 978, 979, 980, 981, 982, 983, 984, 985, 986, 987, 1037, 1038, 1039, 1040, 1041] (by decide +kernel) (by decide +kernel)) (goodIn_sub (fun _ h => List.mem_append_right _ h) (by decide +kernel))
set_option maxRecDepth 20000 in
theorem gL_law_L_vote : GoodIn wsL_law (va_wsS RL 146 yL_vote wsL_vote) := goodIn_app (goodIn_of _ (by decide +kernel)) ggL_law_L_vote
set_option maxRecDepth 20000 in
theorem ggL_law_X9_vote : GoodIn wsL_law wsX9_vote := goodIn_r _ [768, 185, 769, 339, 340, 5, 341, 345, 346, 347, 348, 349, 988, 989, 990, 991, 992, 993, 994, 995, 996, 997, 998, 999, 1000, 1001, 1002, 1003, 1004, 1005, 1006, 1007, 1008, 1009, 1010, 1011, 1012, 1013, 1014, 1015, 1016, 1017, 1018, 1019, 1020, 1021, 1022, 1023, 1024, 1025, 1026] (by decide +kernel) (by decide +kernel)
set_option maxRecDepth 20000 in
theorem gL_law_X9_vote : GoodIn wsL_law (wsV RL 149 RX9 yX9_vote wsX9_vote) := goodIn_app (goodIn_of _ (by decide +kernel)) ggL_law_X9_vote
set_option maxRecDepth 20000 in
theorem ggL_law_X8_day : GoodIn wsL_law wsX8_day := goodIn_r _ [773, 31, 977, 978, 979, 980, 981, 982, 983, 984, 985, 986, 987] (by decide +kernel) (by decide +kernel)
set_option maxRecDepth 20000 in
theorem gL_law_X8_day : GoodIn wsL_law (wsV RL 150 RX8 yX8_day wsX8_day) := goodIn_app (goodIn_of _ (by decide +kernel)) ggL_law_X8_day
set_option maxRecDepth 20000 in
theorem ggL_law_X9_day : GoodIn wsL_law wsX9_day := goodIn_r _ [777, 349, 459, 988, 989, 990, 991, 992, 993, 994, 995, 996, 997, 998, 999, 1000, 1001, 1002, 1003, 1004, 1005, 1006, 1007, 1008, 1009, 1010, 1011, 1012, 1013, 1014, 1015, 1016, 1017, 1018, 1019, 1020, 1021, 1022, 1023, 1024, 1025, 1026] (by decide +kernel) (by decide +kernel)
set_option maxRecDepth 20000 in
theorem gL_law_X9_day : GoodIn wsL_law (wsV RL 153 RX9 yX9_day wsX9_day) := goodIn_app (goodIn_of _ (by decide +kernel)) ggL_law_X9_day
set_option maxRecDepth 20000 in
theorem ggL_law_L_from : GoodIn wsL_law wsL_from := goodIn_ca (goodIn_r _ [780, 206, 781, 782, 783, 2, 784, 212, 213, 16, 221, 222, 223, 218, 219, 220, 785, 316, 15, 317, 786, 787, 788, 789, 44, 322, 323, 324, 325, 43, 790, 791, 792, 793, 977, 978, 979, 980, 981, 982, 983, 984, 985, 986, 987, 1027, 1028, 1029, 1030] (by decide +kernel) (by decide +kernel)) (goodIn_sub (fun _ h => List.mem_append_left _ (List.mem_append_left _ (List.mem_append_right _ h))) (by decide +kernel))
set_option maxRecDepth 20000 in
theorem gL_law_L_from : GoodIn wsL_law (va_wsS RL 154 yL_from wsL_from) := goodIn_app (goodIn_of _ (by decide +kernel)) ggL_law_L_from
set_option maxRecDepth 20000 in
theorem ggL_law_X9_from : GoodIn wsL_law wsX9_from := goodIn_r _ [797, 342, 343, 5, 344, 339, 340, 341, 345, 346, 347, 348, 349, 199, 200, 201, 511, 512, 513, 514, 166, 507, 508, 509, 510, 165, 988, 989, 990, 991, 992, 993, 994, 995, 996, 997, 998, 999, 1000, 1001, 1002, 1003, 1004, 1005, 1006, 1007, 1008, 1009, 1010, 1011, 1012, 1013, 1014, 1015, 1016, 1017, 1018, 1019, 1020, 1021, 1022, 1023, 1024, 1025, 1026] (by decide +kernel) (by decide +kernel)
set_option maxRecDepth 20000 in
theorem gL_law_X9_from : GoodIn wsL_law (wsV RL 157 RX9 yX9_from wsX9_from) := goodIn_app (goodIn_of _ (by decide +kernel)) ggL_law_X9_from
set_option maxRecDepth 20000 in
theorem ggL_law_L_images : GoodIn wsL_law wsL_images := goodIn_ca (goodIn_r _ [800, 368, 801, 802, 803, 2, 804, 373, 374, 431, 432, 433, 434, 20, 290, 299, 77, 78, 19, 79, 80, 300, 82, 83, 84, 85, 86, 87, 88, 89, 90, 91, 92, 93, 94, 95, 96, 50, 599, 600, 601, 304, 602, 312, 977, 978, 979, 980, 981, 982, 983, 984, 985, 986, 987, 1031, 1032, 1033, 1046, 1047, 1048, 1049, 1050, 1051, 1052] (by decide +kernel) (by decide +kernel)) (goodIn_sub (fun _ h => List.mem_append_right _ h) (by decide +kernel))
set_option maxRecDepth 20000 in
theorem gL_law_L_images : GoodIn wsL_law (va_wsS RL 158 yL_images wsL_images) := goodIn_app (goodIn_of _ (by decide +kernel)) ggL_law_L_images
