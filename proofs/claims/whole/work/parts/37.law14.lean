set_option maxRecDepth 20000 in
theorem ggL_law_X9_images : GoodIn wsL_law wsX9_images := goodIn_r _ [808, 502, 460, 461, 462, 5, 463, 420, 339, 340, 341, 345, 346, 347, 348, 349, 503, 504, 505, 506, 168, 169, 186, 199, 200, 201, 507, 508, 509, 510, 165, 511, 512, 513, 514, 166, 515, 516, 517, 518, 167, 988, 989, 990, 991, 992, 993, 994, 995, 996, 997, 998, 999, 1000, 1001, 1002, 1003, 1004, 1005, 1006, 1007, 1008, 1009, 1010, 1011, 1012, 1013, 1014, 1015, 1016, 1017, 1018, 1019, 1020, 1021, 1022, 1023, 1024, 1025, 1026] (by decide +kernel) (by decide +kernel)
set_option maxRecDepth 20000 in
theorem gL_law_X9_images : GoodIn wsL_law (wsV RL 160 RX9 yX9_images wsX9_images) := goodIn_app (goodIn_of _ (by decide +kernel)) ggL_law_X9_images
set_option maxRecDepth 20000 in
theorem ggL_law_L_imagesAnew : GoodIn wsL_law wsL_imagesAnew := goodIn_ca (goodIn_r _ [811, 368, 812, 813, 814, 2, 815, 373, 374, 16, 431, 432, 433, 434, 20, 290, 299, 77, 78, 19, 79, 80, 300, 82, 83, 84, 85, 86, 87, 88, 89, 90, 91, 92, 93, 94, 95, 96, 50, 816, 817, 818, 15, 819, 71, 72, 73, 74, 41, 75, 76, 81, 97, 98, 99, 100, 101, 102, 103, 104, 105, 106, 107, 108, 109, 110, 111, 112, 113, 114, 115, 116, 117, 118, 119, 120, 121, 122, 123, 124, 125, 977, 978, 979, 980, 981, 982, 983, 984, 985, 986, 987, 1046, 1047, 1048, 1049, 1050, 1051, 1052, 1031, 1032, 1033, 1027, 1028, 1029, 1030, 1042, 1043, 1044, 1045] (by decide +kernel) (by decide +kernel)) (goodIn_sub (fun _ h => List.mem_append_right _ h) (by decide +kernel))
set_option maxRecDepth 20000 in
theorem gL_law_L_imagesAnew : GoodIn wsL_law (va_wsS RL 161 yL_imagesAnew wsL_imagesAnew) := goodIn_app (goodIn_of _ (by decide +kernel)) ggL_law_L_imagesAnew
set_option maxRecDepth 20000 in
theorem ggL_law_X9_imagesAnew : GoodIn wsL_law wsX9_imagesAnew := goodIn_r _ [823, 824, 806, 807, 5, 808, 502, 460, 461, 462, 463, 420, 339, 340, 341, 345, 346, 347, 348, 349, 503, 504, 505, 506, 168, 169, 186, 199, 200, 201, 507, 508, 509, 510, 165, 511, 512, 513, 514, 166, 515, 516, 517, 518, 167, 988, 989, 990, 991, 992, 993, 994, 995, 996, 997, 998, 999, 1000, 1001, 1002, 1003, 1004, 1005, 1006, 1007, 1008, 1009, 1010, 1011, 1012, 1013, 1014, 1015, 1016, 1017, 1018, 1019, 1020, 1021, 1022, 1023, 1024, 1025, 1026] (by decide +kernel) (by decide +kernel)
set_option maxRecDepth 20000 in
theorem gL_law_X9_imagesAnew : GoodIn wsL_law (wsV RL 163 RX9 yX9_imagesAnew wsX9_imagesAnew) := goodIn_app (goodIn_of _ (by decide +kernel)) ggL_law_X9_imagesAnew
set_option maxRecDepth 20000 in
theorem ggL_law_L_imageOf : GoodIn wsL_law wsL_imageOf := goodIn_ca (goodIn_ca (goodIn_r _ [827, 368, 206, 828, 829, 830, 2, 831, 373, 374, 212, 213, 431, 432, 433, 434, 20, 290, 299, 77, 78, 19, 79, 80, 300, 82, 83, 84, 85, 86, 87, 88, 89, 90, 91, 92, 93, 94, 95, 96, 50, 478, 479, 480, 304, 481, 312, 616, 617, 618, 619, 330, 620, 832, 66, 15, 67, 833, 69, 70, 622, 623, 624, 625, 16, 626, 627, 628, 629, 630, 631, 632, 633, 43, 44, 322, 323, 324, 325, 612, 613, 614, 615, 621, 332, 333, 334, 45, 608, 609, 610, 611, 35, 977, 978, 979, 980, 981, 982, 983, 984, 985, 986, 987, 1031, 1032, 1033, 1046, 1047, 1048, 1049, 1050, 1051, 1052, 1027, 1028, 1029, 1030] (by decide +kernel) (by decide +kernel)) (goodIn_sub (fun _ h => List.mem_append_right _ h) (by decide +kernel))) (goodIn_sub (fun _ h => List.mem_append_left _ (List.mem_append_left _ (List.mem_append_right _ h))) (by decide +kernel))
set_option maxRecDepth 20000 in
theorem gL_law_L_imageOf : GoodIn wsL_law (va_wsS RL 164 yL_imageOf wsL_imageOf) := goodIn_app (goodIn_of _ (by decide +kernel)) ggL_law_L_imageOf
set_option maxRecDepth 20000 in
theorem ggL_law_X9_imageOf : GoodIn wsL_law wsX9_imageOf := goodIn_r _ [837, 186, 167, 498, 499, 500, 5, 501, 502, 460, 461, 462, 463, 420, 339, 340, 341, 503, 504, 505, 506, 168, 169, 199, 200, 201, 507, 508, 509, 510, 165, 511, 512, 513, 514, 166, 515, 516, 517, 518, 345, 346, 347, 348, 349, 665, 666, 667, 668, 669, 670, 671, 672, 180, 988, 989, 990, 991, 992, 993, 994, 995, 996, 997, 998, 999, 1000, 1001, 1002, 1003, 1004, 1005, 1006, 1007, 1008, 1009, 1010, 1011, 1012, 1013, 1014, 1015, 1016, 1017, 1018, 1019, 1020, 1021, 1022, 1023, 1024, 1025, 1026] (by decide +kernel) (by decide +kernel)
set_option maxRecDepth 20000 in
theorem gL_law_X9_imageOf : GoodIn wsL_law (wsV RL 166 RX9 yX9_imageOf wsX9_imageOf) := goodIn_app (goodIn_of _ (by decide +kernel)) ggL_law_X9_imageOf
set_option maxRecDepth 20000 in
theorem ggL_law_L_hits : GoodIn wsL_law wsL_hits := goodIn_ca (goodIn_r _ [840, 206, 841, 842, 843, 2, 844, 212, 213, 16, 221, 222, 223, 218, 219, 220, 845, 846, 847, 15, 848, 849, 316, 317, 850, 319, 320, 321, 43, 44, 322, 323, 324, 325, 977, 978, 979, 980, 981, 982, 983, 984, 985, 986, 987, 1027, 1028, 1029, 1030] (by decide +kernel) (by decide +kernel)) (goodIn_sub (fun _ h => List.mem_append_left _ (List.mem_append_left _ (List.mem_append_right _ h))) (by decide +kernel))
set_option maxRecDepth 20000 in
theorem gL_law_L_hits : GoodIn wsL_law (va_wsS RL 167 yL_hits wsL_hits) := goodIn_app (goodIn_of _ (by decide +kernel)) ggL_law_L_hits
set_option maxRecDepth 20000 in
theorem ggL_law_X9_hits : GoodIn wsL_law wsX9_hits := goodIn_r _ [854, 342, 343, 5, 344, 339, 340, 341, 345, 346, 347, 348, 349, 855, 856, 857, 858, 199, 200, 201, 507, 508, 509, 510, 165, 511, 512, 513, 514, 166, 988, 989, 990, 991, 992, 993, 994, 995, 996, 997, 998, 999, 1000, 1001, 1002, 1003, 1004, 1005, 1006, 1007, 1008, 1009, 1010, 1011, 1012, 1013, 1014, 1015, 1016, 1017, 1018, 1019, 1020, 1021, 1022, 1023, 1024, 1025, 1026] (by decide +kernel) (by decide +kernel)
set_option maxRecDepth 20000 in
theorem gL_law_X9_hits : GoodIn wsL_law (wsV RL 169 RX9 yX9_hits wsX9_hits) := goodIn_app (goodIn_of _ (by decide +kernel)) ggL_law_X9_hits
set_option maxRecDepth 20000 in
theorem ggL_law_X8_lost : GoodIn wsL_law wsX8_lost := goodIn_r _ [862, 16, 863, 864, 865, 15, 866, 849, 316, 317, 867, 791, 792, 793, 43, 322, 323, 324, 325, 868, 787, 788, 789, 44, 222, 2, 223, 218, 219, 220, 977, 978, 979, 980, 981, 982, 983, 984, 985, 986, 987, 1027, 1028, 1029, 1030] (by decide +kernel) (by decide +kernel)
set_option maxRecDepth 20000 in
theorem gL_law_X8_lost : GoodIn wsL_law (wsV RL 170 RX8 yX8_lost wsX8_lost) := goodIn_app (goodIn_of _ (by decide +kernel)) ggL_law_X8_lost
