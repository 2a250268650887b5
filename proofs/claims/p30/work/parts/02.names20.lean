set_option maxRecDepth 20000 in
theorem ggL_sum_L_isFresh : GoodIn wsL_sum wsL_isFresh := goodIn_ca (goodIn_ca (goodIn_r _ [230, 95, 28, 96, 29, 231, 232, 233, 4, 234, 101, 102, 34, 35, 36, 67, 227, 53, 54, 44, 55, 235, 236, 237, 238, 239, 240, 241, 242, 243, 52, 244, 245, 246, 247, 76, 248, 249, 250, 19, 20, 21, 22, 23, 274, 275, 276, 277, 278, 279, 280, 281, 282, 283, 284, 291, 292, 293, 294, 295, 296, 297, 298, 299, 288, 289, 290] (by decide +kernel) (by decide +kernel)) (goodIn_sub (fun _ h => List.mem_cons_of_mem _ (List.mem_append_right _ h)) (by decide +kernel))) (goodIn_sub (fun _ h => List.mem_cons_of_mem _ (List.mem_append_left _ (List.mem_append_left _ (List.mem_append_right _ h)))) (by decide +kernel))
set_option maxRecDepth 20000 in
theorem gL_sum_L_isFresh : GoodIn wsL_sum (va_wsS RL 127 yL_isFresh wsL_isFresh) := goodIn_app (goodIn_of _ (by decide +kernel)) ggL_sum_L_isFresh
set_option maxRecDepth 20000 in
theorem ggL_sum_L_seen : GoodIn wsL_sum wsL_seen := goodIn_ca (goodIn_ca (goodIn_r _ [253, 95, 59, 96, 60, 254, 255, 256, 4, 257, 101, 102, 65, 66, 11, 258, 259, 260, 15, 261, 17, 262, 18, 19, 20, 21, 22, 23, 263, 111, 112, 113, 114, 115, 116, 117, 118, 119, 120, 121, 122, 123, 124, 125, 126, 103, 104, 105, 106, 107, 108, 109, 110, 71, 72, 73, 264, 265, 266, 267, 268, 269, 270, 271, 272, 273, 274, 275, 276, 277, 278, 279, 280, 281, 282, 283, 284, 285, 286, 287, 288, 289, 290, 313, 314] (by decide +kernel) (by decide +kernel)) (goodIn_sub (fun _ h => List.mem_cons_of_mem _ (List.mem_append_right _ h)) (by decide +kernel))) (goodIn_sub (fun _ h => List.mem_cons_of_mem _ (List.mem_append_left _ (List.mem_append_right _ h))) (by decide +kernel))
set_option maxRecDepth 20000 in
theorem gL_sum_L_seen : GoodIn wsL_sum (va_wsS RL 129 yL_seen wsL_seen) := goodIn_app (goodIn_of _ (by decide +kernel)) ggL_sum_L_seen
theorem dL_sum_0 : decode cL_sum 0 = .ok (.aload_n 0, 1) := by decide +kernel
theorem dL_sum_1 : decode cL_sum 1 = .ok (.invokevirtual 104, 3) := by decide +kernel
theorem dL_sum_4 : decode cL_sum 4 = .ok (.iconst 3, 1) := by decide +kernel
theorem dL_sum_5 : decode cL_sum 5 = .ok (.aload_n 0, 1) := by decide +kernel
theorem dL_sum_6 : decode cL_sum 6 = .ok (.invokevirtual 107, 3) := by decide +kernel
theorem dL_sum_9 : decode cL_sum 9 = .ok (.imul, 1) := by decide +kernel
theorem dL_sum_10 : decode cL_sum 10 = .ok (.iadd, 1) := by decide +kernel
theorem dL_sum_11 : decode cL_sum 11 = .ok (.iconst 5, 1) := by decide +kernel
theorem dL_sum_12 : decode cL_sum 12 = .ok (.aload_n 0, 1) := by decide +kernel
theorem dL_sum_13 : decode cL_sum 13 = .ok (.invokestatic 110, 3) := by decide +kernel
theorem dL_sum_16 : decode cL_sum 16 = .ok (.imul, 1) := by decide +kernel
theorem dL_sum_17 : decode cL_sum 17 = .ok (.iadd, 1) := by decide +kernel
theorem dL_sum_18 : decode cL_sum 18 = .ok (.bipush 7, 2) := by decide +kernel
theorem dL_sum_20 : decode cL_sum 20 = .ok (.aload_n 0, 1) := by decide +kernel
theorem dL_sum_21 : decode cL_sum 21 = .ok (.iload_n 1, 1) := by decide +kernel
theorem dL_sum_22 : decode cL_sum 22 = .ok (.bipush 21, 2) := by decide +kernel
theorem dL_sum_24 : decode cL_sum 24 = .ok (.irem, 1) := by decide +kernel
theorem dL_sum_25 : decode cL_sum 25 = .ok (.bipush 10, 2) := by decide +kernel
theorem dL_sum_27 : decode cL_sum 27 = .ok (.isub, 1) := by decide +kernel
theorem dL_sum_28 : decode cL_sum 28 = .ok (.iload_n 1, 1) := by decide +kernel
theorem dL_sum_29 : decode cL_sum 29 = .ok (.bipush 21, 2) := by decide +kernel
theorem dL_sum_31 : decode cL_sum 31 = .ok (.idiv, 1) := by decide +kernel
theorem dL_sum_32 : decode cL_sum 32 = .ok (.bipush 21, 2) := by decide +kernel
theorem dL_sum_34 : decode cL_sum 34 = .ok (.irem, 1) := by decide +kernel
theorem dL_sum_35 : decode cL_sum 35 = .ok (.bipush 10, 2) := by decide +kernel
theorem dL_sum_37 : decode cL_sum 37 = .ok (.isub, 1) := by decide +kernel
theorem dL_sum_38 : decode cL_sum 38 = .ok (.iload_n 1, 1) := by decide +kernel
theorem dL_sum_39 : decode cL_sum 39 = .ok (.iconst 2, 1) := by decide +kernel
theorem dL_sum_40 : decode cL_sum 40 = .ok (.irem, 1) := by decide +kernel
theorem dL_sum_41 : decode cL_sum 41 = .ok (.ifCond .ne 7, 3) := by decide +kernel
theorem dL_sum_44 : decode cL_sum 44 = .ok (.iconst 1, 1) := by decide +kernel
theorem dL_sum_45 : decode cL_sum 45 = .ok (.goto 4, 3) := by decide +kernel
theorem dL_sum_48 : decode cL_sum 48 = .ok (.iconst 0, 1) := by decide +kernel
theorem dL_sum_49 : decode cL_sum 49 = .ok (.invokestatic 113, 3) := by decide +kernel
theorem dL_sum_52 : decode cL_sum 52 = .ok (.imul, 1) := by decide +kernel
theorem dL_sum_53 : decode cL_sum 53 = .ok (.iadd, 1) := by decide +kernel
theorem dL_sum_54 : decode cL_sum 54 = .ok (.istore_n 2, 1) := by decide +kernel
theorem dL_sum_55 : decode cL_sum 55 = .ok (.iconst 0, 1) := by decide +kernel
theorem dL_sum_56 : decode cL_sum 56 = .ok (.istore_n 3, 1) := by decide +kernel
theorem dL_sum_57 : decode cL_sum 57 = .ok (.iload_n 3, 1) := by decide +kernel
theorem dL_sum_58 : decode cL_sum 58 = .ok (.iconst 4, 1) := by decide +kernel
theorem dL_sum_59 : decode cL_sum 59 = .ok (.if_icmp .ge 80, 3) := by decide +kernel
theorem dL_sum_62 : decode cL_sum 62 = .ok (.bipush 31, 2) := by decide +kernel
theorem dL_sum_64 : decode cL_sum 64 = .ok (.iload_n 2, 1) := by decide +kernel
theorem dL_sum_65 : decode cL_sum 65 = .ok (.imul, 1) := by decide +kernel
theorem dL_sum_66 : decode cL_sum 66 = .ok (.aload_n 0, 1) := by decide +kernel
theorem dL_sum_67 : decode cL_sum 67 = .ok (.iload_n 3, 1) := by decide +kernel
theorem dL_sum_68 : decode cL_sum 68 = .ok (.invokestatic 116, 3) := by decide +kernel
theorem dL_sum_71 : decode cL_sum 71 = .ok (.iadd, 1) := by decide +kernel
theorem dL_sum_72 : decode cL_sum 72 = .ok (.iconst 3, 1) := by decide +kernel
theorem dL_sum_73 : decode cL_sum 73 = .ok (.aload_n 0, 1) := by decide +kernel
theorem dL_sum_74 : decode cL_sum 74 = .ok (.iload_n 3, 1) := by decide +kernel
theorem dL_sum_75 : decode cL_sum 75 = .ok (.iconst 2, 1) := by decide +kernel
theorem dL_sum_76 : decode cL_sum 76 = .ok (.irem, 1) := by decide +kernel
theorem dL_sum_77 : decode cL_sum 77 = .ok (.iload_n 3, 1) := by decide +kernel
theorem dL_sum_78 : decode cL_sum 78 = .ok (.iload_n 3, 1) := by decide +kernel
theorem dL_sum_79 : decode cL_sum 79 = .ok (.iconst 1, 1) := by decide +kernel
theorem dL_sum_80 : decode cL_sum 80 = .ok (.iadd, 1) := by decide +kernel
theorem dL_sum_81 : decode cL_sum 81 = .ok (.invokestatic 119, 3) := by decide +kernel
theorem dL_sum_84 : decode cL_sum 84 = .ok (.imul, 1) := by decide +kernel
theorem dL_sum_85 : decode cL_sum 85 = .ok (.iadd, 1) := by decide +kernel
theorem dL_sum_86 : decode cL_sum 86 = .ok (.iconst 5, 1) := by decide +kernel
theorem dL_sum_87 : decode cL_sum 87 = .ok (.aload_n 0, 1) := by decide +kernel
theorem dL_sum_88 : decode cL_sum 88 = .ok (.iload_n 3, 1) := by decide +kernel
theorem dL_sum_89 : decode cL_sum 89 = .ok (.iconst 2, 1) := by decide +kernel
theorem dL_sum_90 : decode cL_sum 90 = .ok (.irem, 1) := by decide +kernel
theorem dL_sum_91 : decode cL_sum 91 = .ok (.iload_n 3, 1) := by decide +kernel
theorem dL_sum_92 : decode cL_sum 92 = .ok (.invokestatic 122, 3) := by decide +kernel
theorem dL_sum_95 : decode cL_sum 95 = .ok (.imul, 1) := by decide +kernel
theorem dL_sum_96 : decode cL_sum 96 = .ok (.iadd, 1) := by decide +kernel
theorem dL_sum_97 : decode cL_sum 97 = .ok (.bipush 7, 2) := by decide +kernel
theorem dL_sum_99 : decode cL_sum 99 = .ok (.aload_n 0, 1) := by decide +kernel
theorem dL_sum_100 : decode cL_sum 100 = .ok (.iload_n 3, 1) := by decide +kernel
theorem dL_sum_101 : decode cL_sum 101 = .ok (.iconst 2, 1) := by decide +kernel
theorem dL_sum_102 : decode cL_sum 102 = .ok (.irem, 1) := by decide +kernel
theorem dL_sum_103 : decode cL_sum 103 = .ok (.invokestatic 125, 3) := by decide +kernel
theorem dL_sum_106 : decode cL_sum 106 = .ok (.imul, 1) := by decide +kernel
theorem dL_sum_107 : decode cL_sum 107 = .ok (.iadd, 1) := by decide +kernel
theorem dL_sum_108 : decode cL_sum 108 = .ok (.bipush 11, 2) := by decide +kernel
theorem dL_sum_110 : decode cL_sum 110 = .ok (.aload_n 0, 1) := by decide +kernel
theorem dL_sum_111 : decode cL_sum 111 = .ok (.iload_n 3, 1) := by decide +kernel
theorem dL_sum_112 : decode cL_sum 112 = .ok (.iconst 2, 1) := by decide +kernel
theorem dL_sum_113 : decode cL_sum 113 = .ok (.irem, 1) := by decide +kernel
theorem dL_sum_114 : decode cL_sum 114 = .ok (.invokestatic 127, 3) := by decide +kernel
theorem dL_sum_117 : decode cL_sum 117 = .ok (.imul, 1) := by decide +kernel
theorem dL_sum_118 : decode cL_sum 118 = .ok (.iadd, 1) := by decide +kernel
theorem dL_sum_119 : decode cL_sum 119 = .ok (.bipush 13, 2) := by decide +kernel
theorem dL_sum_121 : decode cL_sum 121 = .ok (.aload_n 0, 1) := by decide +kernel
theorem dL_sum_122 : decode cL_sum 122 = .ok (.iload_n 3, 1) := by decide +kernel
theorem dL_sum_123 : decode cL_sum 123 = .ok (.iload_n 3, 1) := by decide +kernel
theorem dL_sum_124 : decode cL_sum 124 = .ok (.iconst 2, 1) := by decide +kernel
theorem dL_sum_125 : decode cL_sum 125 = .ok (.irem, 1) := by decide +kernel
theorem dL_sum_126 : decode cL_sum 126 = .ok (.iload_n 3, 1) := by decide +kernel
theorem dL_sum_127 : decode cL_sum 127 = .ok (.invokestatic 129, 3) := by decide +kernel
theorem dL_sum_130 : decode cL_sum 130 = .ok (.imul, 1) := by decide +kernel
theorem dL_sum_131 : decode cL_sum 131 = .ok (.iadd, 1) := by decide +kernel
theorem dL_sum_132 : decode cL_sum 132 = .ok (.istore_n 2, 1) := by decide +kernel
theorem dL_sum_133 : decode cL_sum 133 = .ok (.iinc 3 1, 3) := by decide +kernel
theorem dL_sum_136 : decode cL_sum 136 = .ok (.goto (-79), 3) := by decide +kernel
theorem dL_sum_139 : decode cL_sum 139 = .ok (.iload_n 2, 1) := by decide +kernel
theorem dL_sum_140 : decode cL_sum 140 = .ok (.ireturn, 1) := by decide +kernel
set_option maxRecDepth 20000 in
theorem ggL_isRight_L_images : GoodIn wsL_isRight wsL_images := goodIn_ca (goodIn_r _ [6, 7, 1, 8, 9, 10, 11, 12, 13, 14, 15, 16, 17, 18, 19, 20, 21, 22, 23, 24, 25, 26, 27, 28, 29, 30, 31, 32, 33, 34, 35, 36, 37, 38, 39, 40, 41, 42, 43, 44, 45, 46, 47, 48, 49, 204, 205, 206, 207, 208, 209, 210, 211, 212, 213, 214, 215, 216, 217, 218, 219, 220, 221, 222, 223, 224] (by decide +kernel) (by decide +kernel)) (goodIn_sub (fun _ h => List.mem_cons_of_mem _ (List.mem_append_left _ (List.mem_append_right _ h))) (by decide +kernel))
set_option maxRecDepth 20000 in
theorem gL_isRight_L_images : GoodIn wsL_isRight (va_wsS RL 116 yL_images wsL_images) := goodIn_app (goodIn_of _ (by decide +kernel)) ggL_isRight_L_images
set_option maxRecDepth 20000 in
theorem ggL_isRight_L_hits : GoodIn wsL_isRight wsL_hits := goodIn_ca (goodIn_r _ [52, 53, 54, 55, 56, 57, 11, 58, 59, 60, 61, 62, 63, 64, 65, 66, 67, 68, 69, 70, 71, 72, 73, 74, 75, 76, 77, 78, 79, 80, 81, 82, 83, 84, 85, 204, 205, 206, 207, 208, 209, 210, 211, 212, 213, 214, 225, 226, 227, 228] (by decide +kernel) (by decide +kernel)) (goodIn_sub (fun _ h => List.mem_cons_of_mem _ (List.mem_append_right _ h)) (by decide +kernel))
set_option maxRecDepth 20000 in
theorem gL_isRight_L_hits : GoodIn wsL_isRight (va_wsS RL 131 yL_hits wsL_hits) := goodIn_app (goodIn_of _ (by decide +kernel)) ggL_isRight_L_hits
set_option maxRecDepth 20000 in
theorem ggL_isRight_L_light : GoodIn wsL_isRight wsL_light := goodIn_ca (goodIn_r _ [88, 7, 1, 89, 90, 91, 11, 92, 13, 14, 15, 16, 17, 18, 19, 20, 21, 22, 23, 24, 25, 26, 27, 28, 29, 30, 31, 32, 33, 34, 35, 36, 37, 38, 39, 40, 41, 42, 43, 93, 94, 95, 47, 96, 49, 97, 98, 99, 100, 101, 102, 103, 104, 105, 106, 107, 108, 109, 110, 111, 112, 113, 114, 61, 115, 116, 117, 118, 119, 120, 121, 122, 123, 71, 124, 125, 82, 83, 84, 85, 80, 126, 127, 128, 129, 130, 131, 132, 133, 134, 135, 136, 137, 138, 139, 140, 141, 142, 143, 144, 145, 146, 147, 148, 149, 81, 150, 151, 152, 153, 154, 155, 156, 157, 158, 159, 160, 161, 162, 163, 164, 204, 205, 206, 207, 208, 209, 210, 211, 212, 213, 214, 215, 216, 217, 218, 219, 220, 221, 222, 223, 224, 225, 226, 227, 228, 229, 230, 231, 232, 233, 234] (by decide +kernel) (by decide +kernel)) (goodIn_sub (fun _ h => List.mem_cons_of_mem _ (List.mem_append_left _ (List.mem_append_right _ h))) (by decide +kernel))
set_option maxRecDepth 20000 in
theorem gL_isRight_L_light : GoodIn wsL_isRight (va_wsS RL 122 yL_light wsL_light) := goodIn_app (goodIn_of _ (by decide +kernel)) ggL_isRight_L_light
set_option maxRecDepth 20000 in
theorem ggL_isRight_L_imageOf : GoodIn wsL_isRight wsL_imageOf := goodIn_ca (goodIn_ca (goodIn_r _ [167, 7, 53, 1, 54, 168, 169, 170, 11, 171, 13, 14, 59, 60, 15, 16, 17, 18, 19, 20, 21, 22, 23, 24, 25, 26, 27, 28, 29, 30, 31, 32, 33, 34, 35, 36, 37, 38, 39, 40, 41, 42, 43, 93, 94, 95, 47, 96, 49, 115, 116, 117, 118, 119, 120, 172, 173, 71, 174, 175, 176, 177, 138, 139, 140, 141, 61, 142, 143, 144, 145, 146, 147, 148, 149, 80, 81, 82, 83, 84, 85, 111, 112, 113, 114, 121, 122, 123, 124, 125, 106, 107, 108, 109, 110, 204, 205, 206, 207, 208, 209, 210, 211, 212, 213, 214, 215, 216, 217, 218, 219, 220, 221, 222, 223, 224, 225, 226, 227, 228] (by decide +kernel) (by decide +kernel)) (goodIn_sub (fun _ h => List.mem_cons_of_mem _ (List.mem_append_left _ (List.mem_append_right _ h))) (by decide +kernel))) (goodIn_sub (fun _ h => List.mem_cons_of_mem _ (List.mem_append_right _ h)) (by decide +kernel))
set_option maxRecDepth 20000 in
theorem gL_isRight_L_imageOf : GoodIn wsL_isRight (va_wsS RL 119 yL_imageOf wsL_imageOf) := goodIn_app (goodIn_of _ (by decide +kernel)) ggL_isRight_L_imageOf
set_option maxRecDepth 20000 in
theorem ggL_isRight_L_from : GoodIn wsL_isRight wsL_from := goodIn_ca (goodIn_r _ [180, 53, 54, 181, 182, 183, 11, 184, 59, 60, 61, 62, 63, 64, 65, 66, 67, 185, 74, 71, 75, 186, 187, 188, 189, 81, 82, 83, 84, 85, 80, 190, 191, 192, 193, 204, 205, 206, 207, 208, 209, 210, 211, 212, 213, 214, 225, 226, 227, 228] (by decide +kernel) (by decide +kernel)) (goodIn_sub (fun _ h => List.mem_cons_of_mem _ (List.mem_append_right _ h)) (by decide +kernel))
set_option maxRecDepth 20000 in
theorem gL_isRight_L_from : GoodIn wsL_isRight (va_wsS RL 113 yL_from wsL_from) := goodIn_app (goodIn_of _ (by decide +kernel)) ggL_isRight_L_from
set_option maxRecDepth 20000 in
theorem ggL_isRight_L_delay : GoodIn wsL_isRight wsL_delay := goodIn_ca (goodIn_r _ [196, 7, 1, 197, 198, 199, 11, 200, 13, 14, 15, 16, 17, 18, 19, 20, 21, 22, 23, 24, 25, 26, 27, 28, 29, 30, 31, 32, 33, 34, 35, 36, 37, 38, 39, 40, 41, 42, 43, 201, 202, 203, 93, 94, 95, 47, 96, 49, 106, 107, 108, 109, 110, 111, 112, 113, 114, 61, 115, 116, 117, 118, 119, 120, 121, 122, 123, 71, 124, 125, 82, 83, 84, 85, 80, 204, 205, 206, 207, 208, 209, 210, 211, 212, 213, 214, 215, 216, 217, 218, 219, 220, 221, 222, 223, 224, 225, 226, 227, 228] (by decide +kernel) (by decide +kernel)) (goodIn_sub (fun _ h => List.mem_cons_of_mem _ (List.mem_append_left _ (List.mem_append_right _ h))) (by decide +kernel))
set_option maxRecDepth 20000 in
theorem gL_isRight_L_delay : GoodIn wsL_isRight (va_wsS RL 134 yL_delay wsL_delay) := goodIn_app (goodIn_of _ (by decide +kernel)) ggL_isRight_L_delay
theorem dL_isRight_0 : decode cL_isRight 0 = .ok (.aload_n 0, 1) := by decide +kernel
theorem dL_isRight_1 : decode cL_isRight 1 = .ok (.iload_n 1, 1) := by decide +kernel
theorem dL_isRight_2 : decode cL_isRight 2 = .ok (.invokestatic 116, 3) := by decide +kernel
theorem dL_isRight_5 : decode cL_isRight 5 = .ok (.istore 4, 2) := by decide +kernel
theorem dL_isRight_7 : decode cL_isRight 7 = .ok (.iload 4, 2) := by decide +kernel
theorem dL_isRight_9 : decode cL_isRight 9 = .ok (.ifCond .lt 38, 3) := by decide +kernel
theorem dL_isRight_12 : decode cL_isRight 12 = .ok (.iload 4, 2) := by decide +kernel
theorem dL_isRight_14 : decode cL_isRight 14 = .ok (.sipush 441, 3) := by decide +kernel
theorem dL_isRight_17 : decode cL_isRight 17 = .ok (.if_icmp .gt 30, 3) := by decide +kernel
theorem dL_isRight_20 : decode cL_isRight 20 = .ok (.aload_n 0, 1) := by decide +kernel
theorem dL_isRight_21 : decode cL_isRight 21 = .ok (.iload_n 2, 1) := by decide +kernel
theorem dL_isRight_22 : decode cL_isRight 22 = .ok (.iload_n 3, 1) := by decide +kernel
theorem dL_isRight_23 : decode cL_isRight 23 = .ok (.invokestatic 131, 3) := by decide +kernel
theorem dL_isRight_26 : decode cL_isRight 26 = .ok (.iload 4, 2) := by decide +kernel
theorem dL_isRight_28 : decode cL_isRight 28 = .ok (.if_icmp .ne 19, 3) := by decide +kernel
theorem dL_isRight_31 : decode cL_isRight 31 = .ok (.aload_n 0, 1) := by decide +kernel
theorem dL_isRight_32 : decode cL_isRight 32 = .ok (.iload_n 1, 1) := by decide +kernel
theorem dL_isRight_33 : decode cL_isRight 33 = .ok (.iload 4, 2) := by decide +kernel
theorem dL_isRight_35 : decode cL_isRight 35 = .ok (.invokestatic 122, 3) := by decide +kernel
theorem dL_isRight_38 : decode cL_isRight 38 = .ok (.ldc 25, 2) := by decide +kernel
theorem dL_isRight_40 : decode cL_isRight 40 = .ok (.if_icmp .ne 7, 3) := by decide +kernel
theorem dL_isRight_43 : decode cL_isRight 43 = .ok (.iconst 1, 1) := by decide +kernel
theorem dL_isRight_44 : decode cL_isRight 44 = .ok (.goto 4, 3) := by decide +kernel
theorem dL_isRight_47 : decode cL_isRight 47 = .ok (.iconst 0, 1) := by decide +kernel
theorem dL_isRight_48 : decode cL_isRight 48 = .ok (.istore 5, 2) := by decide +kernel
theorem dL_isRight_50 : decode cL_isRight 50 = .ok (.ldc 133, 2) := by decide +kernel
theorem dL_isRight_52 : decode cL_isRight 52 = .ok (.istore 6, 2) := by decide +kernel
theorem dL_isRight_54 : decode cL_isRight 54 = .ok (.iconst 0, 1) := by decide +kernel
theorem dL_isRight_55 : decode cL_isRight 55 = .ok (.istore 7, 2) := by decide +kernel
theorem dL_isRight_57 : decode cL_isRight 57 = .ok (.iload 7, 2) := by decide +kernel
theorem dL_isRight_59 : decode cL_isRight 59 = .ok (.iload 4, 2) := by decide +kernel
theorem dL_isRight_61 : decode cL_isRight 61 = .ok (.if_icmp .ge 216, 3) := by decide +kernel
theorem dL_isRight_64 : decode cL_isRight 64 = .ok (.iload 7, 2) := by decide +kernel
theorem dL_isRight_66 : decode cL_isRight 66 = .ok (.iconst 5, 1) := by decide +kernel
theorem dL_isRight_67 : decode cL_isRight 67 = .ok (.if_icmp .ge 210, 3) := by decide +kernel
theorem dL_isRight_70 : decode cL_isRight 70 = .ok (.iload 5, 2) := by decide +kernel
theorem dL_isRight_72 : decode cL_isRight 72 = .ok (.ifCond .eq 205, 3) := by decide +kernel
theorem dL_isRight_75 : decode cL_isRight 75 = .ok (.aload_n 0, 1) := by decide +kernel
theorem dL_isRight_76 : decode cL_isRight 76 = .ok (.iload_n 1, 1) := by decide +kernel
theorem dL_isRight_77 : decode cL_isRight 77 = .ok (.iload 7, 2) := by decide +kernel
theorem dL_isRight_79 : decode cL_isRight 79 = .ok (.iconst 3, 1) := by decide +kernel
theorem dL_isRight_80 : decode cL_isRight 80 = .ok (.invokestatic 119, 3) := by decide +kernel
theorem dL_isRight_83 : decode cL_isRight 83 = .ok (.istore 8, 2) := by decide +kernel
theorem dL_isRight_85 : decode cL_isRight 85 = .ok (.aload_n 0, 1) := by decide +kernel
theorem dL_isRight_86 : decode cL_isRight 86 = .ok (.iload_n 1, 1) := by decide +kernel
theorem dL_isRight_87 : decode cL_isRight 87 = .ok (.iload 7, 2) := by decide +kernel
theorem dL_isRight_89 : decode cL_isRight 89 = .ok (.iconst 0, 1) := by decide +kernel
theorem dL_isRight_90 : decode cL_isRight 90 = .ok (.invokestatic 119, 3) := by decide +kernel
theorem dL_isRight_93 : decode cL_isRight 93 = .ok (.istore 9, 2) := by decide +kernel
theorem dL_isRight_95 : decode cL_isRight 95 = .ok (.aload_n 0, 1) := by decide +kernel
theorem dL_isRight_96 : decode cL_isRight 96 = .ok (.iload_n 1, 1) := by decide +kernel
theorem dL_isRight_97 : decode cL_isRight 97 = .ok (.iload 7, 2) := by decide +kernel
theorem dL_isRight_99 : decode cL_isRight 99 = .ok (.iconst 1, 1) := by decide +kernel
theorem dL_isRight_100 : decode cL_isRight 100 = .ok (.invokestatic 119, 3) := by decide +kernel
theorem dL_isRight_103 : decode cL_isRight 103 = .ok (.istore 10, 2) := by decide +kernel
theorem dL_isRight_105 : decode cL_isRight 105 = .ok (.iload 8, 2) := by decide +kernel
theorem dL_isRight_107 : decode cL_isRight 107 = .ok (.iload 6, 2) := by decide +kernel
theorem dL_isRight_109 : decode cL_isRight 109 = .ok (.if_icmp .lt 84, 3) := by decide +kernel
theorem dL_isRight_112 : decode cL_isRight 112 = .ok (.aload_n 0, 1) := by decide +kernel
theorem dL_isRight_113 : decode cL_isRight 113 = .ok (.iload 9, 2) := by decide +kernel
theorem dL_isRight_115 : decode cL_isRight 115 = .ok (.iload 10, 2) := by decide +kernel
theorem dL_isRight_117 : decode cL_isRight 117 = .ok (.iconst 0, 1) := by decide +kernel
theorem dL_isRight_118 : decode cL_isRight 118 = .ok (.invokestatic 113, 3) := by decide +kernel
theorem dL_isRight_121 : decode cL_isRight 121 = .ok (.iload_n 2, 1) := by decide +kernel
theorem dL_isRight_122 : decode cL_isRight 122 = .ok (.if_icmp .ne 71, 3) := by decide +kernel
theorem dL_isRight_125 : decode cL_isRight 125 = .ok (.aload_n 0, 1) := by decide +kernel
theorem dL_isRight_126 : decode cL_isRight 126 = .ok (.iload 9, 2) := by decide +kernel
theorem dL_isRight_128 : decode cL_isRight 128 = .ok (.iload 10, 2) := by decide +kernel
theorem dL_isRight_130 : decode cL_isRight 130 = .ok (.iconst 1, 1) := by decide +kernel
theorem dL_isRight_131 : decode cL_isRight 131 = .ok (.invokestatic 113, 3) := by decide +kernel
theorem dL_isRight_134 : decode cL_isRight 134 = .ok (.iload_n 3, 1) := by decide +kernel
theorem dL_isRight_135 : decode cL_isRight 135 = .ok (.if_icmp .ne 58, 3) := by decide +kernel
theorem dL_isRight_138 : decode cL_isRight 138 = .ok (.aload_n 0, 1) := by decide +kernel
theorem dL_isRight_139 : decode cL_isRight 139 = .ok (.iload_n 1, 1) := by decide +kernel
theorem dL_isRight_140 : decode cL_isRight 140 = .ok (.iload 7, 2) := by decide +kernel
theorem dL_isRight_142 : decode cL_isRight 142 = .ok (.invokestatic 122, 3) := by decide +kernel
theorem dL_isRight_145 : decode cL_isRight 145 = .ok (.ifCond .lt 48, 3) := by decide +kernel
theorem dL_isRight_148 : decode cL_isRight 148 = .ok (.aload_n 0, 1) := by decide +kernel
theorem dL_isRight_149 : decode cL_isRight 149 = .ok (.iload_n 1, 1) := by decide +kernel
theorem dL_isRight_150 : decode cL_isRight 150 = .ok (.iload 7, 2) := by decide +kernel
theorem dL_isRight_152 : decode cL_isRight 152 = .ok (.iload 7, 2) := by decide +kernel
theorem dL_isRight_154 : decode cL_isRight 154 = .ok (.invokestatic 134, 3) := by decide +kernel
theorem dL_isRight_157 : decode cL_isRight 157 = .ok (.ifCond .ne 36, 3) := by decide +kernel
theorem dL_isRight_160 : decode cL_isRight 160 = .ok (.aload_n 0, 1) := by decide +kernel
theorem dL_isRight_161 : decode cL_isRight 161 = .ok (.iload_n 1, 1) := by decide +kernel
theorem dL_isRight_162 : decode cL_isRight 162 = .ok (.iconst 0, 1) := by decide +kernel
theorem dL_isRight_163 : decode cL_isRight 163 = .ok (.iconst 4, 1) := by decide +kernel
theorem dL_isRight_164 : decode cL_isRight 164 = .ok (.invokestatic 119, 3) := by decide +kernel
theorem dL_isRight_167 : decode cL_isRight 167 = .ok (.ifCond .ne 26, 3) := by decide +kernel
theorem dL_isRight_170 : decode cL_isRight 170 = .ok (.aload_n 0, 1) := by decide +kernel
theorem dL_isRight_171 : decode cL_isRight 171 = .ok (.iload_n 1, 1) := by decide +kernel
theorem dL_isRight_172 : decode cL_isRight 172 = .ok (.iconst 0, 1) := by decide +kernel
theorem dL_isRight_173 : decode cL_isRight 173 = .ok (.iload 7, 2) := by decide +kernel
theorem dL_isRight_175 : decode cL_isRight 175 = .ok (.invokestatic 134, 3) := by decide +kernel
theorem dL_isRight_178 : decode cL_isRight 178 = .ok (.aload_n 0, 1) := by decide +kernel
theorem dL_isRight_179 : decode cL_isRight 179 = .ok (.iload_n 1, 1) := by decide +kernel
theorem dL_isRight_180 : decode cL_isRight 180 = .ok (.iload 7, 2) := by decide +kernel
theorem dL_isRight_182 : decode cL_isRight 182 = .ok (.iconst 4, 1) := by decide +kernel
theorem dL_isRight_183 : decode cL_isRight 183 = .ok (.invokestatic 119, 3) := by decide +kernel
theorem dL_isRight_186 : decode cL_isRight 186 = .ok (.if_icmp .ne 7, 3) := by decide +kernel
theorem dL_isRight_189 : decode cL_isRight 189 = .ok (.iconst 1, 1) := by decide +kernel
theorem dL_isRight_190 : decode cL_isRight 190 = .ok (.goto 4, 3) := by decide +kernel
theorem dL_isRight_193 : decode cL_isRight 193 = .ok (.iconst 0, 1) := by decide +kernel
theorem dL_isRight_194 : decode cL_isRight 194 = .ok (.istore 5, 2) := by decide +kernel
theorem dL_isRight_196 : decode cL_isRight 196 = .ok (.iload 5, 2) := by decide +kernel
theorem dL_isRight_198 : decode cL_isRight 198 = .ok (.ifCond .eq 66, 3) := by decide +kernel
theorem dL_isRight_201 : decode cL_isRight 201 = .ok (.aload_n 0, 1) := by decide +kernel
theorem dL_isRight_202 : decode cL_isRight 202 = .ok (.iload_n 1, 1) := by decide +kernel
theorem dL_isRight_203 : decode cL_isRight 203 = .ok (.iload 7, 2) := by decide +kernel
theorem dL_isRight_205 : decode cL_isRight 205 = .ok (.iload 4, 2) := by decide +kernel
theorem dL_isRight_207 : decode cL_isRight 207 = .ok (.iconst 1, 1) := by decide +kernel
theorem dL_isRight_208 : decode cL_isRight 208 = .ok (.isub, 1) := by decide +kernel
theorem dL_isRight_209 : decode cL_isRight 209 = .ok (.invokestatic 134, 3) := by decide +kernel
theorem dL_isRight_212 : decode cL_isRight 212 = .ok (.aload_n 0, 1) := by decide +kernel
theorem dL_isRight_213 : decode cL_isRight 213 = .ok (.iload_n 1, 1) := by decide +kernel
theorem dL_isRight_214 : decode cL_isRight 214 = .ok (.iload 4, 2) := by decide +kernel
theorem dL_isRight_216 : decode cL_isRight 216 = .ok (.iconst 1, 1) := by decide +kernel
theorem dL_isRight_217 : decode cL_isRight 217 = .ok (.isub, 1) := by decide +kernel
theorem dL_isRight_218 : decode cL_isRight 218 = .ok (.iconst 4, 1) := by decide +kernel
theorem dL_isRight_219 : decode cL_isRight 219 = .ok (.invokestatic 119, 3) := by decide +kernel
theorem dL_isRight_222 : decode cL_isRight 222 = .ok (.aload_n 0, 1) := by decide +kernel
theorem dL_isRight_223 : decode cL_isRight 223 = .ok (.iload_n 1, 1) := by decide +kernel
theorem dL_isRight_224 : decode cL_isRight 224 = .ok (.iload 7, 2) := by decide +kernel
theorem dL_isRight_226 : decode cL_isRight 226 = .ok (.iconst 4, 1) := by decide +kernel
theorem dL_isRight_227 : decode cL_isRight 227 = .ok (.invokestatic 119, 3) := by decide +kernel
theorem dL_isRight_230 : decode cL_isRight 230 = .ok (.isub, 1) := by decide +kernel
theorem dL_isRight_231 : decode cL_isRight 231 = .ok (.if_icmp .ne 33, 3) := by decide +kernel
theorem dL_isRight_234 : decode cL_isRight 234 = .ok (.aload_n 0, 1) := by decide +kernel
theorem dL_isRight_235 : decode cL_isRight 235 = .ok (.iload_n 1, 1) := by decide +kernel
theorem dL_isRight_236 : decode cL_isRight 236 = .ok (.iload 7, 2) := by decide +kernel
theorem dL_isRight_238 : decode cL_isRight 238 = .ok (.iconst 2, 1) := by decide +kernel
theorem dL_isRight_239 : decode cL_isRight 239 = .ok (.invokestatic 119, 3) := by decide +kernel
theorem dL_isRight_242 : decode cL_isRight 242 = .ok (.bipush (-24), 2) := by decide +kernel
theorem dL_isRight_244 : decode cL_isRight 244 = .ok (.if_icmp .lt 20, 3) := by decide +kernel
theorem dL_isRight_247 : decode cL_isRight 247 = .ok (.aload_n 0, 1) := by decide +kernel
theorem dL_isRight_248 : decode cL_isRight 248 = .ok (.iload_n 1, 1) := by decide +kernel
theorem dL_isRight_249 : decode cL_isRight 249 = .ok (.iload 7, 2) := by decide +kernel
theorem dL_isRight_251 : decode cL_isRight 251 = .ok (.iconst 2, 1) := by decide +kernel
theorem dL_isRight_252 : decode cL_isRight 252 = .ok (.invokestatic 119, 3) := by decide +kernel
theorem dL_isRight_255 : decode cL_isRight 255 = .ok (.bipush 24, 2) := by decide +kernel
theorem dL_isRight_257 : decode cL_isRight 257 = .ok (.if_icmp .gt 7, 3) := by decide +kernel
theorem dL_isRight_260 : decode cL_isRight 260 = .ok (.iconst 1, 1) := by decide +kernel
theorem dL_isRight_261 : decode cL_isRight 261 = .ok (.goto 4, 3) := by decide +kernel
theorem dL_isRight_264 : decode cL_isRight 264 = .ok (.iconst 0, 1) := by decide +kernel
theorem dL_isRight_265 : decode cL_isRight 265 = .ok (.istore 5, 2) := by decide +kernel
theorem dL_isRight_267 : decode cL_isRight 267 = .ok (.iload 8, 2) := by decide +kernel
theorem dL_isRight_269 : decode cL_isRight 269 = .ok (.istore 6, 2) := by decide +kernel
theorem dL_isRight_271 : decode cL_isRight 271 = .ok (.iinc 7 1, 3) := by decide +kernel
theorem dL_isRight_274 : decode cL_isRight 274 = .ok (.goto (-217), 3) := by decide +kernel
theorem dL_isRight_277 : decode cL_isRight 277 = .ok (.iload 5, 2) := by decide +kernel
theorem dL_isRight_279 : decode cL_isRight 279 = .ok (.ireturn, 1) := by decide +kernel
set_option maxRecDepth 20000 in
theorem ggL_areAll_X8_lost : GoodIn wsL_areAll wsX8_lost := goodIn_r _ [5, 6, 7, 8, 9, 10, 11, 12, 13, 14, 15, 16, 17, 18, 19, 20, 21, 22, 23, 24, 25, 26, 27, 28, 29, 4, 30, 31, 32, 33, 65, 66, 67, 68, 69, 70, 71, 72, 73, 74, 75, 76, 77, 78, 79] (by decide +kernel) (by decide +kernel)
set_option maxRecDepth 20000 in
theorem gL_areAll_X8_lost : GoodIn wsL_areAll (wsV RL 136 RX8 yX8_lost wsX8_lost) := goodIn_app (goodIn_of _ (by decide +kernel)) ggL_areAll_X8_lost
set_option maxRecDepth 20000 in
theorem ggL_areAll_L_from : GoodIn wsL_areAll wsL_from := goodIn_ca (goodIn_r _ [37, 38, 39, 40, 41, 42, 4, 43, 44, 45, 6, 46, 29, 30, 31, 32, 33, 47, 13, 10, 14, 48, 25, 26, 27, 28, 20, 21, 22, 23, 19, 49, 16, 17, 18, 65, 66, 67, 68, 69, 70, 71, 72, 73, 74, 75, 76, 77, 78, 79] (by decide +kernel) (by decide +kernel)) (goodIn_sub (fun _ h => List.mem_cons_of_mem _ (List.mem_append_right _ h)) (by decide +kernel))
set_option maxRecDepth 20000 in
theorem gL_areAll_L_from : GoodIn wsL_areAll (va_wsS RL 113 yL_from wsL_from) := goodIn_app (goodIn_of _ (by decide +kernel)) ggL_areAll_L_from
set_option maxRecDepth 20000 in
theorem ggL_areAll_L_hits : GoodIn wsL_areAll wsL_hits := goodIn_ca (goodIn_r _ [52, 38, 39, 53, 54, 55, 4, 56, 44, 45, 6, 46, 29, 30, 31, 32, 33, 57, 58, 59, 10, 60, 12, 13, 14, 61, 62, 63, 64, 19, 28, 20, 21, 22, 23, 65, 66, 67, 68, 69, 70, 71, 72, 73, 74, 75, 76, 77, 78, 79] (by decide +kernel) (by decide +kernel)) (goodIn_sub (fun _ h => List.mem_cons_of_mem _ (List.mem_append_right _ h)) (by decide +kernel))
set_option maxRecDepth 20000 in
theorem gL_areAll_L_hits : GoodIn wsL_areAll (va_wsS RL 131 yL_hits wsL_hits) := goodIn_app (goodIn_of _ (by decide +kernel)) ggL_areAll_L_hits
theorem dL_areAll_0 : decode cL_areAll 0 = .ok (.aload_n 0, 1) := by decide +kernel
theorem dL_areAll_1 : decode cL_areAll 1 = .ok (.invokevirtual 136, 3) := by decide +kernel
theorem dL_areAll_4 : decode cL_areAll 4 = .ok (.istore_n 1, 1) := by decide +kernel
theorem dL_areAll_5 : decode cL_areAll 5 = .ok (.iconst 0, 1) := by decide +kernel
theorem dL_areAll_6 : decode cL_areAll 6 = .ok (.istore_n 2, 1) := by decide +kernel
theorem dL_areAll_7 : decode cL_areAll 7 = .ok (.iconst 0, 1) := by decide +kernel
theorem dL_areAll_8 : decode cL_areAll 8 = .ok (.istore_n 3, 1) := by decide +kernel
theorem dL_areAll_9 : decode cL_areAll 9 = .ok (.iload_n 3, 1) := by decide +kernel
theorem dL_areAll_10 : decode cL_areAll 10 = .ok (.sipush 441, 3) := by decide +kernel
theorem dL_areAll_13 : decode cL_areAll 13 = .ok (.if_icmp .ge 87, 3) := by decide +kernel
theorem dL_areAll_16 : decode cL_areAll 16 = .ok (.aload_n 0, 1) := by decide +kernel
theorem dL_areAll_17 : decode cL_areAll 17 = .ok (.iload_n 3, 1) := by decide +kernel
theorem dL_areAll_18 : decode cL_areAll 18 = .ok (.bipush 21, 2) := by decide +kernel
theorem dL_areAll_20 : decode cL_areAll 20 = .ok (.irem, 1) := by decide +kernel
theorem dL_areAll_21 : decode cL_areAll 21 = .ok (.bipush 10, 2) := by decide +kernel
theorem dL_areAll_23 : decode cL_areAll 23 = .ok (.isub, 1) := by decide +kernel
theorem dL_areAll_24 : decode cL_areAll 24 = .ok (.iload_n 3, 1) := by decide +kernel
theorem dL_areAll_25 : decode cL_areAll 25 = .ok (.bipush 21, 2) := by decide +kernel
theorem dL_areAll_27 : decode cL_areAll 27 = .ok (.idiv, 1) := by decide +kernel
theorem dL_areAll_28 : decode cL_areAll 28 = .ok (.bipush 10, 2) := by decide +kernel
theorem dL_areAll_30 : decode cL_areAll 30 = .ok (.isub, 1) := by decide +kernel
theorem dL_areAll_31 : decode cL_areAll 31 = .ok (.iconst 0, 1) := by decide +kernel
theorem dL_areAll_32 : decode cL_areAll 32 = .ok (.invokestatic 113, 3) := by decide +kernel
theorem dL_areAll_35 : decode cL_areAll 35 = .ok (.istore 4, 2) := by decide +kernel
theorem dL_areAll_37 : decode cL_areAll 37 = .ok (.aload_n 0, 1) := by decide +kernel
theorem dL_areAll_38 : decode cL_areAll 38 = .ok (.iload_n 3, 1) := by decide +kernel
theorem dL_areAll_39 : decode cL_areAll 39 = .ok (.bipush 21, 2) := by decide +kernel
theorem dL_areAll_41 : decode cL_areAll 41 = .ok (.irem, 1) := by decide +kernel
theorem dL_areAll_42 : decode cL_areAll 42 = .ok (.bipush 10, 2) := by decide +kernel
theorem dL_areAll_44 : decode cL_areAll 44 = .ok (.isub, 1) := by decide +kernel
theorem dL_areAll_45 : decode cL_areAll 45 = .ok (.iload_n 3, 1) := by decide +kernel
theorem dL_areAll_46 : decode cL_areAll 46 = .ok (.bipush 21, 2) := by decide +kernel
theorem dL_areAll_48 : decode cL_areAll 48 = .ok (.idiv, 1) := by decide +kernel
theorem dL_areAll_49 : decode cL_areAll 49 = .ok (.bipush 10, 2) := by decide +kernel
theorem dL_areAll_51 : decode cL_areAll 51 = .ok (.isub, 1) := by decide +kernel
theorem dL_areAll_52 : decode cL_areAll 52 = .ok (.iconst 1, 1) := by decide +kernel
theorem dL_areAll_53 : decode cL_areAll 53 = .ok (.invokestatic 113, 3) := by decide +kernel
theorem dL_areAll_56 : decode cL_areAll 56 = .ok (.istore 5, 2) := by decide +kernel
theorem dL_areAll_58 : decode cL_areAll 58 = .ok (.iload_n 2, 1) := by decide +kernel
theorem dL_areAll_59 : decode cL_areAll 59 = .ok (.iload 4, 2) := by decide +kernel
theorem dL_areAll_61 : decode cL_areAll 61 = .ok (.bipush (-10), 2) := by decide +kernel
theorem dL_areAll_63 : decode cL_areAll 63 = .ok (.if_icmp .lt 24, 3) := by decide +kernel
theorem dL_areAll_66 : decode cL_areAll 66 = .ok (.iload 4, 2) := by decide +kernel
theorem dL_areAll_68 : decode cL_areAll 68 = .ok (.bipush 10, 2) := by decide +kernel
theorem dL_areAll_70 : decode cL_areAll 70 = .ok (.if_icmp .gt 17, 3) := by decide +kernel
theorem dL_areAll_73 : decode cL_areAll 73 = .ok (.iload 5, 2) := by decide +kernel
theorem dL_areAll_75 : decode cL_areAll 75 = .ok (.bipush (-10), 2) := by decide +kernel
theorem dL_areAll_77 : decode cL_areAll 77 = .ok (.if_icmp .lt 10, 3) := by decide +kernel
theorem dL_areAll_80 : decode cL_areAll 80 = .ok (.iload 5, 2) := by decide +kernel
theorem dL_areAll_82 : decode cL_areAll 82 = .ok (.bipush 10, 2) := by decide +kernel
theorem dL_areAll_84 : decode cL_areAll 84 = .ok (.if_icmp .le 7, 3) := by decide +kernel
theorem dL_areAll_87 : decode cL_areAll 87 = .ok (.iconst 1, 1) := by decide +kernel
theorem dL_areAll_88 : decode cL_areAll 88 = .ok (.goto 4, 3) := by decide +kernel
theorem dL_areAll_91 : decode cL_areAll 91 = .ok (.iconst 0, 1) := by decide +kernel
theorem dL_areAll_92 : decode cL_areAll 92 = .ok (.iadd, 1) := by decide +kernel
theorem dL_areAll_93 : decode cL_areAll 93 = .ok (.istore_n 2, 1) := by decide +kernel
theorem dL_areAll_94 : decode cL_areAll 94 = .ok (.iinc 3 1, 3) := by decide +kernel
theorem dL_areAll_97 : decode cL_areAll 97 = .ok (.goto (-88), 3) := by decide +kernel
theorem dL_areAll_100 : decode cL_areAll 100 = .ok (.iconst 0, 1) := by decide +kernel
theorem dL_areAll_101 : decode cL_areAll 101 = .ok (.istore_n 3, 1) := by decide +kernel
theorem dL_areAll_102 : decode cL_areAll 102 = .ok (.iload_n 3, 1) := by decide +kernel
theorem dL_areAll_103 : decode cL_areAll 103 = .ok (.sipush 441, 3) := by decide +kernel
theorem dL_areAll_106 : decode cL_areAll 106 = .ok (.if_icmp .ge 37, 3) := by decide +kernel
theorem dL_areAll_109 : decode cL_areAll 109 = .ok (.iload_n 1, 1) := by decide +kernel
theorem dL_areAll_110 : decode cL_areAll 110 = .ok (.sipush 441, 3) := by decide +kernel
theorem dL_areAll_113 : decode cL_areAll 113 = .ok (.if_icmp .gt 30, 3) := by decide +kernel
theorem dL_areAll_116 : decode cL_areAll 116 = .ok (.iload_n 1, 1) := by decide +kernel
theorem dL_areAll_117 : decode cL_areAll 117 = .ok (.aload_n 0, 1) := by decide +kernel
theorem dL_areAll_118 : decode cL_areAll 118 = .ok (.iload_n 3, 1) := by decide +kernel
theorem dL_areAll_119 : decode cL_areAll 119 = .ok (.bipush 21, 2) := by decide +kernel
theorem dL_areAll_121 : decode cL_areAll 121 = .ok (.irem, 1) := by decide +kernel
theorem dL_areAll_122 : decode cL_areAll 122 = .ok (.bipush 10, 2) := by decide +kernel
theorem dL_areAll_124 : decode cL_areAll 124 = .ok (.isub, 1) := by decide +kernel
theorem dL_areAll_125 : decode cL_areAll 125 = .ok (.iload_n 3, 1) := by decide +kernel
theorem dL_areAll_126 : decode cL_areAll 126 = .ok (.bipush 21, 2) := by decide +kernel
theorem dL_areAll_128 : decode cL_areAll 128 = .ok (.idiv, 1) := by decide +kernel
theorem dL_areAll_129 : decode cL_areAll 129 = .ok (.bipush 10, 2) := by decide +kernel
theorem dL_areAll_131 : decode cL_areAll 131 = .ok (.isub, 1) := by decide +kernel
theorem dL_areAll_132 : decode cL_areAll 132 = .ok (.invokestatic 131, 3) := by decide +kernel
theorem dL_areAll_135 : decode cL_areAll 135 = .ok (.iadd, 1) := by decide +kernel
theorem dL_areAll_136 : decode cL_areAll 136 = .ok (.istore_n 1, 1) := by decide +kernel
theorem dL_areAll_137 : decode cL_areAll 137 = .ok (.iinc 3 1, 3) := by decide +kernel
theorem dL_areAll_140 : decode cL_areAll 140 = .ok (.goto (-38), 3) := by decide +kernel
theorem dL_areAll_143 : decode cL_areAll 143 = .ok (.iload_n 1, 1) := by decide +kernel
theorem dL_areAll_144 : decode cL_areAll 144 = .ok (.sipush 441, 3) := by decide +kernel
theorem dL_areAll_147 : decode cL_areAll 147 = .ok (.if_icmp .ne 15, 3) := by decide +kernel
theorem dL_areAll_150 : decode cL_areAll 150 = .ok (.iload_n 2, 1) := by decide +kernel
theorem dL_areAll_151 : decode cL_areAll 151 = .ok (.aload_n 0, 1) := by decide +kernel
theorem dL_areAll_152 : decode cL_areAll 152 = .ok (.invokevirtual 136, 3) := by decide +kernel
theorem dL_areAll_155 : decode cL_areAll 155 = .ok (.if_icmp .ne 7, 3) := by decide +kernel
theorem dL_areAll_158 : decode cL_areAll 158 = .ok (.iconst 1, 1) := by decide +kernel
theorem dL_areAll_159 : decode cL_areAll 159 = .ok (.goto 4, 3) := by decide +kernel
theorem dL_areAll_162 : decode cL_areAll 162 = .ok (.iconst 0, 1) := by decide +kernel
theorem dL_areAll_163 : decode cL_areAll 163 = .ok (.ireturn, 1) := by decide +kernel
set_option maxRecDepth 20000 in
theorem ggL_does_L_mass : GoodIn wsL_does wsL_mass := goodIn_ca (goodIn_ca (goodIn_r _ [4, 5, 6, 7, 8, 9, 10, 11, 12, 13, 14, 15, 16, 17, 18, 19, 20, 21, 22, 23, 24, 25, 26, 27, 28, 29, 30, 31, 32, 33, 34, 35, 36, 37, 38, 39, 40, 41, 42, 43, 44, 45, 46, 47, 48, 49, 50, 51, 52, 53, 54, 55, 56, 57, 58, 59, 60, 61, 62, 63, 64, 65, 66, 67, 68, 69, 70, 71, 72, 73, 74, 75, 76, 77, 78, 79, 80, 81, 82, 83, 84, 85, 86, 87, 88, 89, 90, 91, 92, 93, 94, 95, 96, 97, 98, 99, 100, 101, 102, 103, 104, 105, 106, 107, 108, 109, 110, 111, 112, 113, 114, 115, 116, 117, 118, 119, 120, 121, 122, 123, 124, 125, 126, 127, 128, 129, 130, 131, 132, 133, 134, 135, 136, 137, 138, 139, 140, 141, 142, 143, 144, 145, 146, 147, 148, 149, 150, 151, 152, 153, 154, 155, 156, 157, 158, 159, 160, 161, 162, 163, 164, 165, 166, 167, 168, 169, 170, 171, 172, 173, 174, 175, 176, 177, 178, 179, 180, 181, 182, 183, 184, 185, 186, 187, 188, 189, 190, 191, 192, 193, 194, 195, 196, 197, 198, 199, 200, 201, 202, 203, 204, 205, 206, 207, 208, 209, 210, 211, 212, 213, 214, 215, 216, 217, 218, 219, 220, 221, 222, 223, 224, 225, 226, 623, 624, 625, 626, 627, 628, 629, 630, 631, 632, 633, 634, 635, 636, 637, 638, 639, 640, 641, 642, 643, 644, 645, 646, 647, 648, 649, 650, 651, 652, 653, 654] (by decide +kernel) (by decide +kernel)) (goodIn_sub (fun _ h => List.mem_cons_of_mem _ (List.mem_append_left _ (List.mem_append_left _ (List.mem_append_right _ h)))) (by decide +kernel))) (goodIn_sub (fun _ h => List.mem_cons_of_mem _ (List.mem_append_left _ (List.mem_append_right _ h))) (by decide +kernel))
set_option maxRecDepth 20000 in
theorem gL_does_L_mass : GoodIn wsL_does (va_wsS RL 139 yL_mass wsL_mass) := goodIn_app (goodIn_of _ (by decide +kernel)) ggL_does_L_mass
set_option maxRecDepth 20000 in
theorem ggL_does_L_isRefused : GoodIn wsL_does wsL_isRefused := goodIn_r _ [229, 230, 7, 8] (by decide +kernel) (by decide +kernel)
set_option maxRecDepth 20000 in
theorem gL_does_L_isRefused : GoodIn wsL_does (va_wsS RL 142 yL_isRefused wsL_isRefused) := goodIn_app (goodIn_of _ (by decide +kernel)) ggL_does_L_isRefused
set_option maxRecDepth 20000 in
theorem ggL_does_X8_frames : GoodIn wsL_does wsX8_frames := goodIn_r _ [234, 177, 235, 236, 237, 184, 238, 186, 239, 35, 36, 37, 38, 39, 623, 624, 625, 626, 627, 628, 629, 630, 631, 632, 633, 645, 646, 647, 642, 643, 644] (by decide +kernel) (by decide +kernel)
set_option maxRecDepth 20000 in
theorem gL_does_X8_frames : GoodIn wsL_does (wsV RL 107 RX8 yX8_frames wsX8_frames) := goodIn_app (goodIn_of _ (by decide +kernel)) ggL_does_X8_frames
set_option maxRecDepth 20000 in
theorem ggL_does_L_two : GoodIn wsL_does wsL_two := goodIn_ca (goodIn_ca (goodIn_ca (goodIn_r _ [242, 243, 5, 6, 230, 7, 8, 244, 245, 246, 12, 247, 248, 249, 14, 15, 16, 17, 18, 250, 251, 252, 31, 253, 33, 125, 34, 35, 36, 37, 38, 39, 126, 127, 128, 129, 130, 131, 132, 133, 134, 135, 136, 137, 138, 139, 140, 141, 60, 25, 26, 27, 22, 23, 24, 254, 255, 256, 21, 257, 49, 28, 29, 30, 32, 258, 259, 260, 261, 262, 75, 76, 77, 263, 20, 46, 264, 41, 42, 43, 44, 45, 47, 48, 50, 51, 52, 53, 54, 55, 56, 57, 58, 59, 61, 62, 63, 64, 65, 66, 67, 68, 69, 70, 71, 72, 73, 74, 78, 79, 80, 81, 82, 83, 84, 85, 86, 87, 88, 89, 90, 91, 92, 93, 94, 95, 96, 97, 98, 99, 100, 101, 102, 103, 104, 105, 106, 107, 108, 109, 110, 111, 112, 113, 114, 115, 116, 117, 118, 119, 120, 121, 122, 123, 124, 142, 143, 144, 145, 146, 147, 148, 149, 150, 151, 152, 153, 154, 155, 156, 157, 158, 159, 160, 161, 162, 163, 164, 165, 166, 167, 168, 169, 170, 171, 172, 173, 174, 175, 176, 177, 178, 179, 180, 181, 182, 183, 184, 185, 186, 187, 188, 189, 190, 191, 192, 193, 194, 195, 196, 197, 198, 199, 200, 201, 202, 203, 204, 205, 206, 207, 208, 209, 210, 211, 212, 213, 214, 215, 216, 217, 218, 219, 220, 221, 222, 223, 224, 225, 226, 623, 624, 625, 626, 627, 628, 629, 630, 631, 632, 633, 638, 639, 640, 641, 642, 643, 644, 634, 635, 636, 637, 645, 646, 647, 648, 649, 650, 651, 652, 653, 654] (by decide +kernel) (by decide +kernel)) (goodIn_sub (fun _ h => List.mem_cons_of_mem _ (List.mem_append_right _ h)) (by decide +kernel))) (goodIn_sub (fun _ h => List.mem_cons_of_mem _ (List.mem_append_left _ (List.mem_append_left _ (List.mem_append_right _ h)))) (by decide +kernel))) (goodIn_sub (fun _ h => List.mem_cons_of_mem _ (List.mem_append_left _ (List.mem_append_right _ h))) (by decide +kernel))
set_option maxRecDepth 20000 in
theorem gL_does_L_two : GoodIn wsL_does (va_wsS RL 145 yL_two wsL_two) := goodIn_app (goodIn_of _ (by decide +kernel)) ggL_does_L_two
set_option maxRecDepth 20000 in
theorem ggL_does_L_source : GoodIn wsL_does wsL_source := goodIn_ca (goodIn_ca (goodIn_r _ [267, 5, 6, 7, 8, 268, 269, 270, 12, 271, 14, 15, 16, 17, 179, 272, 273, 196, 18, 25, 26, 27, 22, 23, 24, 191, 35, 36, 37, 38, 39, 274, 275, 276, 277, 180, 192, 127, 128, 129, 130, 131, 132, 133, 134, 135, 136, 137, 138, 139, 140, 141, 60, 278, 279, 280, 281, 44, 45, 282, 222, 204, 283, 284, 285, 198, 205, 206, 286, 287, 288, 289, 73, 290, 291, 292, 293, 294, 295, 296, 297, 298, 299, 200, 201, 202, 203, 207, 208, 31, 209, 210, 211, 212, 213, 112, 113, 214, 215, 216, 217, 218, 219, 220, 221, 223, 224, 225, 226, 114, 300, 55, 56, 57, 58, 59, 61, 62, 63, 64, 65, 66, 67, 68, 69, 70, 71, 72, 74, 75, 76, 77, 78, 79, 80, 81, 82, 83, 84, 85, 86, 87, 88, 89, 90, 91, 92, 93, 94, 95, 96, 97, 98, 99, 100, 101, 102, 103, 104, 105, 106, 107, 623, 624, 625, 626, 627, 628, 629, 630, 631, 632, 633, 648, 649, 650, 651, 652, 653, 654, 642, 643, 644, 638, 639, 640, 641] (by decide +kernel) (by decide +kernel)) (goodIn_sub (fun _ h => List.mem_cons_of_mem _ (List.mem_append_left _ (List.mem_append_left _ (List.mem_append_right _ h)))) (by decide +kernel))) (goodIn_sub (fun _ h => List.mem_cons_of_mem _ (List.mem_append_left _ (List.mem_append_right _ h))) (by decide +kernel))
set_option maxRecDepth 20000 in
theorem gL_does_L_source : GoodIn wsL_does (va_wsS RL 147 yL_source wsL_source) := goodIn_app (goodIn_of _ (by decide +kernel)) ggL_does_L_source
