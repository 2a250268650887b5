set_option maxRecDepth 20000 in
theorem ggL_takes_L_frame : GoodIn wsL_takes wsL_frame := goodIn_ca (goodIn_r _ [4, 5, 6, 7, 8, 9, 10, 11, 12, 13, 14, 15, 16, 17, 18, 19, 20, 21, 22, 23, 24, 25, 26, 27, 28, 29, 30, 31, 32, 33, 34, 35, 36, 37, 38, 39, 40, 41, 42, 43, 44, 45, 46, 47, 48, 49, 50, 51, 52, 53, 54, 55, 56, 57, 58, 59, 60, 61, 62, 63, 64, 65, 66, 67, 68, 69, 70, 71, 72, 73, 74, 75, 76, 77, 78, 79, 80, 81, 82, 83, 84, 85, 86, 87, 88, 89, 90, 91, 92, 93, 94, 95, 96, 97, 98, 99, 100, 101, 102, 103, 104, 105, 106, 107, 108, 109, 110, 111, 112, 113, 114, 115, 116, 117, 118, 119, 120, 121, 122, 123, 124, 125, 126, 127, 128, 129, 130, 131, 132, 133, 134, 135, 136, 137, 138, 139, 140, 141, 142, 143, 144, 145, 146, 147, 148, 149, 150, 151, 152, 153, 154, 155, 156, 157, 158, 159, 160, 161, 162, 163, 164, 165, 166, 167, 168, 169, 170, 171, 172, 173, 174, 175, 176, 177, 178, 179, 180, 181, 182, 183, 184, 185, 186, 187, 188, 189, 190, 191, 192, 193, 194, 195, 196, 197, 198, 199, 200, 201, 202, 203, 204, 205, 206, 207, 208, 209, 210, 211, 212, 213, 214, 215, 216, 217, 218, 219, 220, 221, 222, 223, 224, 225, 226, 227, 228, 229, 230, 231, 232, 233, 283, 284, 285, 286, 287, 288, 289, 290, 291, 292, 293, 294, 295, 296, 297, 298, 299, 300, 301, 302, 303, 304, 305, 306, 307, 308, 309, 310, 311, 312, 313, 314, 315, 316, 317, 318] (by decide +kernel) (by decide +kernel)) (goodIn_sub (fun _ h => List.mem_cons_of_mem _ (List.mem_append_left _ (List.mem_append_left _ (List.mem_append_right _ h)))) (by decide +kernel))
set_option maxRecDepth 20000 in
theorem gL_takes_L_frame : GoodIn wsL_takes (va_wsS RL 173 yL_frame wsL_frame) := goodIn_app (goodIn_of _ (by decide +kernel)) ggL_takes_L_frame
set_option maxRecDepth 20000 in
theorem ggL_takes_L_isRefused : GoodIn wsL_takes wsL_isRefused := goodIn_r _ [236, 237, 238, 6] (by decide +kernel) (by decide +kernel)
set_option maxRecDepth 20000 in
theorem gL_takes_L_isRefused : GoodIn wsL_takes (va_wsS RL 142 yL_isRefused wsL_isRefused) := goodIn_app (goodIn_of _ (by decide +kernel)) ggL_takes_L_isRefused
set_option maxRecDepth 20000 in
theorem ggL_takes_L_pass : GoodIn wsL_takes wsL_pass := goodIn_ca (goodIn_ca (goodIn_r _ [241, 242, 5, 238, 6, 243, 244, 245, 10, 246, 247, 248, 12, 13, 14, 23, 24, 25, 283, 284, 285, 286, 287, 288, 289, 290, 291, 292, 293] (by decide +kernel) (by decide +kernel)) (goodIn_sub (fun _ h => List.mem_cons_of_mem _ (List.mem_append_left _ (List.mem_append_right _ h))) (by decide +kernel))) (goodIn_sub (fun _ h => List.mem_cons_of_mem _ (List.mem_append_left _ (List.mem_append_left _ (List.mem_append_right _ h)))) (by decide +kernel))
set_option maxRecDepth 20000 in
theorem gL_takes_L_pass : GoodIn wsL_takes (va_wsS RL 175 yL_pass wsL_pass) := goodIn_app (goodIn_of _ (by decide +kernel)) ggL_takes_L_pass
set_option maxRecDepth 20000 in
theorem ggL_takes_L_seen : GoodIn wsL_takes wsL_seen := goodIn_ca (goodIn_ca (goodIn_r _ [251, 252, 242, 237, 238, 253, 254, 255, 10, 256, 257, 258, 247, 248, 16, 259, 39, 40, 29, 41, 31, 42, 32, 33, 34, 35, 36, 37, 43, 44, 45, 46, 47, 48, 49, 50, 51, 52, 53, 54, 55, 56, 57, 58, 59, 260, 261, 262, 263, 71, 72, 90, 91, 23, 24, 25, 264, 265, 266, 70, 267, 84, 179, 180, 181, 182, 283, 284, 285, 286, 287, 288, 289, 290, 291, 292, 293, 294, 295, 296, 299, 300, 301, 297, 298] (by decide +kernel) (by decide +kernel)) (goodIn_sub (fun _ h => List.mem_cons_of_mem _ (List.mem_append_right _ h)) (by decide +kernel))) (goodIn_sub (fun _ h => List.mem_cons_of_mem _ (List.mem_append_left _ (List.mem_append_right _ h))) (by decide +kernel))
set_option maxRecDepth 20000 in
theorem gL_takes_L_seen : GoodIn wsL_takes (va_wsS RL 129 yL_seen wsL_seen) := goodIn_app (goodIn_of _ (by decide +kernel)) ggL_takes_L_seen
set_option maxRecDepth 20000 in
theorem ggL_takes_L_images : GoodIn wsL_takes wsL_images := goodIn_ca (goodIn_r _ [270, 252, 237, 271, 272, 273, 10, 274, 257, 258, 260, 261, 262, 263, 71, 72, 90, 33, 34, 35, 36, 37, 91, 44, 45, 46, 47, 48, 49, 50, 51, 52, 53, 54, 55, 56, 57, 58, 59, 92, 93, 94, 95, 96, 97, 283, 284, 285, 286, 287, 288, 289, 290, 291, 292, 293, 299, 300, 301, 302, 303, 304, 305, 306, 307, 308] (by decide +kernel) (by decide +kernel)) (goodIn_sub (fun _ h => List.mem_cons_of_mem _ (List.mem_append_right _ h)) (by decide +kernel))
set_option maxRecDepth 20000 in
theorem gL_takes_L_images : GoodIn wsL_takes (va_wsS RL 116 yL_images wsL_images) := goodIn_app (goodIn_of _ (by decide +kernel)) ggL_takes_L_images
set_option maxRecDepth 20000 in
theorem ggL_takes_L_light : GoodIn wsL_takes wsL_light := goodIn_ca (goodIn_r _ [277, 252, 237, 278, 279, 280, 10, 281, 257, 258, 260, 261, 262, 263, 71, 72, 90, 33, 34, 35, 36, 37, 91, 44, 45, 46, 47, 48, 49, 50, 51, 52, 53, 54, 55, 56, 57, 58, 59, 282, 121, 122, 95, 123, 97, 98, 99, 100, 101, 14, 102, 103, 75, 104, 105, 106, 107, 108, 109, 110, 111, 112, 113, 114, 115, 116, 117, 118, 119, 120, 124, 125, 126, 127, 128, 129, 130, 131, 132, 133, 134, 135, 136, 137, 138, 139, 140, 141, 142, 143, 144, 145, 146, 147, 148, 149, 150, 151, 152, 153, 154, 155, 156, 157, 158, 159, 160, 161, 162, 163, 164, 165, 166, 167, 168, 169, 170, 171, 172, 173, 174, 283, 284, 285, 286, 287, 288, 289, 290, 291, 292, 293, 299, 300, 301, 302, 303, 304, 305, 306, 307, 308, 309, 310, 311, 312, 313, 314, 315, 316, 317, 318] (by decide +kernel) (by decide +kernel)) (goodIn_sub (fun _ h => List.mem_cons_of_mem _ (List.mem_append_right _ h)) (by decide +kernel))
set_option maxRecDepth 20000 in
theorem gL_takes_L_light : GoodIn wsL_takes (va_wsS RL 122 yL_light wsL_light) := goodIn_app (goodIn_of _ (by decide +kernel)) ggL_takes_L_light
theorem dL_takes_0 : decode cL_takes 0 = .ok (.aload_n 0, 1) := by decide +kernel
theorem dL_takes_1 : decode cL_takes 1 = .ok (.invokestatic 173, 3) := by decide +kernel
theorem dL_takes_4 : decode cL_takes 4 = .ok (.istore_n 3, 1) := by decide +kernel
theorem dL_takes_5 : decode cL_takes 5 = .ok (.iload_n 3, 1) := by decide +kernel
theorem dL_takes_6 : decode cL_takes 6 = .ok (.invokestatic 142, 3) := by decide +kernel
theorem dL_takes_9 : decode cL_takes 9 = .ok (.ifCond .eq 22, 3) := by decide +kernel
theorem dL_takes_12 : decode cL_takes 12 = .ok (.aload_n 0, 1) := by decide +kernel
theorem dL_takes_13 : decode cL_takes 13 = .ok (.iconst 1, 1) := by decide +kernel
theorem dL_takes_14 : decode cL_takes 14 = .ok (.iload_n 2, 1) := by decide +kernel
theorem dL_takes_15 : decode cL_takes 15 = .ok (.iconst 5, 1) := by decide +kernel
theorem dL_takes_16 : decode cL_takes 16 = .ok (.irem, 1) := by decide +kernel
theorem dL_takes_17 : decode cL_takes 17 = .ok (.iadd, 1) := by decide +kernel
theorem dL_takes_18 : decode cL_takes 18 = .ok (.invokestatic 175, 3) := by decide +kernel
theorem dL_takes_21 : decode cL_takes 21 = .ok (.ifCond .ge 8, 3) := by decide +kernel
theorem dL_takes_24 : decode cL_takes 24 = .ok (.bipush (-5), 2) := by decide +kernel
theorem dL_takes_26 : decode cL_takes 26 = .ok (.goto 4, 3) := by decide +kernel
theorem dL_takes_29 : decode cL_takes 29 = .ok (.iconst 0, 1) := by decide +kernel
theorem dL_takes_30 : decode cL_takes 30 = .ok (.ireturn, 1) := by decide +kernel
theorem dL_takes_31 : decode cL_takes 31 = .ok (.aload_n 1, 1) := by decide +kernel
theorem dL_takes_32 : decode cL_takes 32 = .ok (.bipush 19, 2) := by decide +kernel
theorem dL_takes_34 : decode cL_takes 34 = .ok (.iload_n 3, 1) := by decide +kernel
theorem dL_takes_35 : decode cL_takes 35 = .ok (.iastore, 1) := by decide +kernel
theorem dL_takes_36 : decode cL_takes 36 = .ok (.iconst 0, 1) := by decide +kernel
theorem dL_takes_37 : decode cL_takes 37 = .ok (.istore 4, 2) := by decide +kernel
theorem dL_takes_39 : decode cL_takes 39 = .ok (.iload 4, 2) := by decide +kernel
theorem dL_takes_41 : decode cL_takes 41 = .ok (.bipush 12, 2) := by decide +kernel
theorem dL_takes_43 : decode cL_takes 43 = .ok (.if_icmp .ge 31, 3) := by decide +kernel
theorem dL_takes_46 : decode cL_takes 46 = .ok (.aload_n 1, 1) := by decide +kernel
theorem dL_takes_47 : decode cL_takes 47 = .ok (.bipush 7, 2) := by decide +kernel
theorem dL_takes_49 : decode cL_takes 49 = .ok (.iload 4, 2) := by decide +kernel
theorem dL_takes_51 : decode cL_takes 51 = .ok (.iadd, 1) := by decide +kernel
theorem dL_takes_52 : decode cL_takes 52 = .ok (.aload_n 0, 1) := by decide +kernel
theorem dL_takes_53 : decode cL_takes 53 = .ok (.iload_n 3, 1) := by decide +kernel
theorem dL_takes_54 : decode cL_takes 54 = .ok (.iload 4, 2) := by decide +kernel
theorem dL_takes_56 : decode cL_takes 56 = .ok (.bipush 6, 2) := by decide +kernel
theorem dL_takes_58 : decode cL_takes 58 = .ok (.idiv, 1) := by decide +kernel
theorem dL_takes_59 : decode cL_takes 59 = .ok (.iload 4, 2) := by decide +kernel
theorem dL_takes_61 : decode cL_takes 61 = .ok (.bipush 6, 2) := by decide +kernel
theorem dL_takes_63 : decode cL_takes 63 = .ok (.irem, 1) := by decide +kernel
theorem dL_takes_64 : decode cL_takes 64 = .ok (.invokestatic 129, 3) := by decide +kernel
theorem dL_takes_67 : decode cL_takes 67 = .ok (.iastore, 1) := by decide +kernel
theorem dL_takes_68 : decode cL_takes 68 = .ok (.iinc 4 1, 3) := by decide +kernel
theorem dL_takes_71 : decode cL_takes 71 = .ok (.goto (-32), 3) := by decide +kernel
theorem dL_takes_74 : decode cL_takes 74 = .ok (.aload_n 1, 1) := by decide +kernel
theorem dL_takes_75 : decode cL_takes 75 = .ok (.iconst 1, 1) := by decide +kernel
theorem dL_takes_76 : decode cL_takes 76 = .ok (.iaload, 1) := by decide +kernel
theorem dL_takes_77 : decode cL_takes 77 = .ok (.ifCond .eq 24, 3) := by decide +kernel
theorem dL_takes_80 : decode cL_takes 80 = .ok (.aload_n 0, 1) := by decide +kernel
theorem dL_takes_81 : decode cL_takes 81 = .ok (.iconst 0, 1) := by decide +kernel
theorem dL_takes_82 : decode cL_takes 82 = .ok (.invokestatic 116, 3) := by decide +kernel
theorem dL_takes_85 : decode cL_takes 85 = .ok (.ifCond .eq 16, 3) := by decide +kernel
theorem dL_takes_88 : decode cL_takes 88 = .ok (.aload_n 1, 1) := by decide +kernel
theorem dL_takes_89 : decode cL_takes 89 = .ok (.bipush 7, 2) := by decide +kernel
theorem dL_takes_91 : decode cL_takes 91 = .ok (.iaload, 1) := by decide +kernel
theorem dL_takes_92 : decode cL_takes 92 = .ok (.aload_n 0, 1) := by decide +kernel
theorem dL_takes_93 : decode cL_takes 93 = .ok (.iconst 0, 1) := by decide +kernel
theorem dL_takes_94 : decode cL_takes 94 = .ok (.iconst 0, 1) := by decide +kernel
theorem dL_takes_95 : decode cL_takes 95 = .ok (.invokestatic 122, 3) := by decide +kernel
theorem dL_takes_98 : decode cL_takes 98 = .ok (.if_icmp .ne 7, 3) := by decide +kernel
theorem dL_takes_101 : decode cL_takes 101 = .ok (.iconst 1, 1) := by decide +kernel
theorem dL_takes_102 : decode cL_takes 102 = .ok (.goto 4, 3) := by decide +kernel
theorem dL_takes_105 : decode cL_takes 105 = .ok (.iconst 0, 1) := by decide +kernel
theorem dL_takes_106 : decode cL_takes 106 = .ok (.istore 4, 2) := by decide +kernel
theorem dL_takes_108 : decode cL_takes 108 = .ok (.aload_n 0, 1) := by decide +kernel
theorem dL_takes_109 : decode cL_takes 109 = .ok (.iconst 1, 1) := by decide +kernel
theorem dL_takes_110 : decode cL_takes 110 = .ok (.iload_n 2, 1) := by decide +kernel
theorem dL_takes_111 : decode cL_takes 111 = .ok (.iconst 3, 1) := by decide +kernel
theorem dL_takes_112 : decode cL_takes 112 = .ok (.irem, 1) := by decide +kernel
theorem dL_takes_113 : decode cL_takes 113 = .ok (.iadd, 1) := by decide +kernel
theorem dL_takes_114 : decode cL_takes 114 = .ok (.invokestatic 175, 3) := by decide +kernel
theorem dL_takes_117 : decode cL_takes 117 = .ok (.ifCond .lt 8, 3) := by decide +kernel
theorem dL_takes_120 : decode cL_takes 120 = .ok (.iload 4, 2) := by decide +kernel
theorem dL_takes_122 : decode cL_takes 122 = .ok (.ifCond .ne 8, 3) := by decide +kernel
theorem dL_takes_125 : decode cL_takes 125 = .ok (.bipush (-5), 2) := by decide +kernel
theorem dL_takes_127 : decode cL_takes 127 = .ok (.goto 4, 3) := by decide +kernel
theorem dL_takes_130 : decode cL_takes 130 = .ok (.iload_n 3, 1) := by decide +kernel
theorem dL_takes_131 : decode cL_takes 131 = .ok (.ireturn, 1) := by decide +kernel
set_option maxRecDepth 20000 in
theorem ggL_isKept_X8_frames : GoodIn wsL_isKept wsX8_frames := goodIn_r _ [6, 7, 8, 9, 10, 11, 12, 13, 14, 15, 16, 17, 18, 19, 78, 79, 80, 81, 82, 83, 84, 85, 86, 87, 88, 89, 90, 91, 92, 93, 94] (by decide +kernel) (by decide +kernel)
set_option maxRecDepth 20000 in
theorem gL_isKept_X8_frames : GoodIn wsL_isKept (wsV RL 107 RX8 yX8_frames wsX8_frames) := goodIn_app (goodIn_of _ (by decide +kernel)) ggL_isKept_X8_frames
set_option maxRecDepth 20000 in
theorem ggL_isKept_L_seen : GoodIn wsL_isKept wsL_seen := goodIn_ca (goodIn_ca (goodIn_r _ [23, 24, 25, 1, 26, 27, 28, 29, 5, 30, 31, 32, 33, 34, 7, 35, 36, 37, 11, 38, 13, 39, 14, 15, 16, 17, 18, 19, 40, 41, 42, 43, 44, 45, 46, 47, 48, 49, 50, 51, 52, 53, 54, 55, 56, 57, 58, 59, 60, 61, 62, 63, 64, 65, 66, 67, 68, 69, 70, 71, 72, 73, 74, 75, 76, 77, 78, 79, 80, 81, 82, 83, 84, 85, 86, 87, 88, 89, 90, 91, 92, 93, 94, 95, 96] (by decide +kernel) (by decide +kernel)) (goodIn_sub (fun _ h => List.mem_cons_of_mem _ (List.mem_append_left _ (List.mem_append_right _ h))) (by decide +kernel))) (goodIn_sub (fun _ h => List.mem_cons_of_mem _ (List.mem_append_right _ h)) (by decide +kernel))
set_option maxRecDepth 20000 in
theorem gL_isKept_L_seen : GoodIn wsL_isKept (va_wsS RL 129 yL_seen wsL_seen) := goodIn_app (goodIn_of _ (by decide +kernel)) ggL_isKept_L_seen
theorem dL_isKept_0 : decode cL_isKept 0 = .ok (.aload_n 1, 1) := by decide +kernel
theorem dL_isKept_1 : decode cL_isKept 1 = .ok (.bipush 19, 2) := by decide +kernel
theorem dL_isKept_3 : decode cL_isKept 3 = .ok (.iaload, 1) := by decide +kernel
theorem dL_isKept_4 : decode cL_isKept 4 = .ok (.ifCond .ge 10, 3) := by decide +kernel
theorem dL_isKept_7 : decode cL_isKept 7 = .ok (.aload_n 0, 1) := by decide +kernel
theorem dL_isKept_8 : decode cL_isKept 8 = .ok (.invokevirtual 107, 3) := by decide +kernel
theorem dL_isKept_11 : decode cL_isKept 11 = .ok (.ifCond .ne 7, 3) := by decide +kernel
theorem dL_isKept_14 : decode cL_isKept 14 = .ok (.iconst 1, 1) := by decide +kernel
theorem dL_isKept_15 : decode cL_isKept 15 = .ok (.goto 4, 3) := by decide +kernel
theorem dL_isKept_18 : decode cL_isKept 18 = .ok (.iconst 0, 1) := by decide +kernel
theorem dL_isKept_19 : decode cL_isKept 19 = .ok (.istore_n 2, 1) := by decide +kernel
theorem dL_isKept_20 : decode cL_isKept 20 = .ok (.iconst 0, 1) := by decide +kernel
theorem dL_isKept_21 : decode cL_isKept 21 = .ok (.istore_n 3, 1) := by decide +kernel
theorem dL_isKept_22 : decode cL_isKept 22 = .ok (.iload_n 3, 1) := by decide +kernel
theorem dL_isKept_23 : decode cL_isKept 23 = .ok (.bipush 6, 2) := by decide +kernel
theorem dL_isKept_25 : decode cL_isKept 25 = .ok (.aload_n 1, 1) := by decide +kernel
theorem dL_isKept_26 : decode cL_isKept 26 = .ok (.iconst 1, 1) := by decide +kernel
theorem dL_isKept_27 : decode cL_isKept 27 = .ok (.iaload, 1) := by decide +kernel
theorem dL_isKept_28 : decode cL_isKept 28 = .ok (.imul, 1) := by decide +kernel
theorem dL_isKept_29 : decode cL_isKept 29 = .ok (.if_icmp .ge 82, 3) := by decide +kernel
theorem dL_isKept_32 : decode cL_isKept 32 = .ok (.aload_n 1, 1) := by decide +kernel
theorem dL_isKept_33 : decode cL_isKept 33 = .ok (.bipush 19, 2) := by decide +kernel
theorem dL_isKept_35 : decode cL_isKept 35 = .ok (.iaload, 1) := by decide +kernel
theorem dL_isKept_36 : decode cL_isKept 36 = .ok (.ifCond .lt 75, 3) := by decide +kernel
theorem dL_isKept_39 : decode cL_isKept 39 = .ok (.iload_n 2, 1) := by decide +kernel
theorem dL_isKept_40 : decode cL_isKept 40 = .ok (.ifCond .eq 71, 3) := by decide +kernel
theorem dL_isKept_43 : decode cL_isKept 43 = .ok (.aload_n 0, 1) := by decide +kernel
theorem dL_isKept_44 : decode cL_isKept 44 = .ok (.aload_n 1, 1) := by decide +kernel
theorem dL_isKept_45 : decode cL_isKept 45 = .ok (.bipush 19, 2) := by decide +kernel
theorem dL_isKept_47 : decode cL_isKept 47 = .ok (.iaload, 1) := by decide +kernel
theorem dL_isKept_48 : decode cL_isKept 48 = .ok (.iload_n 3, 1) := by decide +kernel
theorem dL_isKept_49 : decode cL_isKept 49 = .ok (.bipush 6, 2) := by decide +kernel
theorem dL_isKept_51 : decode cL_isKept 51 = .ok (.idiv, 1) := by decide +kernel
theorem dL_isKept_52 : decode cL_isKept 52 = .ok (.iload_n 3, 1) := by decide +kernel
theorem dL_isKept_53 : decode cL_isKept 53 = .ok (.bipush 6, 2) := by decide +kernel
theorem dL_isKept_55 : decode cL_isKept 55 = .ok (.irem, 1) := by decide +kernel
theorem dL_isKept_56 : decode cL_isKept 56 = .ok (.invokestatic 129, 3) := by decide +kernel
theorem dL_isKept_59 : decode cL_isKept 59 = .ok (.aload_n 1, 1) := by decide +kernel
theorem dL_isKept_60 : decode cL_isKept 60 = .ok (.bipush 7, 2) := by decide +kernel
theorem dL_isKept_62 : decode cL_isKept 62 = .ok (.iload_n 3, 1) := by decide +kernel
theorem dL_isKept_63 : decode cL_isKept 63 = .ok (.iadd, 1) := by decide +kernel
theorem dL_isKept_64 : decode cL_isKept 64 = .ok (.iaload, 1) := by decide +kernel
theorem dL_isKept_65 : decode cL_isKept 65 = .ok (.if_icmp .eq 34, 3) := by decide +kernel
theorem dL_isKept_68 : decode cL_isKept 68 = .ok (.aload_n 1, 1) := by decide +kernel
theorem dL_isKept_69 : decode cL_isKept 69 = .ok (.bipush 7, 2) := by decide +kernel
theorem dL_isKept_71 : decode cL_isKept 71 = .ok (.iload_n 3, 1) := by decide +kernel
theorem dL_isKept_72 : decode cL_isKept 72 = .ok (.iadd, 1) := by decide +kernel
theorem dL_isKept_73 : decode cL_isKept 73 = .ok (.iaload, 1) := by decide +kernel
theorem dL_isKept_74 : decode cL_isKept 74 = .ok (.ldc 25, 2) := by decide +kernel
theorem dL_isKept_76 : decode cL_isKept 76 = .ok (.if_icmp .ne 27, 3) := by decide +kernel
theorem dL_isKept_79 : decode cL_isKept 79 = .ok (.aload_n 0, 1) := by decide +kernel
theorem dL_isKept_80 : decode cL_isKept 80 = .ok (.aload_n 1, 1) := by decide +kernel
theorem dL_isKept_81 : decode cL_isKept 81 = .ok (.bipush 19, 2) := by decide +kernel
theorem dL_isKept_83 : decode cL_isKept 83 = .ok (.iaload, 1) := by decide +kernel
theorem dL_isKept_84 : decode cL_isKept 84 = .ok (.iload_n 3, 1) := by decide +kernel
theorem dL_isKept_85 : decode cL_isKept 85 = .ok (.bipush 6, 2) := by decide +kernel
theorem dL_isKept_87 : decode cL_isKept 87 = .ok (.idiv, 1) := by decide +kernel
theorem dL_isKept_88 : decode cL_isKept 88 = .ok (.iload_n 3, 1) := by decide +kernel
theorem dL_isKept_89 : decode cL_isKept 89 = .ok (.bipush 6, 2) := by decide +kernel
theorem dL_isKept_91 : decode cL_isKept 91 = .ok (.irem, 1) := by decide +kernel
theorem dL_isKept_92 : decode cL_isKept 92 = .ok (.invokestatic 129, 3) := by decide +kernel
theorem dL_isKept_95 : decode cL_isKept 95 = .ok (.iconst (-1), 1) := by decide +kernel
theorem dL_isKept_96 : decode cL_isKept 96 = .ok (.if_icmp .ne 7, 3) := by decide +kernel
theorem dL_isKept_99 : decode cL_isKept 99 = .ok (.iconst 1, 1) := by decide +kernel
theorem dL_isKept_100 : decode cL_isKept 100 = .ok (.goto 4, 3) := by decide +kernel
theorem dL_isKept_103 : decode cL_isKept 103 = .ok (.iconst 0, 1) := by decide +kernel
theorem dL_isKept_104 : decode cL_isKept 104 = .ok (.istore_n 2, 1) := by decide +kernel
theorem dL_isKept_105 : decode cL_isKept 105 = .ok (.iinc 3 1, 3) := by decide +kernel
theorem dL_isKept_108 : decode cL_isKept 108 = .ok (.goto (-86), 3) := by decide +kernel
theorem dL_isKept_111 : decode cL_isKept 111 = .ok (.iload_n 2, 1) := by decide +kernel
theorem dL_isKept_112 : decode cL_isKept 112 = .ok (.ireturn, 1) := by decide +kernel
set_option maxRecDepth 20000 in
theorem ggL_goes_X8_init : GoodIn wsL_goes wsX8_init := goodIn_r _ [8, 9, 10, 11, 12, 13, 14, 15, 16, 17, 18, 19, 20, 21, 22, 23, 24, 25, 26, 27, 28, 29, 30, 31, 32, 33, 34, 35, 36, 37, 38, 39, 40, 4, 41, 42, 43, 44, 45, 46, 47, 48, 49, 50, 51, 52, 53, 54, 55, 56, 57, 58, 59, 60, 61, 62, 63, 64, 65, 66, 67, 68, 69, 70, 71, 72, 73, 74, 75, 76, 77, 78, 79, 80, 81, 82, 83, 84, 85, 86, 87, 88, 89, 90, 91, 92, 93, 94, 95, 96, 97, 98, 99, 100, 101, 102, 103, 104, 105, 106, 107, 108, 109, 110, 111, 112, 113, 114, 115, 116, 117, 118, 119, 120, 121, 122, 123, 124, 125, 126, 127, 128, 129, 130, 131, 132, 133, 134, 135, 136, 137, 138, 139, 140, 141, 142, 143, 144, 145, 146, 147, 148, 149, 150, 151, 152, 153, 154, 155, 776, 777, 778, 779, 765, 766, 767, 768, 769, 770, 771, 772, 773, 774, 775, 780, 781, 782, 783, 784, 785, 786, 787, 788, 789, 790, 791, 792, 793, 794] (by decide +kernel) (by decide +kernel)
set_option maxRecDepth 20000 in
theorem gL_goes_X8_init : GoodIn wsL_goes (wsX8_init) := ggL_goes_X8_init
set_option maxRecDepth 20000 in
theorem ggL_goes_L_drawn : GoodIn wsL_goes wsL_drawn := goodIn_r _ [159, 160, 161] (by decide +kernel) (by decide +kernel)
set_option maxRecDepth 20000 in
theorem gL_goes_L_drawn : GoodIn wsL_goes (va_wsS RL 178 yL_drawn wsL_drawn) := goodIn_app (goodIn_of _ (by decide +kernel)) ggL_goes_L_drawn
set_option maxRecDepth 20000 in
theorem ggL_goes_L_sum_p0 : GoodIn wsL_goes wsL_sum_r1 := goodIn_r _ [165, 166, 167, 3, 168, 30, 169, 170, 171, 172, 25, 173, 174, 175, 24, 176, 137, 177, 75, 76, 18, 77, 78, 178] (by decide +kernel) (by decide +kernel)
set_option maxRecDepth 20000 in
theorem ggL_goes_L_sum_p1 : GoodIn wsL_goes wsL_sum_r2 := goodIn_r _ [179, 158, 180, 181, 182, 183, 184, 185, 186, 187, 188, 29, 189, 106, 107, 108, 190, 191, 192, 28, 193, 151, 194, 195] (by decide +kernel) (by decide +kernel)
set_option maxRecDepth 20000 in
theorem ggL_goes_L_sum_p2 : GoodIn wsL_goes wsL_sum_r3 := goodIn_r _ [196, 197, 146, 198, 199, 200, 201, 202, 203, 204, 205, 206, 207, 208, 209, 210, 211, 212, 15, 213, 214, 215, 216, 217] (by decide +kernel) (by decide +kernel)
set_option maxRecDepth 20000 in
theorem ggL_goes_L_sum_p3 : GoodIn wsL_goes wsL_sum_r4 := goodIn_r _ [218, 219, 220, 14, 221, 222, 223, 224, 225, 42, 226, 227, 228, 229, 41, 230, 231, 232, 233, 234, 235, 236, 237, 238] (by decide +kernel) (by decide +kernel)
set_option maxRecDepth 20000 in
theorem ggL_goes_L_sum_p4 : GoodIn wsL_goes wsL_sum_r5 := goodIn_r _ [239, 240, 241, 242, 243, 244, 245, 246, 247, 248, 19, 249, 250, 251, 80, 81, 82, 83, 84, 85, 86, 87, 88, 89] (by decide +kernel) (by decide +kernel)
set_option maxRecDepth 20000 in
theorem ggL_goes_L_sum_p5 : GoodIn wsL_goes wsL_sum_r6 := goodIn_r _ [90, 91, 92, 93, 94, 48, 252, 253, 254, 255, 256, 257, 258, 259, 260, 261, 262, 263, 264, 265, 266, 267, 268, 269] (by decide +kernel) (by decide +kernel)
set_option maxRecDepth 20000 in
theorem ggL_goes_L_sum_p6 : GoodIn wsL_goes wsL_sum_r7 := goodIn_r _ [270, 271, 272, 273, 274, 275, 64, 65, 276, 67, 68, 277, 278, 279, 280, 281, 282, 283, 284, 285, 286, 287, 288, 289] (by decide +kernel) (by decide +kernel)
set_option maxRecDepth 20000 in
theorem ggL_goes_L_sum_p7 : GoodIn wsL_goes wsL_sum_r8 := goodIn_r _ [290, 291, 292, 293, 294, 295, 296, 43, 297, 298, 299, 300, 34, 301, 302, 303, 304, 305, 306, 307, 308, 309, 310, 311] (by decide +kernel) (by decide +kernel)
set_option maxRecDepth 20000 in
theorem ggL_goes_L_sum_p8 : GoodIn wsL_goes wsL_sum_r9 := goodIn_r _ [312, 313, 314, 315, 316, 317, 318, 319, 320, 321, 322, 323, 324, 325, 326, 327, 328, 329, 330, 331, 332, 333, 334, 335] (by decide +kernel) (by decide +kernel)
set_option maxRecDepth 20000 in
theorem ggL_goes_L_sum_p9 : GoodIn wsL_goes wsL_sum_r10 := goodIn_r _ [336, 337, 338, 339, 340, 341, 342, 343, 344, 345, 346, 347, 348, 349, 350, 351, 352, 353, 354, 355, 356, 357, 358, 359] (by decide +kernel) (by decide +kernel)
set_option maxRecDepth 20000 in
theorem ggL_goes_L_sum_p10 : GoodIn wsL_goes wsL_sum_r11 := goodIn_r _ [360, 361, 147, 362, 363, 364, 365, 366, 40, 74, 367, 368, 369, 370, 371, 372, 373, 374, 375, 376, 377, 378, 379, 380] (by decide +kernel) (by decide +kernel)
set_option maxRecDepth 20000 in
theorem ggL_goes_L_sum_p11 : GoodIn wsL_goes wsL_sum_r12 := goodIn_r _ [381, 382, 383, 384, 385, 386, 387, 388, 389] (by decide +kernel) (by decide +kernel)
set_option maxRecDepth 20000 in
theorem ggL_goes_L_sum_p12 : GoodIn wsL_goes wsX80 := goodIn_r _ [765, 766, 767, 768, 769, 770, 771, 772, 773, 774, 775] (by decide +kernel) (by decide +kernel)
set_option maxRecDepth 20000 in
theorem ggL_goes_L_sum_p13 : GoodIn wsL_goes wsX00 := goodIn_r _ [783, 784, 785] (by decide +kernel) (by decide +kernel)
set_option maxRecDepth 20000 in
theorem ggL_goes_L_sum_p14 : GoodIn wsL_goes wsJx4a65c0 := goodIn_r _ [780, 781, 782] (by decide +kernel) (by decide +kernel)
set_option maxRecDepth 20000 in
theorem ggL_goes_L_sum_p15 : GoodIn wsL_goes wsX10 := goodIn_r _ [786, 787, 788, 789, 790] (by decide +kernel) (by decide +kernel)
set_option maxRecDepth 20000 in
theorem ggL_goes_L_sum_p16 : GoodIn wsL_goes wsX50 := goodIn_r _ [776, 777, 778, 779] (by decide +kernel) (by decide +kernel)
set_option maxRecDepth 20000 in
theorem ggL_goes_L_sum_p17 : GoodIn wsL_goes wsX60 := goodIn_r _ [795, 796, 797, 798, 799, 800, 801] (by decide +kernel) (by decide +kernel)
set_option maxRecDepth 20000 in
theorem ggL_goes_L_sum_p18 : GoodIn wsL_goes wsX20 := goodIn_r _ [802, 803] (by decide +kernel) (by decide +kernel)
set_option maxRecDepth 20000 in
theorem ggL_goes_L_sum_p19 : GoodIn wsL_goes wsX70 := goodIn_r _ [804, 805, 806, 807] (by decide +kernel) (by decide +kernel)
set_option maxRecDepth 20000 in
theorem ggL_goes_L_sum_p20 : GoodIn wsL_goes wsX30 := goodIn_r _ [808, 809] (by decide +kernel) (by decide +kernel)
set_option maxRecDepth 20000 in
theorem ggL_goes_L_sum_c : GoodIn wsL_goes [Cond.code yL_sum cL_sum 4 (some .int)] := goodIn_r _ [164] (by decide +kernel) (by decide +kernel)
set_option maxRecDepth 20000 in
theorem ggL_goes_L_sum : GoodIn wsL_goes wsL_sum := fun w h => (List.mem_cons.mp h).elim (fun e => ggL_goes_L_sum_c w (List.mem_cons.mpr (Or.inl e))) ((goodIn_app (goodIn_app (goodIn_app (goodIn_app (goodIn_app (goodIn_app (goodIn_app (goodIn_app (goodIn_app (goodIn_app (goodIn_app (goodIn_app (goodIn_app ggL_goes_L_sum_p0 (goodIn_app ggL_goes_L_sum_p1 (goodIn_app ggL_goes_L_sum_p2 (goodIn_app ggL_goes_L_sum_p3 (goodIn_app ggL_goes_L_sum_p4 (goodIn_app ggL_goes_L_sum_p5 (goodIn_app ggL_goes_L_sum_p6 (goodIn_app ggL_goes_L_sum_p7 (goodIn_app ggL_goes_L_sum_p8 (goodIn_app ggL_goes_L_sum_p9 (goodIn_app ggL_goes_L_sum_p10 ggL_goes_L_sum_p11))))))))))) ggL_goes_L_sum_p12) ggL_goes_L_sum_p13) ggL_goes_L_sum_p14) ggL_goes_L_sum_p15) ggL_goes_L_sum_p16) ggL_goes_L_sum_p17) ggL_goes_L_sum_p18) ggL_goes_L_sum_p19) ggL_goes_L_sum_p20) (goodIn_sub (fun _ h => List.mem_cons_of_mem _ (List.mem_append_left _ (List.mem_append_left _ (List.mem_append_right _ h)))) (by decide +kernel))) (goodIn_sub (fun _ h => List.mem_cons_of_mem _ (List.mem_append_left _ (List.mem_append_right _ h))) (by decide +kernel))) (goodIn_sub (fun _ h => List.mem_cons_of_mem _ (List.mem_append_right _ h)) (by decide +kernel))) w)
set_option maxRecDepth 20000 in
theorem gL_goes_L_sum : GoodIn wsL_goes (va_wsS RL 183 yL_sum wsL_sum) := goodIn_app (goodIn_of _ (by decide +kernel)) ggL_goes_L_sum
set_option maxRecDepth 20000 in
theorem ggL_goes_L_does_p0 : GoodIn wsL_goes wsL_does_r1 := goodIn_r _ [393, 394, 158, 395, 205, 181, 206, 182, 396, 397, 398, 3, 399, 211, 212, 187, 188, 15, 400, 401, 98, 216, 217, 218] (by decide +kernel) (by decide +kernel)
set_option maxRecDepth 20000 in
theorem ggL_goes_L_does_p1 : GoodIn wsL_goes wsL_does_r2 := goodIn_r _ [213, 214, 215, 402, 403, 404, 14, 405, 40, 74, 75, 76, 18, 77, 78, 406, 407, 408, 409, 10, 11, 114, 100, 109] (by decide +kernel) (by decide +kernel)
set_option maxRecDepth 20000 in
theorem ggL_goes_L_does_p2 : GoodIn wsL_goes wsL_does_r3 := goodIn_r _ [115, 410, 411, 412, 413, 414, 415, 416, 417, 418, 419, 48, 420, 421, 422, 423, 424, 425, 426, 427, 428, 429, 430, 431] (by decide +kernel) (by decide +kernel)
set_option maxRecDepth 20000 in
theorem ggL_goes_L_does_p3 : GoodIn wsL_goes wsL_does_r4 := goodIn_r _ [47, 432, 320, 107, 321, 433, 434, 435, 436, 437, 438, 439, 440, 441, 442, 443, 444, 154, 445, 446, 447, 448, 449, 450] (by decide +kernel) (by decide +kernel)
set_option maxRecDepth 20000 in
theorem ggL_goes_L_does_p4 : GoodIn wsL_goes wsL_does_r5 := goodIn_r _ [451, 452, 453, 454, 455, 456, 457, 458, 459, 460, 461, 59, 60, 61, 62, 41, 42, 43, 63, 64, 65, 66, 67, 68] (by decide +kernel) (by decide +kernel)
set_option maxRecDepth 20000 in
theorem ggL_goes_L_does_p5 : GoodIn wsL_goes wsL_does_r6 := goodIn_r _ [69, 70, 71, 72, 73, 79, 80, 81, 82, 83, 84, 85, 86, 87, 88, 89, 90, 91, 92, 93, 94, 95, 96, 97] (by decide +kernel) (by decide +kernel)
set_option maxRecDepth 20000 in
theorem ggL_goes_L_does_p6 : GoodIn wsL_goes wsL_does_r7 := goodIn_r _ [99, 101, 102, 103, 104, 105, 106, 108, 110, 111, 112, 113, 116, 117, 118, 119, 120, 121, 122, 123, 124, 125, 126, 127] (by decide +kernel) (by decide +kernel)
set_option maxRecDepth 20000 in
theorem ggL_goes_L_does_p7 : GoodIn wsL_goes wsL_does_r8 := goodIn_r _ [128, 129, 130, 131, 462, 463, 464, 465, 25, 21, 19, 249, 466, 467, 468, 24, 469, 137, 470, 471, 472, 473, 250, 251] (by decide +kernel) (by decide +kernel)
set_option maxRecDepth 20000 in
theorem ggL_goes_L_does_p8 : GoodIn wsL_goes wsL_does_r9 := goodIn_r _ [474, 475, 476, 255, 477, 328, 478, 479, 480, 481, 482, 257, 483, 484, 485, 220, 221, 486, 487, 488, 489, 226, 227, 228] (by decide +kernel) (by decide +kernel)
set_option maxRecDepth 20000 in
theorem ggL_goes_L_does_p9 : GoodIn wsL_goes wsL_does_r10 := goodIn_r _ [229, 490, 491, 492, 493, 273, 494, 294, 295, 296, 495, 496, 497, 238, 169, 170, 171, 172, 173, 174, 175, 176, 177, 498] (by decide +kernel) (by decide +kernel)
set_option maxRecDepth 20000 in
theorem ggL_goes_L_does_p10 : GoodIn wsL_goes wsL_does_r11 := goodIn_r _ [499, 500, 237, 501, 502, 503, 504, 243, 244, 505, 506, 507, 508, 509, 510, 511, 512, 513, 514, 515, 516, 517, 518, 519] (by decide +kernel) (by decide +kernel)
set_option maxRecDepth 20000 in
theorem ggL_goes_L_does_p11 : GoodIn wsL_goes wsL_does_r12 := goodIn_r _ [520, 521, 522, 523, 524, 525, 526, 527, 528, 529, 530, 531, 532, 533, 534, 535, 536, 4, 537, 17, 317, 316, 538, 45] (by decide +kernel) (by decide +kernel)
set_option maxRecDepth 20000 in
theorem ggL_goes_L_does_p12 : GoodIn wsL_goes wsL_does_r13 := goodIn_r _ [46, 49, 50, 51, 52, 53, 54, 55, 56, 57, 58, 539, 540, 541, 542, 543, 544, 545, 546, 20, 547, 548, 549, 30] (by decide +kernel) (by decide +kernel)
set_option maxRecDepth 20000 in
theorem ggL_goes_L_does_p13 : GoodIn wsL_goes wsL_does_r14 := goodIn_r _ [245, 246, 247, 248, 550, 551, 552, 553, 554, 555, 556, 557, 558, 559, 560, 312, 313, 314, 315, 318, 319, 322, 323, 561] (by decide +kernel) (by decide +kernel)
set_option maxRecDepth 20000 in
theorem ggL_goes_L_does_p14 : GoodIn wsL_goes wsL_does_r15 := goodIn_r _ [562, 563, 564, 565, 566, 567, 568, 569, 333, 265, 266, 267, 268, 570, 571, 572, 573, 574, 336, 335, 338, 575, 576, 577] (by decide +kernel) (by decide +kernel)
set_option maxRecDepth 20000 in
theorem ggL_goes_L_does_p15 : GoodIn wsL_goes wsL_does_r16 := goodIn_r _ [578, 579, 580, 581, 582, 583, 584, 585, 31, 32, 586, 587, 588, 589, 590, 591, 592, 33, 593, 594, 595, 596, 597, 598] (by decide +kernel) (by decide +kernel)
set_option maxRecDepth 20000 in
theorem ggL_goes_L_does_p16 : GoodIn wsL_goes wsL_does_r17 := goodIn_r _ [599, 34, 600, 601, 602, 603, 604, 605, 606, 607, 608, 609, 29, 346, 199, 200, 28, 201, 610, 611, 612, 613, 614, 615] (by decide +kernel) (by decide +kernel)
set_option maxRecDepth 20000 in
theorem ggL_goes_L_does_p17 : GoodIn wsL_goes wsL_does_r18 := goodIn_r _ [616, 189, 277, 278, 279, 280, 269, 270, 271, 272, 274, 281, 282, 283, 284, 285, 286, 287, 288, 617, 618, 619, 620, 139] (by decide +kernel) (by decide +kernel)
set_option maxRecDepth 20000 in
theorem ggL_goes_L_does_p18 : GoodIn wsL_goes wsL_does_r19 := goodIn_r _ [140, 378, 621, 622, 623, 624, 153, 155, 379, 625, 381, 382, 383, 384, 385, 386, 387, 388, 389, 626, 627, 628, 629, 630] (by decide +kernel) (by decide +kernel)
set_option maxRecDepth 20000 in
theorem ggL_goes_L_does_p19 : GoodIn wsL_goes wsL_does_r20 := goodIn_r _ [631, 632, 633, 634, 289, 290, 291, 292, 293, 363, 364, 365, 366, 635, 636, 637, 638, 146, 147, 148, 198, 347, 348, 349] (by decide +kernel) (by decide +kernel)
set_option maxRecDepth 20000 in
theorem ggL_goes_L_does_p20 : GoodIn wsL_goes wsL_does_r21 := goodIn_r _ [350, 351, 352, 353, 354, 355, 356, 357, 358, 359, 360, 361, 362, 639, 640, 641, 642, 643, 644, 645, 646, 647, 648, 649] (by decide +kernel) (by decide +kernel)
set_option maxRecDepth 20000 in
theorem ggL_goes_L_does_p21 : GoodIn wsL_goes wsL_does_r22 := goodIn_r _ [150, 650, 651, 652, 653, 151, 654, 190, 191, 192, 193, 655, 656, 657, 658, 659, 660, 661, 662, 663, 664, 665, 666, 667] (by decide +kernel) (by decide +kernel)
set_option maxRecDepth 20000 in
theorem ggL_goes_L_does_p22 : GoodIn wsL_goes wsL_does_r23 := goodIn_r _ [668, 669, 670, 671, 672, 673, 674, 675, 676, 677, 678, 679, 680, 375, 376, 377, 681, 682, 683, 684, 685, 686, 687, 688] (by decide +kernel) (by decide +kernel)
set_option maxRecDepth 20000 in
theorem ggL_goes_L_does_p23 : GoodIn wsL_goes wsL_does_r24 := goodIn_r _ [689, 690, 691, 692, 693, 694, 695, 696, 697, 252, 253, 254, 256, 308, 309, 310, 311, 297, 298, 299, 300, 324, 325, 326] (by decide +kernel) (by decide +kernel)
set_option maxRecDepth 20000 in
theorem ggL_goes_L_does_p24 : GoodIn wsL_goes wsL_does_r25 := goodIn_r _ [327, 329, 330, 331, 332, 334, 337, 698, 699, 700, 701, 702, 703, 704, 705, 706, 707, 708, 709, 710, 711, 712, 713, 367] (by decide +kernel) (by decide +kernel)
set_option maxRecDepth 20000 in
theorem ggL_goes_L_does_p25 : GoodIn wsL_goes wsL_does_r26 := goodIn_r _ [368, 369, 370, 371, 372, 373, 374, 380, 234, 235, 236, 239, 240, 241, 242, 301, 302, 303, 304, 305, 306, 307] (by decide +kernel) (by decide +kernel)
set_option maxRecDepth 20000 in
theorem ggL_goes_L_does_p26 : GoodIn wsL_goes wsX80 := goodIn_r _ [765, 766, 767, 768, 769, 770, 771, 772, 773, 774, 775] (by decide +kernel) (by decide +kernel)
set_option maxRecDepth 20000 in
theorem ggL_goes_L_does_p27 : GoodIn wsL_goes wsX40 := goodIn_r _ [791, 792, 793, 794] (by decide +kernel) (by decide +kernel)
set_option maxRecDepth 20000 in
theorem ggL_goes_L_does_p28 : GoodIn wsL_goes wsX50 := goodIn_r _ [776, 777, 778, 779] (by decide +kernel) (by decide +kernel)
set_option maxRecDepth 20000 in
theorem ggL_goes_L_does_p29 : GoodIn wsL_goes wsJx4a65c0 := goodIn_r _ [780, 781, 782] (by decide +kernel) (by decide +kernel)
set_option maxRecDepth 20000 in
theorem ggL_goes_L_does_p30 : GoodIn wsL_goes wsX00 := goodIn_r _ [783, 784, 785] (by decide +kernel) (by decide +kernel)
set_option maxRecDepth 20000 in
theorem ggL_goes_L_does_p31 : GoodIn wsL_goes wsX60 := goodIn_r _ [795, 796, 797, 798, 799, 800, 801] (by decide +kernel) (by decide +kernel)
set_option maxRecDepth 20000 in
theorem ggL_goes_L_does_p32 : GoodIn wsL_goes wsX20 := goodIn_r _ [802, 803] (by decide +kernel) (by decide +kernel)
set_option maxRecDepth 20000 in
theorem ggL_goes_L_does_p33 : GoodIn wsL_goes wsX70 := goodIn_r _ [804, 805, 806, 807] (by decide +kernel) (by decide +kernel)
set_option maxRecDepth 20000 in
theorem ggL_goes_L_does_p34 : GoodIn wsL_goes wsX30 := goodIn_r _ [808, 809] (by decide +kernel) (by decide +kernel)
set_option maxRecDepth 20000 in
theorem ggL_goes_L_does_p35 : GoodIn wsL_goes wsX10 := goodIn_r _ [786, 787, 788, 789, 790] (by decide +kernel) (by decide +kernel)
set_option maxRecDepth 20000 in
theorem ggL_goes_L_does_c : GoodIn wsL_goes [Cond.code yL_does cL_does 6 (some .int)] := goodIn_r _ [392] (by decide +kernel) (by decide +kernel)
set_option maxRecDepth 20000 in
theorem ggL_goes_L_does : GoodIn wsL_goes wsL_does := fun w h => (List.mem_cons.mp h).elim (fun e => ggL_goes_L_does_c w (List.mem_cons.mpr (Or.inl e))) ((goodIn_app (goodIn_app (goodIn_app (goodIn_app (goodIn_app (goodIn_app (goodIn_app (goodIn_app (goodIn_app (goodIn_app (goodIn_app (goodIn_app (goodIn_app (goodIn_app ggL_goes_L_does_p0 (goodIn_app ggL_goes_L_does_p1 (goodIn_app ggL_goes_L_does_p2 (goodIn_app ggL_goes_L_does_p3 (goodIn_app ggL_goes_L_does_p4 (goodIn_app ggL_goes_L_does_p5 (goodIn_app ggL_goes_L_does_p6 (goodIn_app ggL_goes_L_does_p7 (goodIn_app ggL_goes_L_does_p8 (goodIn_app ggL_goes_L_does_p9 (goodIn_app ggL_goes_L_does_p10 (goodIn_app ggL_goes_L_does_p11 (goodIn_app ggL_goes_L_does_p12 (goodIn_app ggL_goes_L_does_p13 (goodIn_app ggL_goes_L_does_p14 (goodIn_app ggL_goes_L_does_p15 (goodIn_app ggL_goes_L_does_p16 (goodIn_app ggL_goes_L_does_p17 (goodIn_app ggL_goes_L_does_p18 (goodIn_app ggL_goes_L_does_p19 (goodIn_app ggL_goes_L_does_p20 (goodIn_app ggL_goes_L_does_p21 (goodIn_app ggL_goes_L_does_p22 (goodIn_app ggL_goes_L_does_p23 (goodIn_app ggL_goes_L_does_p24 ggL_goes_L_does_p25))))))))))))))))))))))))) ggL_goes_L_does_p26) ggL_goes_L_does_p27) ggL_goes_L_does_p28) ggL_goes_L_does_p29) ggL_goes_L_does_p30) ggL_goes_L_does_p31) ggL_goes_L_does_p32) ggL_goes_L_does_p33) ggL_goes_L_does_p34) ggL_goes_L_does_p35) (goodIn_sub (fun _ h => List.mem_cons_of_mem _ (List.mem_append_left _ (List.mem_append_right _ h))) (by decide +kernel))) (goodIn_sub (fun _ h => List.mem_cons_of_mem _ (List.mem_append_left _ (List.mem_append_left _ (List.mem_append_right _ h)))) (by decide +kernel))) (goodIn_sub (fun _ h => List.mem_cons_of_mem _ (List.mem_append_right _ h)) (by decide +kernel))) w)
set_option maxRecDepth 20000 in
theorem gL_goes_L_does : GoodIn wsL_goes (va_wsS RL 186 yL_does wsL_does) := goodIn_app (goodIn_of _ (by decide +kernel)) ggL_goes_L_does
set_option maxRecDepth 20000 in
theorem ggL_goes_L_isRefused : GoodIn wsL_goes wsL_isRefused := goodIn_r _ [497, 238, 206, 182] (by decide +kernel) (by decide +kernel)
set_option maxRecDepth 20000 in
theorem gL_goes_L_isRefused : GoodIn wsL_goes (va_wsS RL 142 yL_isRefused wsL_isRefused) := goodIn_app (goodIn_of _ (by decide +kernel)) ggL_goes_L_isRefused
set_option maxRecDepth 20000 in
theorem ggL_goes_L_isKept : GoodIn wsL_goes wsL_isKept := goodIn_ca (goodIn_ca (goodIn_r _ [716, 238, 169, 170, 171, 3, 172, 25, 173, 174, 175, 24, 176, 137, 177, 75, 76, 18, 77, 78, 367, 368, 158, 369, 237, 205, 206, 370, 371, 372, 373, 243, 244, 211, 212, 374, 375, 376, 377, 378, 379, 80, 81, 82, 83, 84, 85, 86, 87, 88, 89, 90, 91, 92, 93, 94, 48, 245, 246, 247, 248, 19, 249, 250, 251, 216, 217, 218, 380, 381, 382, 383, 384, 385, 386, 387, 388, 389, 765, 766, 767, 768, 769, 770, 771, 772, 773, 774, 775, 783, 784, 785, 780, 781, 782, 808, 809] (by decide +kernel) (by decide +kernel)) (goodIn_sub (fun _ h => List.mem_cons_of_mem _ (List.mem_append_right _ h)) (by decide +kernel))) (goodIn_sub (fun _ h => List.mem_cons_of_mem _ (List.mem_append_left _ (List.mem_append_right _ h))) (by decide +kernel))
set_option maxRecDepth 20000 in
theorem gL_goes_L_isKept : GoodIn wsL_goes (va_wsS RL 189 yL_isKept wsL_isKept) := goodIn_app (goodIn_of _ (by decide +kernel)) ggL_goes_L_isKept
set_option maxRecDepth 20000 in
theorem ggL_goes_L_isRight : GoodIn wsL_goes wsL_isRight := goodIn_ca (goodIn_ca (goodIn_r _ [719, 238, 720, 234, 235, 158, 236, 237, 239, 240, 241, 3, 242, 243, 244, 245, 246, 247, 248, 19, 249, 250, 75, 76, 18, 77, 78, 251, 80, 81, 82, 83, 84, 85, 86, 87, 88, 89, 90, 91, 92, 93, 94, 48, 252, 253, 254, 255, 256, 257, 721, 722, 723, 205, 206, 724, 725, 726, 727, 211, 212, 15, 213, 214, 215, 216, 217, 218, 728, 729, 730, 14, 731, 732, 220, 221, 733, 487, 488, 489, 41, 42, 226, 227, 228, 229, 301, 302, 303, 304, 305, 306, 307, 265, 266, 267, 268, 308, 309, 310, 311, 30, 189, 106, 107, 108, 297, 298, 299, 300, 34, 289, 290, 291, 292, 269, 270, 271, 272, 273, 274, 293, 294, 295, 296, 43, 312, 313, 314, 315, 316, 317, 318, 319, 320, 321, 322, 323, 277, 278, 279, 280, 281, 282, 283, 284, 285, 286, 287, 288, 324, 325, 326, 327, 328, 329, 330, 331, 332, 333, 334, 335, 336, 337, 338, 258, 259, 260, 261, 262, 263, 264, 275, 64, 65, 276, 67, 68, 202, 203, 204, 207, 208, 209, 210, 219, 222, 223, 224, 225, 230, 231, 232, 233, 734, 735, 736, 737, 738, 739, 740, 610, 611, 612, 765, 766, 767, 768, 769, 770, 771, 772, 773, 774, 775, 780, 781, 782, 795, 796, 797, 798, 799, 800, 801, 776, 777, 778, 779, 802, 803, 804, 805, 806, 807] (by decide +kernel) (by decide +kernel)) (goodIn_sub (fun _ h => List.mem_cons_of_mem _ (List.mem_append_right _ h)) (by decide +kernel))) (goodIn_sub (fun _ h => List.mem_cons_of_mem _ (List.mem_append_left _ (List.mem_append_right _ h))) (by decide +kernel))
set_option maxRecDepth 20000 in
theorem gL_goes_L_isRight : GoodIn wsL_goes (va_wsS RL 193 yL_isRight wsL_isRight) := goodIn_app (goodIn_of _ (by decide +kernel)) ggL_goes_L_isRight
set_option maxRecDepth 20000 in
theorem ggL_goes_L_anew : GoodIn wsL_goes wsL_anew := goodIn_ca (goodIn_r _ [743, 237, 238, 744, 745, 746, 3, 747, 243, 244, 15, 245, 246, 247, 248, 19, 249, 250, 75, 76, 18, 77, 78, 251, 80, 81, 82, 83, 84, 85, 86, 87, 88, 89, 90, 91, 92, 93, 94, 48, 748, 749, 750, 14, 751, 69, 70, 71, 72, 40, 73, 74, 79, 95, 96, 97, 98, 99, 100, 101, 102, 103, 104, 105, 106, 107, 108, 109, 110, 111, 112, 113, 114, 115, 116, 117, 118, 119, 120, 121, 122, 123, 765, 766, 767, 768, 769, 770, 771, 772, 773, 774, 775, 795, 796, 797, 798, 799, 800, 801, 780, 781, 782, 776, 777, 778, 779, 791, 792, 793, 794] (by decide +kernel) (by decide +kernel)) (goodIn_sub (fun _ h => List.mem_cons_of_mem _ (List.mem_append_right _ h)) (by decide +kernel))
set_option maxRecDepth 20000 in
theorem gL_goes_L_anew : GoodIn wsL_goes (va_wsS RL 197 yL_anew wsL_anew) := goodIn_app (goodIn_of _ (by decide +kernel)) ggL_goes_L_anew
set_option maxRecDepth 20000 in
theorem ggL_goes_L_images : GoodIn wsL_goes wsL_images := goodIn_ca (goodIn_r _ [236, 237, 238, 239, 240, 241, 3, 242, 243, 244, 245, 246, 247, 248, 19, 249, 250, 75, 76, 18, 77, 78, 251, 80, 81, 82, 83, 84, 85, 86, 87, 88, 89, 90, 91, 92, 93, 94, 48, 252, 253, 254, 255, 256, 257, 765, 766, 767, 768, 769, 770, 771, 772, 773, 774, 775, 780, 781, 782, 795, 796, 797, 798, 799, 800, 801] (by decide +kernel) (by decide +kernel)) (goodIn_sub (fun _ h => List.mem_cons_of_mem _ (List.mem_append_right _ h)) (by decide +kernel))
set_option maxRecDepth 20000 in
theorem gL_goes_L_images : GoodIn wsL_goes (va_wsS RL 116 yL_images wsL_images) := goodIn_app (goodIn_of _ (by decide +kernel)) ggL_goes_L_images
set_option maxRecDepth 20000 in
theorem ggL_goes_L_areAll : GoodIn wsL_goes wsL_areAll := goodIn_ca (goodIn_r _ [754, 755, 756, 757, 3, 758, 15, 759, 760, 761, 14, 762, 732, 220, 221, 763, 231, 232, 233, 41, 226, 227, 228, 229, 764, 223, 224, 225, 42, 214, 215, 216, 217, 218, 202, 203, 158, 204, 205, 206, 207, 208, 209, 210, 211, 212, 213, 219, 222, 230, 721, 722, 723, 724, 725, 726, 727, 728, 729, 730, 731, 733, 487, 488, 489, 765, 766, 767, 768, 769, 770, 771, 772, 773, 774, 775, 776, 777, 778, 779] (by decide +kernel) (by decide +kernel)) (goodIn_sub (fun _ h => List.mem_cons_of_mem _ (List.mem_append_left _ (List.mem_append_right _ h))) (by decide +kernel))
set_option maxRecDepth 20000 in
theorem gL_goes_L_areAll : GoodIn wsL_goes (va_wsS RL 200 yL_areAll wsL_areAll) := goodIn_app (goodIn_of _ (by decide +kernel)) ggL_goes_L_areAll
theorem dL_goes_0 : decode cL_goes 0 = .ok (.new 8, 3) := by decide +kernel
theorem dL_goes_3 : decode cL_goes 3 = .ok (.dup, 1) := by decide +kernel
theorem dL_goes_4 : decode cL_goes 4 = .ok (.invokespecial 177, 3) := by decide +kernel
theorem dL_goes_7 : decode cL_goes 7 = .ok (.astore_n 2, 1) := by decide +kernel
theorem dL_goes_8 : decode cL_goes 8 = .ok (.bipush 21, 2) := by decide +kernel
theorem dL_goes_10 : decode cL_goes 10 = .ok (.newarray .int, 2) := by decide +kernel
theorem dL_goes_12 : decode cL_goes 12 = .ok (.astore_n 3, 1) := by decide +kernel
theorem dL_goes_13 : decode cL_goes 13 = .ok (.aload_n 3, 1) := by decide +kernel
theorem dL_goes_14 : decode cL_goes 14 = .ok (.bipush 19, 2) := by decide +kernel
theorem dL_goes_16 : decode cL_goes 16 = .ok (.iconst (-1), 1) := by decide +kernel
theorem dL_goes_17 : decode cL_goes 17 = .ok (.iastore, 1) := by decide +kernel
theorem dL_goes_18 : decode cL_goes 18 = .ok (.iconst 1, 1) := by decide +kernel
theorem dL_goes_19 : decode cL_goes 19 = .ok (.istore 4, 2) := by decide +kernel
theorem dL_goes_21 : decode cL_goes 21 = .ok (.iconst 0, 1) := by decide +kernel
theorem dL_goes_22 : decode cL_goes 22 = .ok (.istore 5, 2) := by decide +kernel
theorem dL_goes_24 : decode cL_goes 24 = .ok (.iload 5, 2) := by decide +kernel
theorem dL_goes_26 : decode cL_goes 26 = .ok (.bipush 30, 2) := by decide +kernel
theorem dL_goes_28 : decode cL_goes 28 = .ok (.if_icmp .ge 203, 3) := by decide +kernel
theorem dL_goes_31 : decode cL_goes 31 = .ok (.iload 4, 2) := by decide +kernel
theorem dL_goes_33 : decode cL_goes 33 = .ok (.ifCond .eq 198, 3) := by decide +kernel
theorem dL_goes_36 : decode cL_goes 36 = .ok (.aload_n 0, 1) := by decide +kernel
theorem dL_goes_37 : decode cL_goes 37 = .ok (.iload_n 1, 1) := by decide +kernel
