set_option maxRecDepth 20000 in
theorem ggL_flare_X8_flare : GoodIn wsL_flare wsX8_flare := goodIn_ca (goodIn_ca (goodIn_ca (goodIn_r _ [11, 12, 13, 14, 15, 16, 17, 18, 19, 20, 21, 22, 23, 24, 25, 10, 26, 27, 28, 29, 30, 31, 32, 33, 34, 35, 36, 37, 38, 39, 40, 41, 42, 43, 44, 45, 46, 47, 48, 49, 50, 51, 52, 53, 54, 55, 56, 57, 58, 59, 60, 61, 62, 63, 64, 65, 66, 67, 68, 69, 70, 71, 72, 73, 74, 75, 76, 77, 78, 79, 80, 81, 82, 83, 84, 85, 86, 87, 88, 89, 90, 91, 92, 93, 94, 95, 96, 97, 98, 99, 100, 101, 102, 103, 104, 105, 106, 107, 108, 109, 110, 111, 112, 113, 114, 115, 116, 117, 118, 119, 120, 121, 122, 123, 124, 125, 126, 127, 128, 129, 130, 131, 132, 133, 134, 135, 136, 137, 138, 139, 140, 141, 142, 143, 144, 145, 146, 147, 148, 149, 150, 151, 152, 153] (by decide +kernel) (by decide +kernel)) (goodIn_sub (fun _ h => List.mem_cons_of_mem _ (List.mem_append_left _ (List.mem_append_left _ (List.mem_append_right _ h)))) (by decide +kernel))) (goodIn_sub (fun _ h => List.mem_cons_of_mem _ (List.mem_append_left _ (List.mem_append_right _ h))) (by decide +kernel))) (goodIn_sub (fun _ h => List.mem_cons_of_mem _ (List.mem_append_right _ h)) (by decide +kernel))
set_option maxRecDepth 20000 in
theorem gL_flare_X8_flare : GoodIn wsL_flare (wsV RL 29 RX8 yX8_flare wsX8_flare) := goodIn_app (goodIn_of _ (by decide +kernel)) ggL_flare_X8_flare
theorem dL_flare_0 : decode cL_flare 0 = .ok (.aload_n 0, 1) := by decide +kernel
theorem dL_flare_1 : decode cL_flare 1 = .ok (.iload_n 1, 1) := by decide +kernel
theorem dL_flare_2 : decode cL_flare 2 = .ok (.iload_n 2, 1) := by decide +kernel
theorem dL_flare_3 : decode cL_flare 3 = .ok (.invokevirtual 29, 3) := by decide +kernel
theorem dL_flare_6 : decode cL_flare 6 = .ok (.ireturn, 1) := by decide +kernel
theorem dL_flare_7 : decode cL_flare 7 = .ok (.astore_n 3, 1) := by decide +kernel
theorem dL_flare_8 : decode cL_flare 8 = .ok (.ldc 25, 2) := by decide +kernel
theorem dL_flare_10 : decode cL_flare 10 = .ok (.ireturn, 1) := by decide +kernel
theorem dL_flare_11 : decode cL_flare 11 = .ok (.astore_n 3, 1) := by decide +kernel
theorem dL_flare_12 : decode cL_flare 12 = .ok (.ldc 15, 2) := by decide +kernel
theorem dL_flare_14 : decode cL_flare 14 = .ok (.ireturn, 1) := by decide +kernel
theorem dL_flare_15 : decode cL_flare 15 = .ok (.astore_n 3, 1) := by decide +kernel
theorem dL_flare_16 : decode cL_flare 16 = .ok (.ldc 18, 2) := by decide +kernel
theorem dL_flare_18 : decode cL_flare 18 = .ok (.ireturn, 1) := by decide +kernel
set_option maxRecDepth 20000 in
theorem ggL_cross_X8_cross : GoodIn wsL_cross wsX8_cross := goodIn_ca (goodIn_ca (goodIn_ca (goodIn_r _ [11, 12, 13, 14, 15, 16, 17, 18, 19, 20, 21, 22, 23, 24, 25, 10, 26, 27, 28, 29, 30, 31, 32, 33, 34, 35, 36, 37, 38, 39, 40, 41, 42, 43, 44, 45, 46, 47, 48, 49, 50, 51, 52, 53, 54, 55, 56, 57, 58, 59, 60, 61, 62, 63, 64, 65, 66, 67, 68, 69, 70, 71, 72, 73, 74, 75, 76, 77, 78, 79, 80, 81, 82, 83, 84, 85, 86, 87, 88, 89, 90, 91, 92, 93, 94, 95, 96, 97, 98, 99, 100, 101, 102, 103, 104, 105, 106, 107, 108, 109, 110, 111, 112, 113, 114, 115, 116, 117, 118, 119, 120, 121, 122, 123, 124, 125, 126, 127, 128, 129, 130, 131, 132, 133, 134, 135, 136, 137, 138, 139, 140, 141, 142, 143, 144, 145, 146, 147, 148, 149, 150, 151, 152, 153] (by decide +kernel) (by decide +kernel)) (goodIn_sub (fun _ h => List.mem_cons_of_mem _ (List.mem_append_left _ (List.mem_append_left _ (List.mem_append_right _ h)))) (by decide +kernel))) (goodIn_sub (fun _ h => List.mem_cons_of_mem _ (List.mem_append_left _ (List.mem_append_right _ h))) (by decide +kernel))) (goodIn_sub (fun _ h => List.mem_cons_of_mem _ (List.mem_append_right _ h)) (by decide +kernel))
set_option maxRecDepth 20000 in
theorem gL_cross_X8_cross : GoodIn wsL_cross (wsV RL 33 RX8 yX8_cross wsX8_cross) := goodIn_app (goodIn_of _ (by decide +kernel)) ggL_cross_X8_cross
theorem dL_cross_0 : decode cL_cross 0 = .ok (.aload_n 0, 1) := by decide +kernel
theorem dL_cross_1 : decode cL_cross 1 = .ok (.iload_n 1, 1) := by decide +kernel
theorem dL_cross_2 : decode cL_cross 2 = .ok (.iload_n 2, 1) := by decide +kernel
theorem dL_cross_3 : decode cL_cross 3 = .ok (.iload_n 3, 1) := by decide +kernel
theorem dL_cross_4 : decode cL_cross 4 = .ok (.iload 4, 2) := by decide +kernel
theorem dL_cross_6 : decode cL_cross 6 = .ok (.invokevirtual 33, 3) := by decide +kernel
theorem dL_cross_9 : decode cL_cross 9 = .ok (.iconst 0, 1) := by decide +kernel
theorem dL_cross_10 : decode cL_cross 10 = .ok (.ireturn, 1) := by decide +kernel
theorem dL_cross_11 : decode cL_cross 11 = .ok (.astore 5, 2) := by decide +kernel
theorem dL_cross_13 : decode cL_cross 13 = .ok (.ldc 25, 2) := by decide +kernel
theorem dL_cross_15 : decode cL_cross 15 = .ok (.ireturn, 1) := by decide +kernel
theorem dL_cross_16 : decode cL_cross 16 = .ok (.astore 5, 2) := by decide +kernel
theorem dL_cross_18 : decode cL_cross 18 = .ok (.ldc 15, 2) := by decide +kernel
theorem dL_cross_20 : decode cL_cross 20 = .ok (.ireturn, 1) := by decide +kernel
theorem dL_cross_21 : decode cL_cross 21 = .ok (.astore 5, 2) := by decide +kernel
theorem dL_cross_23 : decode cL_cross 23 = .ok (.ldc 18, 2) := by decide +kernel
theorem dL_cross_25 : decode cL_cross 25 = .ok (.ireturn, 1) := by decide +kernel
set_option maxRecDepth 20000 in
theorem ggL_season_X8_season : GoodIn wsL_season wsX8_season := goodIn_ca (goodIn_r _ [7, 8, 9, 10, 11, 12, 13, 6, 14, 15, 16, 17, 18, 19, 20, 21, 22, 23, 24, 25] (by decide +kernel) (by decide +kernel)) (goodIn_sub (fun _ h => List.mem_cons_of_mem _ (List.mem_append_right _ h)) (by decide +kernel))
set_option maxRecDepth 20000 in
theorem gL_season_X8_season : GoodIn wsL_season (wsV RL 37 RX8 yX8_season wsX8_season) := goodIn_app (goodIn_of _ (by decide +kernel)) ggL_season_X8_season
theorem dL_season_0 : decode cL_season 0 = .ok (.aload_n 0, 1) := by decide +kernel
theorem dL_season_1 : decode cL_season 1 = .ok (.iload_n 1, 1) := by decide +kernel
theorem dL_season_2 : decode cL_season 2 = .ok (.iload_n 2, 1) := by decide +kernel
theorem dL_season_3 : decode cL_season 3 = .ok (.invokevirtual 37, 3) := by decide +kernel
theorem dL_season_6 : decode cL_season 6 = .ok (.iconst 0, 1) := by decide +kernel
theorem dL_season_7 : decode cL_season 7 = .ok (.ireturn, 1) := by decide +kernel
theorem dL_season_8 : decode cL_season 8 = .ok (.astore_n 3, 1) := by decide +kernel
theorem dL_season_9 : decode cL_season 9 = .ok (.ldc 15, 2) := by decide +kernel
theorem dL_season_11 : decode cL_season 11 = .ok (.ireturn, 1) := by decide +kernel
set_option maxRecDepth 20000 in
theorem ggL_cloud_X8_cloud : GoodIn wsL_cloud wsX8_cloud := goodIn_ca (goodIn_r _ [7, 8, 9, 10, 11, 12, 13, 6, 14, 15, 16, 17, 18, 19, 20, 21, 22, 23, 24, 25] (by decide +kernel) (by decide +kernel)) (goodIn_sub (fun _ h => List.mem_cons_of_mem _ (List.mem_append_right _ h)) (by decide +kernel))
set_option maxRecDepth 20000 in
theorem gL_cloud_X8_cloud : GoodIn wsL_cloud (wsV RL 41 RX8 yX8_cloud wsX8_cloud) := goodIn_app (goodIn_of _ (by decide +kernel)) ggL_cloud_X8_cloud
theorem dL_cloud_0 : decode cL_cloud 0 = .ok (.aload_n 0, 1) := by decide +kernel
theorem dL_cloud_1 : decode cL_cloud 1 = .ok (.iload_n 1, 1) := by decide +kernel
theorem dL_cloud_2 : decode cL_cloud 2 = .ok (.invokevirtual 41, 3) := by decide +kernel
theorem dL_cloud_5 : decode cL_cloud 5 = .ok (.ireturn, 1) := by decide +kernel
theorem dL_cloud_6 : decode cL_cloud 6 = .ok (.astore_n 2, 1) := by decide +kernel
theorem dL_cloud_7 : decode cL_cloud 7 = .ok (.ldc 15, 2) := by decide +kernel
theorem dL_cloud_9 : decode cL_cloud 9 = .ok (.ireturn, 1) := by decide +kernel
set_option maxRecDepth 20000 in
theorem ggL_world_X8_world : GoodIn wsL_world wsX8_world := goodIn_ca (goodIn_ca (goodIn_r _ [9, 10, 11, 12, 13, 14, 15, 16, 17, 8, 18, 19, 20, 21, 22, 23, 24, 25, 26, 27, 28, 29, 30, 31, 32, 33, 34, 35, 36, 37, 38, 39, 40, 41, 42, 43, 44, 45, 46, 47] (by decide +kernel) (by decide +kernel)) (goodIn_sub (fun _ h => List.mem_cons_of_mem _ (List.mem_append_left _ (List.mem_append_right _ h))) (by decide +kernel))) (goodIn_sub (fun _ h => List.mem_cons_of_mem _ (List.mem_append_right _ h)) (by decide +kernel))
set_option maxRecDepth 20000 in
theorem gL_world_X8_world : GoodIn wsL_world (wsV RL 45 RX8 yX8_world wsX8_world) := goodIn_app (goodIn_of _ (by decide +kernel)) ggL_world_X8_world
theorem dL_world_0 : decode cL_world 0 = .ok (.aload_n 0, 1) := by decide +kernel
theorem dL_world_1 : decode cL_world 1 = .ok (.iload_n 1, 1) := by decide +kernel
theorem dL_world_2 : decode cL_world 2 = .ok (.invokevirtual 45, 3) := by decide +kernel
theorem dL_world_5 : decode cL_world 5 = .ok (.ireturn, 1) := by decide +kernel
theorem dL_world_6 : decode cL_world 6 = .ok (.astore_n 2, 1) := by decide +kernel
theorem dL_world_7 : decode cL_world 7 = .ok (.ldc 15, 2) := by decide +kernel
theorem dL_world_9 : decode cL_world 9 = .ok (.ireturn, 1) := by decide +kernel
theorem dL_world_10 : decode cL_world 10 = .ok (.astore_n 2, 1) := by decide +kernel
theorem dL_world_11 : decode cL_world 11 = .ok (.ldc 18, 2) := by decide +kernel
theorem dL_world_13 : decode cL_world 13 = .ok (.ireturn, 1) := by decide +kernel
set_option maxRecDepth 20000 in
theorem ggL_frame_X8_frame : GoodIn wsL_frame wsX8_frame := goodIn_ca (goodIn_r _ [7, 8, 9, 10, 11, 12, 13, 14, 15, 6, 16, 17, 18, 19, 20, 21, 22, 23, 24, 25, 26, 27, 28, 29, 30, 31, 32, 33, 34, 35, 36, 37, 38, 39, 40, 41, 42, 43, 44, 45, 46, 47, 48, 49, 50, 51, 52, 53, 54, 55, 56, 57, 58, 59, 60, 61, 62, 63, 64, 65, 66, 67, 68, 69, 70, 71, 72, 73, 74, 75, 76, 77, 78, 79, 80, 81, 82, 83, 84, 85, 86, 87, 88, 89, 90, 91, 92, 93, 94, 95, 96, 97, 98, 99, 100, 101, 102, 103, 104, 105, 106, 107, 108, 109, 110, 111, 112, 113, 114, 115, 116, 117, 118, 119, 120, 121, 122, 123, 124, 125, 126, 127, 128, 129, 130, 131, 132, 133, 134, 135, 136, 137, 138, 139, 140, 141, 142, 143, 144, 145, 146, 147, 148, 149, 150, 151, 152, 153, 154, 155, 156, 157, 158, 159, 160, 161, 162, 163, 164, 165, 166, 167, 168, 169, 170, 171, 172, 173, 174, 175, 176, 177, 178, 179, 180, 181, 182, 183, 184, 185, 186, 187, 188, 189, 190, 191, 192, 193, 194, 195, 196, 197, 198, 199, 200, 201, 202, 203, 204, 205, 206, 207, 208, 209, 210, 211, 212, 213, 214, 215, 216, 217, 218, 219, 220, 221, 222, 223, 224, 225, 226, 227, 228, 229, 230, 231, 232, 233, 234, 235, 236, 237, 238, 239, 240, 241, 242, 243, 244, 245, 246, 247, 248, 249, 250, 251, 252, 253, 254, 255, 256, 257, 258, 259, 260, 261, 262, 263, 264, 265] (by decide +kernel) (by decide +kernel)) (goodIn_sub (fun _ h => List.mem_cons_of_mem _ (List.mem_append_right _ h)) (by decide +kernel))
set_option maxRecDepth 20000 in
theorem gL_frame_X8_frame : GoodIn wsL_frame (wsV RL 48 RX8 yX8_frame wsX8_frame) := goodIn_app (goodIn_of _ (by decide +kernel)) ggL_frame_X8_frame
theorem dL_frame_0 : decode cL_frame 0 = .ok (.aload_n 0, 1) := by decide +kernel
theorem dL_frame_1 : decode cL_frame 1 = .ok (.invokevirtual 48, 3) := by decide +kernel
theorem dL_frame_4 : decode cL_frame 4 = .ok (.ireturn, 1) := by decide +kernel
theorem dL_frame_5 : decode cL_frame 5 = .ok (.astore_n 1, 1) := by decide +kernel
theorem dL_frame_6 : decode cL_frame 6 = .ok (.ldc 18, 2) := by decide +kernel
theorem dL_frame_8 : decode cL_frame 8 = .ok (.ireturn, 1) := by decide +kernel
set_option maxRecDepth 20000 in
theorem ggL_pass_X8_pass : GoodIn wsL_pass wsX8_pass := goodIn_ca (goodIn_ca (goodIn_r _ [9, 10, 11, 12, 13, 14, 15, 16, 8, 17, 18, 19, 20, 21, 22, 23, 24, 25, 26, 27, 28] (by decide +kernel) (by decide +kernel)) (goodIn_sub (fun _ h => List.mem_cons_of_mem _ (List.mem_append_left _ (List.mem_append_right _ h))) (by decide +kernel))) (goodIn_sub (fun _ h => List.mem_cons_of_mem _ (List.mem_append_right _ h)) (by decide +kernel))
set_option maxRecDepth 20000 in
theorem gL_pass_X8_pass : GoodIn wsL_pass (wsV RL 52 RX8 yX8_pass wsX8_pass) := goodIn_app (goodIn_of _ (by decide +kernel)) ggL_pass_X8_pass
theorem dL_pass_0 : decode cL_pass 0 = .ok (.aload_n 0, 1) := by decide +kernel
theorem dL_pass_1 : decode cL_pass 1 = .ok (.iload_n 1, 1) := by decide +kernel
theorem dL_pass_2 : decode cL_pass 2 = .ok (.invokevirtual 52, 3) := by decide +kernel
theorem dL_pass_5 : decode cL_pass 5 = .ok (.ireturn, 1) := by decide +kernel
theorem dL_pass_6 : decode cL_pass 6 = .ok (.astore_n 2, 1) := by decide +kernel
theorem dL_pass_7 : decode cL_pass 7 = .ok (.ldc 15, 2) := by decide +kernel
theorem dL_pass_9 : decode cL_pass 9 = .ok (.ireturn, 1) := by decide +kernel
theorem dL_pass_10 : decode cL_pass 10 = .ok (.astore_n 2, 1) := by decide +kernel
theorem dL_pass_11 : decode cL_pass 11 = .ok (.ldc 18, 2) := by decide +kernel
theorem dL_pass_13 : decode cL_pass 13 = .ok (.ireturn, 1) := by decide +kernel
set_option maxRecDepth 20000 in
theorem ggL_book_X8_book : GoodIn wsL_book wsX8_book := goodIn_ca (goodIn_ca (goodIn_r _ [9, 10, 11, 12, 13, 14, 15, 16, 17, 18, 8, 19, 20, 21, 22, 23, 24, 25, 26, 27, 28, 29, 30, 31, 32, 33, 34, 35, 36, 37, 38, 39, 40, 41, 42, 43, 44, 45, 46, 47, 48, 49, 50, 51, 52, 53, 54, 55, 56, 57, 58, 59, 60, 61, 62, 63, 64, 65, 66, 67, 68, 69, 70, 71, 72, 73, 74, 75, 76, 77, 78, 79, 80, 81, 82, 83, 84, 85, 86, 87, 88, 89, 90, 91, 92, 93, 94, 95, 96, 97, 98, 99, 100, 101, 102, 103, 104, 105, 106, 107, 108, 109, 110, 111, 112, 113, 114, 115, 116, 117, 118, 119, 120, 121, 122, 123, 124, 125, 126, 127, 128, 129, 130, 131, 132, 133, 134, 135, 136, 137, 138, 139, 140, 141, 142, 143, 144, 145, 146, 147, 148, 149, 150, 151, 152, 153, 154, 155, 156, 157, 158, 159, 160, 161, 162, 163, 164, 165, 166, 167, 168, 169, 170, 171, 172, 173, 174, 175, 176, 177, 178, 179, 180, 181, 182, 183, 184, 185, 186, 187, 188, 189] (by decide +kernel) (by decide +kernel)) (goodIn_sub (fun _ h => List.mem_cons_of_mem _ (List.mem_append_left _ (List.mem_append_right _ h))) (by decide +kernel))) (goodIn_sub (fun _ h => List.mem_cons_of_mem _ (List.mem_append_right _ h)) (by decide +kernel))
set_option maxRecDepth 20000 in
theorem gL_book_X8_book : GoodIn wsL_book (wsV RL 55 RX8 yX8_book wsX8_book) := goodIn_app (goodIn_of _ (by decide +kernel)) ggL_book_X8_book
theorem dL_book_0 : decode cL_book 0 = .ok (.aload_n 0, 1) := by decide +kernel
theorem dL_book_1 : decode cL_book 1 = .ok (.iload_n 1, 1) := by decide +kernel
theorem dL_book_2 : decode cL_book 2 = .ok (.iload_n 2, 1) := by decide +kernel
theorem dL_book_3 : decode cL_book 3 = .ok (.iload_n 3, 1) := by decide +kernel
theorem dL_book_4 : decode cL_book 4 = .ok (.iload 4, 2) := by decide +kernel
theorem dL_book_6 : decode cL_book 6 = .ok (.invokevirtual 55, 3) := by decide +kernel
theorem dL_book_9 : decode cL_book 9 = .ok (.ireturn, 1) := by decide +kernel
theorem dL_book_10 : decode cL_book 10 = .ok (.astore 5, 2) := by decide +kernel
theorem dL_book_12 : decode cL_book 12 = .ok (.ldc 25, 2) := by decide +kernel
theorem dL_book_14 : decode cL_book 14 = .ok (.ireturn, 1) := by decide +kernel
theorem dL_book_15 : decode cL_book 15 = .ok (.astore 5, 2) := by decide +kernel
theorem dL_book_17 : decode cL_book 17 = .ok (.ldc 15, 2) := by decide +kernel
theorem dL_book_19 : decode cL_book 19 = .ok (.ireturn, 1) := by decide +kernel
set_option maxRecDepth 20000 in
theorem ggL_vote_X8_vote : GoodIn wsL_vote wsX8_vote := goodIn_ca (goodIn_r _ [7, 8, 9, 10, 11, 12, 13, 14, 15, 16, 17, 18, 19, 20, 21, 22, 23, 24, 25, 26, 27, 28, 29, 30, 31, 32, 33, 34, 35, 36, 37, 38, 39, 40, 41, 42] (by decide +kernel) (by decide +kernel)) (goodIn_sub (fun _ h => List.mem_cons_of_mem _ (List.mem_append_right _ h)) (by decide +kernel))
set_option maxRecDepth 20000 in
theorem gL_vote_X8_vote : GoodIn wsL_vote (wsV RL 58 RX8 yX8_vote wsX8_vote) := goodIn_app (goodIn_of _ (by decide +kernel)) ggL_vote_X8_vote
theorem dL_vote_0 : decode cL_vote 0 = .ok (.aload_n 0, 1) := by decide +kernel
theorem dL_vote_1 : decode cL_vote 1 = .ok (.iload_n 1, 1) := by decide +kernel
theorem dL_vote_2 : decode cL_vote 2 = .ok (.iload_n 2, 1) := by decide +kernel
theorem dL_vote_3 : decode cL_vote 3 = .ok (.invokevirtual 58, 3) := by decide +kernel
theorem dL_vote_6 : decode cL_vote 6 = .ok (.ifCond .eq 7, 3) := by decide +kernel
theorem dL_vote_9 : decode cL_vote 9 = .ok (.iconst 1, 1) := by decide +kernel
theorem dL_vote_10 : decode cL_vote 10 = .ok (.goto 4, 3) := by decide +kernel
theorem dL_vote_13 : decode cL_vote 13 = .ok (.iconst 0, 1) := by decide +kernel
theorem dL_vote_14 : decode cL_vote 14 = .ok (.ireturn, 1) := by decide +kernel
theorem dL_vote_15 : decode cL_vote 15 = .ok (.astore_n 3, 1) := by decide +kernel
theorem dL_vote_16 : decode cL_vote 16 = .ok (.ldc 25, 2) := by decide +kernel
theorem dL_vote_18 : decode cL_vote 18 = .ok (.ireturn, 1) := by decide +kernel
set_option maxRecDepth 20000 in
theorem ggL_from_X8_from : GoodIn wsL_from wsX8_from := goodIn_ca (goodIn_r _ [7, 8, 9, 10, 11, 12, 6, 13, 14, 15, 16, 17, 18, 19, 20, 21, 22, 23, 24, 25, 26, 27, 28, 29, 30, 31, 32, 33, 34, 35, 36, 37, 38, 39, 40, 41, 42, 43, 44, 45, 46, 47, 48, 49] (by decide +kernel) (by decide +kernel)) (goodIn_sub (fun _ h => List.mem_cons_of_mem _ (List.mem_append_right _ h)) (by decide +kernel))
set_option maxRecDepth 20000 in
theorem gL_from_X8_from : GoodIn wsL_from (wsV RL 62 RX8 yX8_from wsX8_from) := goodIn_app (goodIn_of _ (by decide +kernel)) ggL_from_X8_from
theorem dL_from_0 : decode cL_from 0 = .ok (.aload_n 0, 1) := by decide +kernel
theorem dL_from_1 : decode cL_from 1 = .ok (.iload_n 1, 1) := by decide +kernel
theorem dL_from_2 : decode cL_from 2 = .ok (.iload_n 2, 1) := by decide +kernel
theorem dL_from_3 : decode cL_from 3 = .ok (.iload_n 3, 1) := by decide +kernel
theorem dL_from_4 : decode cL_from 4 = .ok (.invokevirtual 62, 3) := by decide +kernel
theorem dL_from_7 : decode cL_from 7 = .ok (.ireturn, 1) := by decide +kernel
theorem dL_from_8 : decode cL_from 8 = .ok (.astore 4, 2) := by decide +kernel
theorem dL_from_10 : decode cL_from 10 = .ok (.ldc 15, 2) := by decide +kernel
theorem dL_from_12 : decode cL_from 12 = .ok (.ireturn, 1) := by decide +kernel
set_option maxRecDepth 20000 in
theorem ggL_images_X8_images : GoodIn wsL_images wsX8_images := goodIn_ca (goodIn_r _ [7, 8, 9, 10, 11, 12, 6, 13, 14, 15, 16, 17, 18, 19, 20, 21, 22, 23, 24, 25, 26, 27, 28, 29, 30, 31, 32, 33, 34, 35, 36, 37, 38, 39, 40, 41, 42, 43, 44, 45, 46, 47, 48, 49, 50, 51, 52, 53, 54, 55, 56, 57, 58, 59, 60, 61, 62, 63, 64, 65] (by decide +kernel) (by decide +kernel)) (goodIn_sub (fun _ h => List.mem_cons_of_mem _ (List.mem_append_right _ h)) (by decide +kernel))
set_option maxRecDepth 20000 in
theorem gL_images_X8_images : GoodIn wsL_images (wsV RL 66 RX8 yX8_images wsX8_images) := goodIn_app (goodIn_of _ (by decide +kernel)) ggL_images_X8_images
theorem dL_images_0 : decode cL_images 0 = .ok (.aload_n 0, 1) := by decide +kernel
theorem dL_images_1 : decode cL_images 1 = .ok (.iload_n 1, 1) := by decide +kernel
theorem dL_images_2 : decode cL_images 2 = .ok (.invokevirtual 66, 3) := by decide +kernel
theorem dL_images_5 : decode cL_images 5 = .ok (.ireturn, 1) := by decide +kernel
theorem dL_images_6 : decode cL_images 6 = .ok (.astore_n 2, 1) := by decide +kernel
theorem dL_images_7 : decode cL_images 7 = .ok (.ldc 25, 2) := by decide +kernel
theorem dL_images_9 : decode cL_images 9 = .ok (.ireturn, 1) := by decide +kernel
set_option maxRecDepth 20000 in
theorem ggL_anew_X8_imagesAnew : GoodIn wsL_anew wsX8_imagesAnew := goodIn_ca (goodIn_r _ [7, 8, 9, 10, 11, 12, 13, 6, 14, 15, 16, 17, 18, 19, 20, 21, 22, 23, 24, 25, 26, 27, 28, 29, 30, 31, 32, 33, 34, 35, 36, 37, 38, 39, 40, 41, 42, 43, 44, 45, 46, 47, 48, 49, 50, 51, 52, 53, 54, 55, 56, 57, 58, 59, 60, 61, 62, 63, 64, 65, 66, 67, 68, 69, 70, 71, 72, 73, 74, 75, 76, 77, 78, 79, 80, 81, 82, 83, 84, 85, 86, 87, 88, 89, 90, 91, 92, 93, 94, 95, 96, 97, 98, 99, 100, 101, 102, 103, 104, 105, 106, 107, 108, 109, 110] (by decide +kernel) (by decide +kernel)) (goodIn_sub (fun _ h => List.mem_cons_of_mem _ (List.mem_append_right _ h)) (by decide +kernel))
set_option maxRecDepth 20000 in
theorem gL_anew_X8_imagesAnew : GoodIn wsL_anew (wsV RL 69 RX8 yX8_imagesAnew wsX8_imagesAnew) := goodIn_app (goodIn_of _ (by decide +kernel)) ggL_anew_X8_imagesAnew
theorem dL_anew_0 : decode cL_anew 0 = .ok (.aload_n 0, 1) := by decide +kernel
theorem dL_anew_1 : decode cL_anew 1 = .ok (.iload_n 1, 1) := by decide +kernel
theorem dL_anew_2 : decode cL_anew 2 = .ok (.invokevirtual 69, 3) := by decide +kernel
theorem dL_anew_5 : decode cL_anew 5 = .ok (.ireturn, 1) := by decide +kernel
theorem dL_anew_6 : decode cL_anew 6 = .ok (.astore_n 2, 1) := by decide +kernel
theorem dL_anew_7 : decode cL_anew 7 = .ok (.ldc 25, 2) := by decide +kernel
theorem dL_anew_9 : decode cL_anew 9 = .ok (.ireturn, 1) := by decide +kernel
set_option maxRecDepth 20000 in
theorem ggL_imageOf_X8_imageOf : GoodIn wsL_imageOf wsX8_imageOf := goodIn_ca (goodIn_ca (goodIn_r _ [9, 10, 11, 12, 13, 14, 15, 16, 8, 17, 18, 19, 20, 21, 22, 23, 24, 25, 26, 27, 28, 29, 30, 31, 32, 33, 34, 35, 36, 37, 38, 39, 40, 41, 42, 43, 44, 45, 46, 47, 48, 49, 50, 51, 52, 53, 54, 55, 56, 57, 58, 59, 60, 61, 62, 63, 64, 65, 66, 67, 68, 69, 70, 71, 72, 73, 74, 75, 76, 77, 78, 79, 80, 81, 82, 83, 84, 85, 86, 87, 88, 89, 90, 91, 92, 93, 94, 95, 96, 97, 98, 99, 100, 101, 102, 103, 104, 105, 106, 107, 108, 109, 110, 111, 112, 113, 114, 115, 116, 117, 118, 119] (by decide +kernel) (by decide +kernel)) (goodIn_sub (fun _ h => List.mem_cons_of_mem _ (List.mem_append_left _ (List.mem_append_right _ h))) (by decide +kernel))) (goodIn_sub (fun _ h => List.mem_cons_of_mem _ (List.mem_append_right _ h)) (by decide +kernel))
set_option maxRecDepth 20000 in
theorem gL_imageOf_X8_imageOf : GoodIn wsL_imageOf (wsV RL 72 RX8 yX8_imageOf wsX8_imageOf) := goodIn_app (goodIn_of _ (by decide +kernel)) ggL_imageOf_X8_imageOf
theorem dL_imageOf_0 : decode cL_imageOf 0 = .ok (.aload_n 0, 1) := by decide +kernel
theorem dL_imageOf_1 : decode cL_imageOf 1 = .ok (.iload_n 1, 1) := by decide +kernel
theorem dL_imageOf_2 : decode cL_imageOf 2 = .ok (.iload_n 2, 1) := by decide +kernel
theorem dL_imageOf_3 : decode cL_imageOf 3 = .ok (.iload_n 3, 1) := by decide +kernel
theorem dL_imageOf_4 : decode cL_imageOf 4 = .ok (.invokevirtual 72, 3) := by decide +kernel
theorem dL_imageOf_7 : decode cL_imageOf 7 = .ok (.ireturn, 1) := by decide +kernel
theorem dL_imageOf_8 : decode cL_imageOf 8 = .ok (.astore 4, 2) := by decide +kernel
theorem dL_imageOf_10 : decode cL_imageOf 10 = .ok (.ldc 25, 2) := by decide +kernel
theorem dL_imageOf_12 : decode cL_imageOf 12 = .ok (.ireturn, 1) := by decide +kernel
theorem dL_imageOf_13 : decode cL_imageOf 13 = .ok (.astore 4, 2) := by decide +kernel
theorem dL_imageOf_15 : decode cL_imageOf 15 = .ok (.ldc 15, 2) := by decide +kernel
theorem dL_imageOf_17 : decode cL_imageOf 17 = .ok (.ireturn, 1) := by decide +kernel
set_option maxRecDepth 20000 in
theorem ggL_hits_X8_hits : GoodIn wsL_hits wsX8_hits := goodIn_ca (goodIn_r _ [7, 8, 9, 10, 11, 12, 6, 13, 14, 15, 16, 17, 18, 19, 20, 21, 22, 23, 24, 25, 26, 27, 28, 29, 30, 31, 32, 33, 34, 35, 36, 37, 38, 39, 40, 41, 42, 43, 44, 45, 46, 47, 48, 49] (by decide +kernel) (by decide +kernel)) (goodIn_sub (fun _ h => List.mem_cons_of_mem _ (List.mem_append_right _ h)) (by decide +kernel))
set_option maxRecDepth 20000 in
theorem gL_hits_X8_hits : GoodIn wsL_hits (wsV RL 75 RX8 yX8_hits wsX8_hits) := goodIn_app (goodIn_of _ (by decide +kernel)) ggL_hits_X8_hits
theorem dL_hits_0 : decode cL_hits 0 = .ok (.aload_n 0, 1) := by decide +kernel
theorem dL_hits_1 : decode cL_hits 1 = .ok (.iload_n 1, 1) := by decide +kernel
theorem dL_hits_2 : decode cL_hits 2 = .ok (.iload_n 2, 1) := by decide +kernel
theorem dL_hits_3 : decode cL_hits 3 = .ok (.invokevirtual 75, 3) := by decide +kernel
theorem dL_hits_6 : decode cL_hits 6 = .ok (.ireturn, 1) := by decide +kernel
theorem dL_hits_7 : decode cL_hits 7 = .ok (.astore_n 3, 1) := by decide +kernel
theorem dL_hits_8 : decode cL_hits 8 = .ok (.ldc 15, 2) := by decide +kernel
theorem dL_hits_10 : decode cL_hits 10 = .ok (.ireturn, 1) := by decide +kernel
set_option maxRecDepth 20000 in
theorem ggL_delay_X8_delay : GoodIn wsL_delay wsX8_delay := goodIn_ca (goodIn_r _ [7, 8, 9, 10, 11, 12, 6, 13, 14, 15, 16, 17, 18, 19, 20, 21, 22, 23, 24, 25, 26, 27, 28, 29, 30, 31, 32, 33, 34, 35, 36, 37, 38, 39, 40, 41, 42, 43, 44, 45, 46, 47, 48, 49, 50, 51, 52, 53, 54, 55, 56, 57, 58, 59, 60, 61, 62, 63, 64, 65, 66, 67, 68, 69, 70, 71, 72, 73, 74, 75, 76, 77, 78, 79, 80, 81, 82, 83, 84, 85, 86, 87, 88, 89, 90, 91, 92, 93, 94, 95, 96, 97, 98, 99] (by decide +kernel) (by decide +kernel)) (goodIn_sub (fun _ h => List.mem_cons_of_mem _ (List.mem_append_right _ h)) (by decide +kernel))
set_option maxRecDepth 20000 in
theorem gL_delay_X8_delay : GoodIn wsL_delay (wsV RL 78 RX8 yX8_delay wsX8_delay) := goodIn_app (goodIn_of _ (by decide +kernel)) ggL_delay_X8_delay
theorem dL_delay_0 : decode cL_delay 0 = .ok (.aload_n 0, 1) := by decide +kernel
theorem dL_delay_1 : decode cL_delay 1 = .ok (.iload_n 1, 1) := by decide +kernel
theorem dL_delay_2 : decode cL_delay 2 = .ok (.iload_n 2, 1) := by decide +kernel
theorem dL_delay_3 : decode cL_delay 3 = .ok (.iload_n 3, 1) := by decide +kernel
theorem dL_delay_4 : decode cL_delay 4 = .ok (.invokevirtual 78, 3) := by decide +kernel
theorem dL_delay_7 : decode cL_delay 7 = .ok (.ireturn, 1) := by decide +kernel
theorem dL_delay_8 : decode cL_delay 8 = .ok (.astore 4, 2) := by decide +kernel
theorem dL_delay_10 : decode cL_delay 10 = .ok (.ldc 25, 2) := by decide +kernel
theorem dL_delay_12 : decode cL_delay 12 = .ok (.ireturn, 1) := by decide +kernel
set_option maxRecDepth 20000 in
theorem ggL_light_X8_light : GoodIn wsL_light wsX8_light := goodIn_ca (goodIn_r _ [7, 8, 9, 10, 11, 12, 6, 13, 14, 15, 16, 17, 18, 19, 20, 21, 22, 23, 24, 25, 26, 27, 28, 29, 30, 31, 32, 33, 34, 35, 36, 37, 38, 39, 40, 41, 42, 43, 44, 45, 46, 47, 48, 49, 50, 51, 52, 53, 54, 55, 56, 57, 58, 59, 60, 61, 62, 63, 64, 65, 66, 67, 68, 69, 70, 71, 72, 73, 74, 75, 76, 77, 78, 79, 80, 81, 82, 83, 84, 85, 86, 87, 88, 89, 90, 91, 92, 93, 94, 95, 96, 97, 98, 99, 100, 101, 102, 103, 104, 105, 106, 107, 108, 109, 110, 111, 112, 113, 114, 115, 116, 117, 118, 119, 120, 121, 122, 123, 124, 125, 126, 127, 128, 129, 130, 131, 132, 133, 134, 135, 136, 137, 138, 139, 140, 141, 142, 143, 144, 145, 146, 147, 148, 149, 150, 151] (by decide +kernel) (by decide +kernel)) (goodIn_sub (fun _ h => List.mem_cons_of_mem _ (List.mem_append_right _ h)) (by decide +kernel))
set_option maxRecDepth 20000 in
theorem gL_light_X8_light : GoodIn wsL_light (wsV RL 81 RX8 yX8_light wsX8_light) := goodIn_app (goodIn_of _ (by decide +kernel)) ggL_light_X8_light
theorem dL_light_0 : decode cL_light 0 = .ok (.aload_n 0, 1) := by decide +kernel
theorem dL_light_1 : decode cL_light 1 = .ok (.iload_n 1, 1) := by decide +kernel
theorem dL_light_2 : decode cL_light 2 = .ok (.iload_n 2, 1) := by decide +kernel
theorem dL_light_3 : decode cL_light 3 = .ok (.invokevirtual 81, 3) := by decide +kernel
theorem dL_light_6 : decode cL_light 6 = .ok (.ireturn, 1) := by decide +kernel
theorem dL_light_7 : decode cL_light 7 = .ok (.astore_n 3, 1) := by decide +kernel
theorem dL_light_8 : decode cL_light 8 = .ok (.ldc 25, 2) := by decide +kernel
theorem dL_light_10 : decode cL_light 10 = .ok (.ireturn, 1) := by decide +kernel
set_option maxRecDepth 20000 in
theorem ggL_seen_X8_seen : GoodIn wsL_seen wsX8_seen := goodIn_ca (goodIn_ca (goodIn_r _ [9, 10, 11, 12, 13, 14, 15, 16, 17, 18, 19, 20, 21, 22, 23, 24, 25, 26, 27, 28, 29, 30, 31, 32, 33, 34, 35, 36, 37, 38, 39, 40, 41, 42, 43, 44, 45, 46, 47, 8, 48, 49, 50, 51, 52, 53, 54, 55, 56, 57, 58, 59, 60, 61, 62, 63, 64, 65, 66, 67, 68, 69, 70, 71, 72, 73, 74, 75, 76, 77, 78, 79, 80, 81, 82, 83, 84] (by decide +kernel) (by decide +kernel)) (goodIn_sub (fun _ h => List.mem_cons_of_mem _ (List.mem_append_left _ (List.mem_append_right _ h))) (by decide +kernel))) (goodIn_sub (fun _ h => List.mem_cons_of_mem _ (List.mem_append_right _ h)) (by decide +kernel))
set_option maxRecDepth 20000 in
theorem gL_seen_X8_seen : GoodIn wsL_seen (wsV RL 84 RX8 yX8_seen wsX8_seen) := goodIn_app (goodIn_of _ (by decide +kernel)) ggL_seen_X8_seen
theorem dL_seen_0 : decode cL_seen 0 = .ok (.aload_n 0, 1) := by decide +kernel
theorem dL_seen_1 : decode cL_seen 1 = .ok (.iload_n 1, 1) := by decide +kernel
theorem dL_seen_2 : decode cL_seen 2 = .ok (.iload_n 2, 1) := by decide +kernel
theorem dL_seen_3 : decode cL_seen 3 = .ok (.iload_n 3, 1) := by decide +kernel
theorem dL_seen_4 : decode cL_seen 4 = .ok (.invokevirtual 84, 3) := by decide +kernel
theorem dL_seen_7 : decode cL_seen 7 = .ok (.ireturn, 1) := by decide +kernel
theorem dL_seen_8 : decode cL_seen 8 = .ok (.astore 4, 2) := by decide +kernel
theorem dL_seen_10 : decode cL_seen 10 = .ok (.ldc 25, 2) := by decide +kernel
theorem dL_seen_12 : decode cL_seen 12 = .ok (.ireturn, 1) := by decide +kernel
theorem dL_seen_13 : decode cL_seen 13 = .ok (.astore 4, 2) := by decide +kernel
theorem dL_seen_15 : decode cL_seen 15 = .ok (.ldc 15, 2) := by decide +kernel
theorem dL_seen_17 : decode cL_seen 17 = .ok (.ireturn, 1) := by decide +kernel
set_option maxRecDepth 20000 in
theorem ggL_measured_X8_measured : GoodIn wsL_measured wsX8_measured := goodIn_ca (goodIn_ca (goodIn_r _ [9, 10, 11, 12, 13, 14, 15, 16, 8, 17, 18, 19, 20, 21, 22, 23, 24, 25, 26, 27, 28, 29, 30, 31, 32, 33, 34, 35, 36, 37, 38, 39, 40, 41, 42, 43, 44, 45, 46, 47, 48, 49, 50, 51, 52, 53, 54, 55, 56, 57, 58, 59, 60, 61, 62, 63, 64, 65, 66, 67, 68, 69, 70, 71, 72, 73, 74, 75, 76, 77, 78, 79, 80, 81, 82, 83, 84, 85, 86, 87, 88, 89, 90, 91, 92, 93, 94, 95, 96, 97, 98, 99, 100, 101, 102, 103, 104, 105, 106, 107, 108, 109, 110, 111, 112, 113, 114, 115, 116, 117, 118, 119, 120, 121, 122, 123, 124, 125, 126, 127, 128, 129, 130, 131, 132, 133, 134, 135, 136, 137, 138, 139, 140, 141, 142, 143, 144, 145, 146, 147, 148, 149, 150, 151, 152, 153, 154, 155] (by decide +kernel) (by decide +kernel)) (goodIn_sub (fun _ h => List.mem_cons_of_mem _ (List.mem_append_left _ (List.mem_append_right _ h))) (by decide +kernel))) (goodIn_sub (fun _ h => List.mem_cons_of_mem _ (List.mem_append_right _ h)) (by decide +kernel))
set_option maxRecDepth 20000 in
theorem gL_measured_X8_measured : GoodIn wsL_measured (wsV RL 87 RX8 yX8_measured wsX8_measured) := goodIn_app (goodIn_of _ (by decide +kernel)) ggL_measured_X8_measured
theorem dL_measured_0 : decode cL_measured 0 = .ok (.aload_n 0, 1) := by decide +kernel
theorem dL_measured_1 : decode cL_measured 1 = .ok (.iload_n 1, 1) := by decide +kernel
theorem dL_measured_2 : decode cL_measured 2 = .ok (.iload_n 2, 1) := by decide +kernel
theorem dL_measured_3 : decode cL_measured 3 = .ok (.iload_n 3, 1) := by decide +kernel
theorem dL_measured_4 : decode cL_measured 4 = .ok (.invokevirtual 87, 3) := by decide +kernel
theorem dL_measured_7 : decode cL_measured 7 = .ok (.ireturn, 1) := by decide +kernel
theorem dL_measured_8 : decode cL_measured 8 = .ok (.astore 4, 2) := by decide +kernel
theorem dL_measured_10 : decode cL_measured 10 = .ok (.ldc 25, 2) := by decide +kernel
theorem dL_measured_12 : decode cL_measured 12 = .ok (.ireturn, 1) := by decide +kernel
theorem dL_measured_13 : decode cL_measured 13 = .ok (.astore 4, 2) := by decide +kernel
theorem dL_measured_15 : decode cL_measured 15 = .ok (.ldc 15, 2) := by decide +kernel
theorem dL_measured_17 : decode cL_measured 17 = .ok (.ireturn, 1) := by decide +kernel
set_option maxRecDepth 20000 in
theorem ggL_booked_X8_booked : GoodIn wsL_booked wsX8_booked := goodIn_ca (goodIn_ca (goodIn_r _ [9, 10, 11, 12, 13, 14, 15, 16, 17, 18, 19, 20, 21, 22, 23, 24, 25, 26, 27, 28, 29, 30, 31, 32, 33, 34, 35, 36, 37, 38, 39, 40, 41, 42, 43, 44, 45, 46] (by decide +kernel) (by decide +kernel)) (goodIn_sub (fun _ h => List.mem_cons_of_mem _ (List.mem_append_left _ (List.mem_append_right _ h))) (by decide +kernel))) (goodIn_sub (fun _ h => List.mem_cons_of_mem _ (List.mem_append_right _ h)) (by decide +kernel))
set_option maxRecDepth 20000 in
theorem gL_booked_X8_booked : GoodIn wsL_booked (wsV RL 90 RX8 yX8_booked wsX8_booked) := goodIn_app (goodIn_of _ (by decide +kernel)) ggL_booked_X8_booked
theorem dL_booked_0 : decode cL_booked 0 = .ok (.aload_n 0, 1) := by decide +kernel
theorem dL_booked_1 : decode cL_booked 1 = .ok (.iload_n 1, 1) := by decide +kernel
theorem dL_booked_2 : decode cL_booked 2 = .ok (.invokevirtual 90, 3) := by decide +kernel
theorem dL_booked_5 : decode cL_booked 5 = .ok (.ireturn, 1) := by decide +kernel
theorem dL_booked_6 : decode cL_booked 6 = .ok (.astore_n 2, 1) := by decide +kernel
theorem dL_booked_7 : decode cL_booked 7 = .ok (.ldc 25, 2) := by decide +kernel
theorem dL_booked_9 : decode cL_booked 9 = .ok (.ireturn, 1) := by decide +kernel
theorem dL_booked_10 : decode cL_booked 10 = .ok (.astore_n 2, 1) := by decide +kernel
theorem dL_booked_11 : decode cL_booked 11 = .ok (.ldc 18, 2) := by decide +kernel
theorem dL_booked_13 : decode cL_booked 13 = .ok (.ireturn, 1) := by decide +kernel
set_option maxRecDepth 20000 in
theorem ggL_isFresh_X8_isFresh : GoodIn wsL_isFresh wsX8_isFresh := goodIn_ca (goodIn_ca (goodIn_r _ [9, 10, 11, 12, 13, 14, 15, 16, 17, 18, 19, 20, 21, 22, 23, 24, 25, 26, 27, 28, 29, 30, 31, 32, 33, 34, 35, 36, 37, 38, 39, 40, 41, 42, 43, 44, 45, 46, 47, 48, 49, 50, 51, 52, 53, 54, 55, 56, 57, 58, 59, 60, 61, 62, 63, 64, 65, 66] (by decide +kernel) (by decide +kernel)) (goodIn_sub (fun _ h => List.mem_cons_of_mem _ (List.mem_append_left _ (List.mem_append_right _ h))) (by decide +kernel))) (goodIn_sub (fun _ h => List.mem_cons_of_mem _ (List.mem_append_right _ h)) (by decide +kernel))
set_option maxRecDepth 20000 in
theorem gL_isFresh_X8_isFresh : GoodIn wsL_isFresh (wsV RL 93 RX8 yX8_isFresh wsX8_isFresh) := goodIn_app (goodIn_of _ (by decide +kernel)) ggL_isFresh_X8_isFresh
theorem dL_isFresh_0 : decode cL_isFresh 0 = .ok (.aload_n 0, 1) := by decide +kernel
theorem dL_isFresh_1 : decode cL_isFresh 1 = .ok (.iload_n 1, 1) := by decide +kernel
theorem dL_isFresh_2 : decode cL_isFresh 2 = .ok (.invokevirtual 93, 3) := by decide +kernel
theorem dL_isFresh_5 : decode cL_isFresh 5 = .ok (.ifCond .eq 7, 3) := by decide +kernel
theorem dL_isFresh_8 : decode cL_isFresh 8 = .ok (.iconst 1, 1) := by decide +kernel
theorem dL_isFresh_9 : decode cL_isFresh 9 = .ok (.goto 4, 3) := by decide +kernel
theorem dL_isFresh_12 : decode cL_isFresh 12 = .ok (.iconst 0, 1) := by decide +kernel
theorem dL_isFresh_13 : decode cL_isFresh 13 = .ok (.ireturn, 1) := by decide +kernel
theorem dL_isFresh_14 : decode cL_isFresh 14 = .ok (.astore_n 2, 1) := by decide +kernel
theorem dL_isFresh_15 : decode cL_isFresh 15 = .ok (.ldc 25, 2) := by decide +kernel
theorem dL_isFresh_17 : decode cL_isFresh 17 = .ok (.ireturn, 1) := by decide +kernel
theorem dL_isFresh_18 : decode cL_isFresh 18 = .ok (.astore_n 2, 1) := by decide +kernel
theorem dL_isFresh_19 : decode cL_isFresh 19 = .ok (.ldc 18, 2) := by decide +kernel
theorem dL_isFresh_21 : decode cL_isFresh 21 = .ok (.ireturn, 1) := by decide +kernel
set_option maxRecDepth 20000 in
theorem ggL_dispute_X8_dispute : GoodIn wsL_dispute wsX8_dispute := goodIn_ca (goodIn_r _ [7, 8, 9, 10, 11, 12, 13, 14, 15, 16, 17, 18, 19, 20, 21, 22, 23, 24, 25, 26, 27, 28, 29, 30, 31, 32, 33, 34, 35, 36, 37, 38, 39, 40, 41, 42, 43, 44, 45] (by decide +kernel) (by decide +kernel)) (goodIn_sub (fun _ h => List.mem_cons_of_mem _ (List.mem_append_right _ h)) (by decide +kernel))
set_option maxRecDepth 20000 in
theorem gL_dispute_X8_dispute : GoodIn wsL_dispute (wsV RL 97 RX8 yX8_dispute wsX8_dispute) := goodIn_app (goodIn_of _ (by decide +kernel)) ggL_dispute_X8_dispute
theorem dL_dispute_0 : decode cL_dispute 0 = .ok (.aload_n 0, 1) := by decide +kernel
theorem dL_dispute_1 : decode cL_dispute 1 = .ok (.invokevirtual 97, 3) := by decide +kernel
theorem dL_dispute_4 : decode cL_dispute 4 = .ok (.ireturn, 1) := by decide +kernel
theorem dL_dispute_5 : decode cL_dispute 5 = .ok (.astore_n 1, 1) := by decide +kernel
theorem dL_dispute_6 : decode cL_dispute 6 = .ok (.ldc 18, 2) := by decide +kernel
theorem dL_dispute_8 : decode cL_dispute 8 = .ok (.ireturn, 1) := by decide +kernel
theorem dL_drawn_0 : decode cL_drawn 0 = .ok (.iload_n 1, 1) := by decide +kernel
theorem dL_drawn_1 : decode cL_drawn 1 = .ok (.aload_n 0, 1) := by decide +kernel
theorem dL_drawn_2 : decode cL_drawn 2 = .ok (.arraylength, 1) := by decide +kernel
theorem dL_drawn_3 : decode cL_drawn 3 = .ok (.if_icmp .ge 9, 3) := by decide +kernel
theorem dL_drawn_6 : decode cL_drawn 6 = .ok (.aload_n 0, 1) := by decide +kernel
theorem dL_drawn_7 : decode cL_drawn 7 = .ok (.iload_n 1, 1) := by decide +kernel
theorem dL_drawn_8 : decode cL_drawn 8 = .ok (.iaload, 1) := by decide +kernel
theorem dL_drawn_9 : decode cL_drawn 9 = .ok (.goto 13, 3) := by decide +kernel
theorem dL_drawn_12 : decode cL_drawn 12 = .ok (.ldc 100, 2) := by decide +kernel
theorem dL_drawn_14 : decode cL_drawn 14 = .ok (.iload_n 1, 1) := by decide +kernel
theorem dL_drawn_15 : decode cL_drawn 15 = .ok (.iconst 3, 1) := by decide +kernel
theorem dL_drawn_16 : decode cL_drawn 16 = .ok (.iadd, 1) := by decide +kernel
theorem dL_drawn_17 : decode cL_drawn 17 = .ok (.imul, 1) := by decide +kernel
theorem dL_drawn_18 : decode cL_drawn 18 = .ok (.sipush 16219, 3) := by decide +kernel
theorem dL_drawn_21 : decode cL_drawn 21 = .ok (.iadd, 1) := by decide +kernel
theorem dL_drawn_22 : decode cL_drawn 22 = .ok (.ldc 101, 2) := by decide +kernel
theorem dL_drawn_24 : decode cL_drawn 24 = .ok (.iand, 1) := by decide +kernel
theorem dL_drawn_25 : decode cL_drawn 25 = .ok (.ireturn, 1) := by decide +kernel
theorem dL_isRefused_0 : decode cL_isRefused 0 = .ok (.iload_n 0, 1) := by decide +kernel
theorem dL_isRefused_1 : decode cL_isRefused 1 = .ok (.ldc 25, 2) := by decide +kernel
theorem dL_isRefused_3 : decode cL_isRefused 3 = .ok (.if_icmp .eq 15, 3) := by decide +kernel
theorem dL_isRefused_6 : decode cL_isRefused 6 = .ok (.iload_n 0, 1) := by decide +kernel
theorem dL_isRefused_7 : decode cL_isRefused 7 = .ok (.ldc 15, 2) := by decide +kernel
theorem dL_isRefused_9 : decode cL_isRefused 9 = .ok (.if_icmp .eq 9, 3) := by decide +kernel
theorem dL_isRefused_12 : decode cL_isRefused 12 = .ok (.iload_n 0, 1) := by decide +kernel
theorem dL_isRefused_13 : decode cL_isRefused 13 = .ok (.ldc 18, 2) := by decide +kernel
theorem dL_isRefused_15 : decode cL_isRefused 15 = .ok (.if_icmp .ne 7, 3) := by decide +kernel
theorem dL_isRefused_18 : decode cL_isRefused 18 = .ok (.iconst 1, 1) := by decide +kernel
theorem dL_isRefused_19 : decode cL_isRefused 19 = .ok (.goto 4, 3) := by decide +kernel
theorem dL_isRefused_22 : decode cL_isRefused 22 = .ok (.iconst 0, 1) := by decide +kernel
theorem dL_isRefused_23 : decode cL_isRefused 23 = .ok (.ireturn, 1) := by decide +kernel
set_option maxRecDepth 20000 in
theorem ggL_sum_X8_day : GoodIn wsL_sum wsX8_day := goodIn_r _ [5, 6, 274, 275, 276, 277, 278, 279, 280, 281, 282, 283, 284] (by decide +kernel) (by decide +kernel)
set_option maxRecDepth 20000 in
theorem gL_sum_X8_day : GoodIn wsL_sum (wsV RL 104 RX8 yX8_day wsX8_day) := goodIn_app (goodIn_of _ (by decide +kernel)) ggL_sum_X8_day
set_option maxRecDepth 20000 in
theorem ggL_sum_X8_frames : GoodIn wsL_sum wsX8_frames := goodIn_r _ [10, 11, 12, 13, 14, 15, 16, 17, 18, 19, 20, 21, 22, 23, 274, 275, 276, 277, 278, 279, 280, 281, 282, 283, 284, 285, 286, 287, 288, 289, 290] (by decide +kernel) (by decide +kernel)
set_option maxRecDepth 20000 in
theorem gL_sum_X8_frames : GoodIn wsL_sum (wsV RL 107 RX8 yX8_frames wsX8_frames) := goodIn_app (goodIn_of _ (by decide +kernel)) ggL_sum_X8_frames
set_option maxRecDepth 20000 in
theorem ggL_sum_L_dispute : GoodIn wsL_sum wsL_dispute := goodIn_ca (goodIn_r _ [27, 28, 29, 30, 31, 32, 4, 33, 34, 35, 36, 37, 38, 39, 40, 41, 42, 43, 44, 45, 46, 47, 48, 49, 50, 51, 52, 53, 54, 55, 274, 275, 276, 277, 278, 279, 280, 281, 282, 283, 284, 291, 292, 293, 294, 295] (by decide +kernel) (by decide +kernel)) (goodIn_sub (fun _ h => List.mem_cons_of_mem _ (List.mem_append_left _ (List.mem_append_left _ (List.mem_append_right _ h)))) (by decide +kernel))
set_option maxRecDepth 20000 in
theorem gL_sum_L_dispute : GoodIn wsL_sum (va_wsS RL 110 yL_dispute wsL_dispute) := goodIn_app (goodIn_of _ (by decide +kernel)) ggL_sum_L_dispute
set_option maxRecDepth 20000 in
theorem ggL_sum_L_from : GoodIn wsL_sum wsL_from := goodIn_ca (goodIn_r _ [58, 59, 60, 61, 62, 63, 4, 64, 65, 66, 67, 68, 69, 70, 71, 72, 73, 74, 75, 76, 77, 78, 79, 80, 81, 82, 83, 84, 85, 86, 87, 88, 89, 90, 91, 274, 275, 276, 277, 278, 279, 280, 281, 282, 283, 284, 296, 297, 298, 299] (by decide +kernel) (by decide +kernel)) (goodIn_sub (fun _ h => List.mem_cons_of_mem _ (List.mem_append_left _ (List.mem_append_right _ h))) (by decide +kernel))
set_option maxRecDepth 20000 in
theorem gL_sum_L_from : GoodIn wsL_sum (va_wsS RL 113 yL_from wsL_from) := goodIn_app (goodIn_of _ (by decide +kernel)) ggL_sum_L_from
set_option maxRecDepth 20000 in
theorem ggL_sum_L_images : GoodIn wsL_sum wsL_images := goodIn_ca (goodIn_r _ [94, 95, 96, 97, 98, 99, 4, 100, 101, 102, 103, 104, 105, 106, 107, 108, 109, 19, 20, 21, 22, 23, 110, 111, 112, 113, 114, 115, 116, 117, 118, 119, 120, 121, 122, 123, 124, 125, 126, 127, 128, 129, 130, 131, 132, 274, 275, 276, 277, 278, 279, 280, 281, 282, 283, 284, 288, 289, 290, 300, 301, 302, 303, 304, 305, 306] (by decide +kernel) (by decide +kernel)) (goodIn_sub (fun _ h => List.mem_cons_of_mem _ (List.mem_append_right _ h)) (by decide +kernel))
set_option maxRecDepth 20000 in
theorem gL_sum_L_images : GoodIn wsL_sum (va_wsS RL 116 yL_images wsL_images) := goodIn_app (goodIn_of _ (by decide +kernel)) ggL_sum_L_images
set_option maxRecDepth 20000 in
theorem ggL_sum_L_imageOf : GoodIn wsL_sum wsL_imageOf := goodIn_ca (goodIn_ca (goodIn_r _ [135, 95, 59, 96, 60, 136, 137, 138, 4, 139, 101, 102, 65, 66, 103, 104, 105, 106, 107, 108, 109, 19, 20, 21, 22, 23, 110, 111, 112, 113, 114, 115, 116, 117, 118, 119, 120, 121, 122, 123, 124, 125, 126, 140, 141, 142, 130, 143, 132, 144, 145, 146, 147, 148, 149, 150, 151, 76, 152, 153, 154, 155, 156, 157, 158, 159, 67, 160, 161, 162, 163, 164, 165, 166, 167, 87, 82, 83, 84, 85, 86, 168, 169, 170, 171, 172, 173, 174, 175, 176, 177, 178, 179, 180, 181, 274, 275, 276, 277, 278, 279, 280, 281, 282, 283, 284, 288, 289, 290, 300, 301, 302, 303, 304, 305, 306, 296, 297, 298, 299] (by decide +kernel) (by decide +kernel)) (goodIn_sub (fun _ h => List.mem_cons_of_mem _ (List.mem_append_right _ h)) (by decide +kernel))) (goodIn_sub (fun _ h => List.mem_cons_of_mem _ (List.mem_append_left _ (List.mem_append_right _ h))) (by decide +kernel))
set_option maxRecDepth 20000 in
theorem gL_sum_L_imageOf : GoodIn wsL_sum (va_wsS RL 119 yL_imageOf wsL_imageOf) := goodIn_app (goodIn_of _ (by decide +kernel)) ggL_sum_L_imageOf
set_option maxRecDepth 20000 in
theorem ggL_sum_L_light : GoodIn wsL_sum wsL_light := goodIn_ca (goodIn_r _ [184, 95, 96, 185, 186, 187, 4, 188, 101, 102, 103, 104, 105, 106, 107, 108, 109, 19, 20, 21, 22, 23, 110, 111, 112, 113, 114, 115, 116, 117, 118, 119, 120, 121, 122, 123, 124, 125, 126, 140, 141, 142, 130, 143, 132, 189, 190, 191, 192, 6, 37, 38, 39, 40, 177, 178, 179, 180, 181, 168, 169, 170, 171, 67, 144, 145, 146, 147, 148, 149, 172, 173, 174, 76, 175, 176, 83, 84, 85, 86, 87, 193, 194, 195, 196, 197, 198, 199, 200, 201, 202, 203, 204, 156, 157, 158, 159, 160, 161, 162, 163, 164, 165, 166, 167, 82, 205, 206, 207, 208, 209, 210, 211, 212, 213, 214, 215, 216, 217, 218, 219, 274, 275, 276, 277, 278, 279, 280, 281, 282, 283, 284, 288, 289, 290, 300, 301, 302, 303, 304, 305, 306, 296, 297, 298, 299, 307, 308, 309, 310, 311, 312] (by decide +kernel) (by decide +kernel)) (goodIn_sub (fun _ h => List.mem_cons_of_mem _ (List.mem_append_right _ h)) (by decide +kernel))
set_option maxRecDepth 20000 in
theorem gL_sum_L_light : GoodIn wsL_sum (va_wsS RL 122 yL_light wsL_light) := goodIn_app (goodIn_of _ (by decide +kernel)) ggL_sum_L_light
set_option maxRecDepth 20000 in
theorem ggL_sum_L_booked : GoodIn wsL_sum wsL_booked := goodIn_ca (goodIn_ca (goodIn_r _ [222, 95, 28, 96, 29, 223, 224, 225, 4, 226, 101, 102, 34, 35, 36, 227, 53, 54, 44, 55, 41, 42, 43, 45, 46, 47, 48, 49, 50, 51, 52, 274, 275, 276, 277, 278, 279, 280, 281, 282, 283, 284, 291, 292, 293, 294, 295] (by decide +kernel) (by decide +kernel)) (goodIn_sub (fun _ h => List.mem_cons_of_mem _ (List.mem_append_right _ h)) (by decide +kernel))) (goodIn_sub (fun _ h => List.mem_cons_of_mem _ (List.mem_append_left _ (List.mem_append_left _ (List.mem_append_right _ h)))) (by decide +kernel))
set_option maxRecDepth 20000 in
theorem gL_sum_L_booked : GoodIn wsL_sum (va_wsS RL 125 yL_booked wsL_booked) := goodIn_app (goodIn_of _ (by decide +kernel)) ggL_sum_L_booked
