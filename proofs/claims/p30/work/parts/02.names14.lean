set_option maxRecDepth 20000 in
theorem ggX6_findImages_X5_comesFrom : GoodIn wsX6_findImages wsX5_comesFrom := goodIn_r _ [11, 12, 13, 14, 15, 16, 6, 17, 36, 37, 38, 39] (by decide +kernel) (by decide +kernel)
set_option maxRecDepth 20000 in
theorem gX6_findImages_X5_comesFrom : GoodIn wsX6_findImages (wsV RX6 48 RX5 yX5_comesFrom wsX5_comesFrom) := goodIn_app (goodIn_of _ (by decide +kernel)) ggX6_findImages_X5_comesFrom
set_option maxRecDepth 20000 in
theorem ggX6_findImages_X6_insert : GoodIn wsX6_findImages wsX6_insert := goodIn_r _ [22, 1, 23, 24, 25, 26, 6, 27, 28, 14, 15, 16, 17, 12, 29, 30, 31, 32, 33, 34, 35, 36, 37, 38, 39] (by decide +kernel) (by decide +kernel)
set_option maxRecDepth 20000 in
theorem gX6_findImages_X6_insert : GoodIn wsX6_findImages (wsV RX6 52 RX6 yX6_insert wsX6_insert) := goodIn_app (goodIn_of _ (by decide +kernel)) ggX6_findImages_X6_insert
theorem dX6_findImages_0 : decode cX6_findImages 0 = .ok (.aload_n 0, 1) := by decide +kernel
theorem dX6_findImages_1 : decode cX6_findImages 1 = .ok (.iconst 0, 1) := by decide +kernel
theorem dX6_findImages_2 : decode cX6_findImages 2 = .ok (.putfield 15, 3) := by decide +kernel
theorem dX6_findImages_5 : decode cX6_findImages 5 = .ok (.bipush (-10), 2) := by decide +kernel
theorem dX6_findImages_7 : decode cX6_findImages 7 = .ok (.istore_n 2, 1) := by decide +kernel
theorem dX6_findImages_8 : decode cX6_findImages 8 = .ok (.iload_n 2, 1) := by decide +kernel
theorem dX6_findImages_9 : decode cX6_findImages 9 = .ok (.bipush 10, 2) := by decide +kernel
theorem dX6_findImages_11 : decode cX6_findImages 11 = .ok (.if_icmp .gt 55, 3) := by decide +kernel
theorem dX6_findImages_14 : decode cX6_findImages 14 = .ok (.bipush (-10), 2) := by decide +kernel
theorem dX6_findImages_16 : decode cX6_findImages 16 = .ok (.istore_n 3, 1) := by decide +kernel
theorem dX6_findImages_17 : decode cX6_findImages 17 = .ok (.iload_n 3, 1) := by decide +kernel
theorem dX6_findImages_18 : decode cX6_findImages 18 = .ok (.bipush 10, 2) := by decide +kernel
theorem dX6_findImages_20 : decode cX6_findImages 20 = .ok (.if_icmp .gt 40, 3) := by decide +kernel
theorem dX6_findImages_23 : decode cX6_findImages 23 = .ok (.iload_n 3, 1) := by decide +kernel
theorem dX6_findImages_24 : decode cX6_findImages 24 = .ok (.iload_n 2, 1) := by decide +kernel
theorem dX6_findImages_25 : decode cX6_findImages 25 = .ok (.invokestatic 42, 3) := by decide +kernel
theorem dX6_findImages_28 : decode cX6_findImages 28 = .ok (.istore 4, 2) := by decide +kernel
theorem dX6_findImages_30 : decode cX6_findImages 30 = .ok (.aload_n 1, 1) := by decide +kernel
theorem dX6_findImages_31 : decode cX6_findImages 31 = .ok (.iload 4, 2) := by decide +kernel
theorem dX6_findImages_33 : decode cX6_findImages 33 = .ok (.aload_n 0, 1) := by decide +kernel
theorem dX6_findImages_34 : decode cX6_findImages 34 = .ok (.getfield 29, 3) := by decide +kernel
theorem dX6_findImages_37 : decode cX6_findImages 37 = .ok (.aload_n 0, 1) := by decide +kernel
theorem dX6_findImages_38 : decode cX6_findImages 38 = .ok (.getfield 32, 3) := by decide +kernel
theorem dX6_findImages_41 : decode cX6_findImages 41 = .ok (.invokevirtual 48, 3) := by decide +kernel
theorem dX6_findImages_44 : decode cX6_findImages 44 = .ok (.ifCond .eq 10, 3) := by decide +kernel
theorem dX6_findImages_47 : decode cX6_findImages 47 = .ok (.aload_n 0, 1) := by decide +kernel
theorem dX6_findImages_48 : decode cX6_findImages 48 = .ok (.iload 4, 2) := by decide +kernel
theorem dX6_findImages_50 : decode cX6_findImages 50 = .ok (.aload_n 1, 1) := by decide +kernel
theorem dX6_findImages_51 : decode cX6_findImages 51 = .ok (.invokevirtual 52, 3) := by decide +kernel
theorem dX6_findImages_54 : decode cX6_findImages 54 = .ok (.iinc 3 1, 3) := by decide +kernel
theorem dX6_findImages_57 : decode cX6_findImages 57 = .ok (.goto (-40), 3) := by decide +kernel
theorem dX6_findImages_60 : decode cX6_findImages 60 = .ok (.iinc 2 1, 3) := by decide +kernel
theorem dX6_findImages_63 : decode cX6_findImages 63 = .ok (.goto (-55), 3) := by decide +kernel
theorem dX6_findImages_66 : decode cX6_findImages 66 = .ok (.return_, 1) := by decide +kernel
set_option maxRecDepth 20000 in
theorem ggX6_insert_X5_wayAt : GoodIn wsX6_insert wsX5_wayAt := goodIn_r _ [7, 8, 9, 10, 11, 6, 12, 13, 21, 22, 23, 24] (by decide +kernel) (by decide +kernel)
set_option maxRecDepth 20000 in
theorem gX6_insert_X5_wayAt : GoodIn wsX6_insert (wsV RX6 56 RX5 yX5_wayAt wsX5_wayAt) := goodIn_app (goodIn_of _ (by decide +kernel)) ggX6_insert_X5_wayAt
theorem dX6_insert_0 : decode cX6_insert 0 = .ok (.aload_n 0, 1) := by decide +kernel
theorem dX6_insert_1 : decode cX6_insert 1 = .ok (.getfield 15, 3) := by decide +kernel
theorem dX6_insert_4 : decode cX6_insert 4 = .ok (.aload_n 0, 1) := by decide +kernel
theorem dX6_insert_5 : decode cX6_insert 5 = .ok (.getfield 9, 3) := by decide +kernel
theorem dX6_insert_8 : decode cX6_insert 8 = .ok (.arraylength, 1) := by decide +kernel
theorem dX6_insert_9 : decode cX6_insert 9 = .ok (.if_icmp .lt 4, 3) := by decide +kernel
theorem dX6_insert_12 : decode cX6_insert 12 = .ok (.return_, 1) := by decide +kernel
theorem dX6_insert_13 : decode cX6_insert 13 = .ok (.aload_n 0, 1) := by decide +kernel
theorem dX6_insert_14 : decode cX6_insert 14 = .ok (.getfield 15, 3) := by decide +kernel
theorem dX6_insert_17 : decode cX6_insert 17 = .ok (.istore_n 3, 1) := by decide +kernel
theorem dX6_insert_18 : decode cX6_insert 18 = .ok (.iload_n 3, 1) := by decide +kernel
theorem dX6_insert_19 : decode cX6_insert 19 = .ok (.ifCond .le 43, 3) := by decide +kernel
theorem dX6_insert_22 : decode cX6_insert 22 = .ok (.aload_n 2, 1) := by decide +kernel
theorem dX6_insert_23 : decode cX6_insert 23 = .ok (.aload_n 0, 1) := by decide +kernel
theorem dX6_insert_24 : decode cX6_insert 24 = .ok (.getfield 9, 3) := by decide +kernel
theorem dX6_insert_27 : decode cX6_insert 27 = .ok (.iload_n 3, 1) := by decide +kernel
theorem dX6_insert_28 : decode cX6_insert 28 = .ok (.iconst 1, 1) := by decide +kernel
theorem dX6_insert_29 : decode cX6_insert 29 = .ok (.isub, 1) := by decide +kernel
theorem dX6_insert_30 : decode cX6_insert 30 = .ok (.iaload, 1) := by decide +kernel
theorem dX6_insert_31 : decode cX6_insert 31 = .ok (.invokevirtual 56, 3) := by decide +kernel
theorem dX6_insert_34 : decode cX6_insert 34 = .ok (.aload_n 2, 1) := by decide +kernel
theorem dX6_insert_35 : decode cX6_insert 35 = .ok (.iload_n 1, 1) := by decide +kernel
theorem dX6_insert_36 : decode cX6_insert 36 = .ok (.invokevirtual 56, 3) := by decide +kernel
theorem dX6_insert_39 : decode cX6_insert 39 = .ok (.if_icmp .le 23, 3) := by decide +kernel
theorem dX6_insert_42 : decode cX6_insert 42 = .ok (.aload_n 0, 1) := by decide +kernel
theorem dX6_insert_43 : decode cX6_insert 43 = .ok (.getfield 9, 3) := by decide +kernel
theorem dX6_insert_46 : decode cX6_insert 46 = .ok (.iload_n 3, 1) := by decide +kernel
theorem dX6_insert_47 : decode cX6_insert 47 = .ok (.aload_n 0, 1) := by decide +kernel
theorem dX6_insert_48 : decode cX6_insert 48 = .ok (.getfield 9, 3) := by decide +kernel
theorem dX6_insert_51 : decode cX6_insert 51 = .ok (.iload_n 3, 1) := by decide +kernel
theorem dX6_insert_52 : decode cX6_insert 52 = .ok (.iconst 1, 1) := by decide +kernel
theorem dX6_insert_53 : decode cX6_insert 53 = .ok (.isub, 1) := by decide +kernel
theorem dX6_insert_54 : decode cX6_insert 54 = .ok (.iaload, 1) := by decide +kernel
theorem dX6_insert_55 : decode cX6_insert 55 = .ok (.iastore, 1) := by decide +kernel
theorem dX6_insert_56 : decode cX6_insert 56 = .ok (.iinc 3 (-1), 3) := by decide +kernel
theorem dX6_insert_59 : decode cX6_insert 59 = .ok (.goto (-41), 3) := by decide +kernel
theorem dX6_insert_62 : decode cX6_insert 62 = .ok (.aload_n 0, 1) := by decide +kernel
theorem dX6_insert_63 : decode cX6_insert 63 = .ok (.getfield 9, 3) := by decide +kernel
theorem dX6_insert_66 : decode cX6_insert 66 = .ok (.iload_n 3, 1) := by decide +kernel
theorem dX6_insert_67 : decode cX6_insert 67 = .ok (.iload_n 1, 1) := by decide +kernel
theorem dX6_insert_68 : decode cX6_insert 68 = .ok (.iastore, 1) := by decide +kernel
theorem dX6_insert_69 : decode cX6_insert 69 = .ok (.aload_n 0, 1) := by decide +kernel
theorem dX6_insert_70 : decode cX6_insert 70 = .ok (.dup, 1) := by decide +kernel
theorem dX6_insert_71 : decode cX6_insert 71 = .ok (.getfield 15, 3) := by decide +kernel
theorem dX6_insert_74 : decode cX6_insert 74 = .ok (.iconst 1, 1) := by decide +kernel
theorem dX6_insert_75 : decode cX6_insert 75 = .ok (.iadd, 1) := by decide +kernel
theorem dX6_insert_76 : decode cX6_insert 76 = .ok (.putfield 15, 3) := by decide +kernel
theorem dX6_insert_79 : decode cX6_insert 79 = .ok (.return_, 1) := by decide +kernel
set_option maxRecDepth 20000 in
theorem ggX6_addFlare_Jx4a65c_add_9ea2d : GoodIn wsX6_addFlare wsJx4a65c_add_9ea2d := goodIn_r _ [6, 7, 8, 9, 10, 11, 12, 13, 5, 14, 15, 16, 17, 18, 19, 20, 21, 22, 23, 24, 25, 26, 27, 28, 29, 30, 31, 32, 33, 34, 35, 36, 37, 38, 39, 40, 41, 42, 43, 44, 45, 46, 47, 48, 49, 50, 51, 52, 53, 54, 55, 56, 57, 65, 66, 67] (by decide +kernel) (by decide +kernel)
set_option maxRecDepth 20000 in
theorem gX6_addFlare_Jx4a65c_add_9ea2d : GoodIn wsX6_addFlare (wsV RX6 60 RJx4a65c yJx4a65c_add_9ea2d wsJx4a65c_add_9ea2d) := goodIn_app (goodIn_of _ (by decide +kernel)) ggX6_addFlare_Jx4a65c_add_9ea2d
theorem dX6_addFlare_0 : decode cX6_addFlare 0 = .ok (.aload_n 0, 1) := by decide +kernel
theorem dX6_addFlare_1 : decode cX6_addFlare 1 = .ok (.getfield 22, 3) := by decide +kernel
theorem dX6_addFlare_4 : decode cX6_addFlare 4 = .ok (.aload_n 1, 1) := by decide +kernel
theorem dX6_addFlare_5 : decode cX6_addFlare 5 = .ok (.invokevirtual 60, 3) := by decide +kernel
theorem dX6_addFlare_8 : decode cX6_addFlare 8 = .ok (.pop, 1) := by decide +kernel
theorem dX6_addFlare_9 : decode cX6_addFlare 9 = .ok (.return_, 1) := by decide +kernel
set_option maxRecDepth 20000 in
theorem ggX6_lightOn_Jx4a65c_size_8abf5 : GoodIn wsX6_lightOn wsJx4a65c_size_8abf5 := goodIn_r _ [12, 13, 40, 41, 42] (by decide +kernel) (by decide +kernel)
set_option maxRecDepth 20000 in
theorem gX6_lightOn_Jx4a65c_size_8abf5 : GoodIn wsX6_lightOn (wsV RX6 64 RJx4a65c yJx4a65c_size_8abf5 wsJx4a65c_size_8abf5) := goodIn_app (goodIn_of _ (by decide +kernel)) ggX6_lightOn_Jx4a65c_size_8abf5
set_option maxRecDepth 20000 in
theorem ggX6_lightOn_Jx4a65c_get_915e3 : GoodIn wsX6_lightOn wsJx4a65c_get_915e3 := goodIn_r _ [17, 13, 18, 19, 20, 21, 22, 23, 24, 25, 26, 27, 28, 11, 29, 30, 40, 41, 42] (by decide +kernel) (by decide +kernel)
set_option maxRecDepth 20000 in
theorem gX6_lightOn_Jx4a65c_get_915e3 : GoodIn wsX6_lightOn (wsV RX6 68 RJx4a65c yJx4a65c_get_915e3 wsJx4a65c_get_915e3) := goodIn_app (goodIn_of _ (by decide +kernel)) ggX6_lightOn_Jx4a65c_get_915e3
theorem dX6_lightOn_0 : decode cX6_lightOn 0 = .ok (.aload_n 0, 1) := by decide +kernel
theorem dX6_lightOn_1 : decode cX6_lightOn 1 = .ok (.getfield 35, 3) := by decide +kernel
theorem dX6_lightOn_4 : decode cX6_lightOn 4 = .ok (.istore_n 2, 1) := by decide +kernel
theorem dX6_lightOn_5 : decode cX6_lightOn 5 = .ok (.iconst 0, 1) := by decide +kernel
theorem dX6_lightOn_6 : decode cX6_lightOn 6 = .ok (.istore_n 3, 1) := by decide +kernel
theorem dX6_lightOn_7 : decode cX6_lightOn 7 = .ok (.iload_n 3, 1) := by decide +kernel
theorem dX6_lightOn_8 : decode cX6_lightOn 8 = .ok (.aload_n 0, 1) := by decide +kernel
theorem dX6_lightOn_9 : decode cX6_lightOn 9 = .ok (.getfield 22, 3) := by decide +kernel
theorem dX6_lightOn_12 : decode cX6_lightOn 12 = .ok (.invokevirtual 64, 3) := by decide +kernel
theorem dX6_lightOn_15 : decode cX6_lightOn 15 = .ok (.if_icmp .ge 44, 3) := by decide +kernel
theorem dX6_lightOn_18 : decode cX6_lightOn 18 = .ok (.aload_n 0, 1) := by decide +kernel
theorem dX6_lightOn_19 : decode cX6_lightOn 19 = .ok (.getfield 22, 3) := by decide +kernel
theorem dX6_lightOn_22 : decode cX6_lightOn 22 = .ok (.iload_n 3, 1) := by decide +kernel
theorem dX6_lightOn_23 : decode cX6_lightOn 23 = .ok (.invokevirtual 68, 3) := by decide +kernel
theorem dX6_lightOn_26 : decode cX6_lightOn 26 = .ok (.checkcast 72, 3) := by decide +kernel
theorem dX6_lightOn_29 : decode cX6_lightOn 29 = .ok (.getfield 74, 3) := by decide +kernel
theorem dX6_lightOn_32 : decode cX6_lightOn 32 = .ok (.iload_n 1, 1) := by decide +kernel
theorem dX6_lightOn_33 : decode cX6_lightOn 33 = .ok (.if_icmp .gt 20, 3) := by decide +kernel
theorem dX6_lightOn_36 : decode cX6_lightOn 36 = .ok (.iload_n 2, 1) := by decide +kernel
theorem dX6_lightOn_37 : decode cX6_lightOn 37 = .ok (.aload_n 0, 1) := by decide +kernel
theorem dX6_lightOn_38 : decode cX6_lightOn 38 = .ok (.getfield 22, 3) := by decide +kernel
theorem dX6_lightOn_41 : decode cX6_lightOn 41 = .ok (.iload_n 3, 1) := by decide +kernel
theorem dX6_lightOn_42 : decode cX6_lightOn 42 = .ok (.invokevirtual 68, 3) := by decide +kernel
theorem dX6_lightOn_45 : decode cX6_lightOn 45 = .ok (.checkcast 72, 3) := by decide +kernel
theorem dX6_lightOn_48 : decode cX6_lightOn 48 = .ok (.getfield 77, 3) := by decide +kernel
theorem dX6_lightOn_51 : decode cX6_lightOn 51 = .ok (.iadd, 1) := by decide +kernel
theorem dX6_lightOn_52 : decode cX6_lightOn 52 = .ok (.istore_n 2, 1) := by decide +kernel
theorem dX6_lightOn_53 : decode cX6_lightOn 53 = .ok (.iinc 3 1, 3) := by decide +kernel
theorem dX6_lightOn_56 : decode cX6_lightOn 56 = .ok (.goto (-49), 3) := by decide +kernel
theorem dX6_lightOn_59 : decode cX6_lightOn 59 = .ok (.iload_n 2, 1) := by decide +kernel
theorem dX6_lightOn_60 : decode cX6_lightOn 60 = .ok (.iconst 0, 1) := by decide +kernel
theorem dX6_lightOn_61 : decode cX6_lightOn 61 = .ok (.invokestatic 80, 3) := by decide +kernel
theorem dX6_lightOn_64 : decode cX6_lightOn 64 = .ok (.ireturn, 1) := by decide +kernel
set_option maxRecDepth 20000 in
theorem ggX6_addStar_Jx4a65c_add_9ea2d : GoodIn wsX6_addStar wsJx4a65c_add_9ea2d := goodIn_r _ [6, 7, 8, 9, 10, 11, 12, 13, 5, 14, 15, 16, 17, 18, 19, 20, 21, 22, 23, 24, 25, 26, 27, 28, 29, 30, 31, 32, 33, 34, 35, 36, 37, 38, 39, 40, 41, 42, 43, 44, 45, 46, 47, 48, 49, 50, 51, 52, 53, 54, 55, 56, 57, 65, 66, 67] (by decide +kernel) (by decide +kernel)
set_option maxRecDepth 20000 in
theorem gX6_addStar_Jx4a65c_add_9ea2d : GoodIn wsX6_addStar (wsV RX6 60 RJx4a65c yJx4a65c_add_9ea2d wsJx4a65c_add_9ea2d) := goodIn_app (goodIn_of _ (by decide +kernel)) ggX6_addStar_Jx4a65c_add_9ea2d
theorem dX6_addStar_0 : decode cX6_addStar 0 = .ok (.aload_n 0, 1) := by decide +kernel
theorem dX6_addStar_1 : decode cX6_addStar 1 = .ok (.getfield 26, 3) := by decide +kernel
theorem dX6_addStar_4 : decode cX6_addStar 4 = .ok (.aload_n 1, 1) := by decide +kernel
theorem dX6_addStar_5 : decode cX6_addStar 5 = .ok (.invokevirtual 60, 3) := by decide +kernel
theorem dX6_addStar_8 : decode cX6_addStar 8 = .ok (.pop, 1) := by decide +kernel
theorem dX6_addStar_9 : decode cX6_addStar 9 = .ok (.return_, 1) := by decide +kernel
set_option maxRecDepth 20000 in
theorem ggX6_clearStars_Jx4a65c_clear_da8c8 : GoodIn wsX6_clearStars wsJx4a65c_clear_da8c8 := goodIn_r _ [6, 7, 8, 9, 10, 18, 19, 20] (by decide +kernel) (by decide +kernel)
set_option maxRecDepth 20000 in
theorem gX6_clearStars_Jx4a65c_clear_da8c8 : GoodIn wsX6_clearStars (wsV RX6 85 RJx4a65c yJx4a65c_clear_da8c8 wsJx4a65c_clear_da8c8) := goodIn_app (goodIn_of _ (by decide +kernel)) ggX6_clearStars_Jx4a65c_clear_da8c8
theorem dX6_clearStars_0 : decode cX6_clearStars 0 = .ok (.aload_n 0, 1) := by decide +kernel
theorem dX6_clearStars_1 : decode cX6_clearStars 1 = .ok (.getfield 26, 3) := by decide +kernel
theorem dX6_clearStars_4 : decode cX6_clearStars 4 = .ok (.invokevirtual 85, 3) := by decide +kernel
theorem dX6_clearStars_7 : decode cX6_clearStars 7 = .ok (.return_, 1) := by decide +kernel
set_option maxRecDepth 20000 in
theorem ggX6_starsOn_Jx4a65c_size_8abf5 : GoodIn wsX6_starsOn wsJx4a65c_size_8abf5 := goodIn_r _ [7, 8, 49, 50, 51] (by decide +kernel) (by decide +kernel)
set_option maxRecDepth 20000 in
theorem gX6_starsOn_Jx4a65c_size_8abf5 : GoodIn wsX6_starsOn (wsV RX6 64 RJx4a65c yJx4a65c_size_8abf5 wsJx4a65c_size_8abf5) := goodIn_app (goodIn_of _ (by decide +kernel)) ggX6_starsOn_Jx4a65c_size_8abf5
set_option maxRecDepth 20000 in
theorem ggX6_starsOn_Jx4a65c_get_915e3 : GoodIn wsX6_starsOn wsJx4a65c_get_915e3 := goodIn_r _ [12, 8, 13, 14, 15, 16, 17, 18, 19, 20, 21, 22, 23, 6, 24, 25, 49, 50, 51] (by decide +kernel) (by decide +kernel)
set_option maxRecDepth 20000 in
theorem gX6_starsOn_Jx4a65c_get_915e3 : GoodIn wsX6_starsOn (wsV RX6 68 RJx4a65c yJx4a65c_get_915e3 wsJx4a65c_get_915e3) := goodIn_app (goodIn_of _ (by decide +kernel)) ggX6_starsOn_Jx4a65c_get_915e3
set_option maxRecDepth 20000 in
theorem ggX6_starsOn_X7_moreOn : GoodIn wsX6_starsOn wsX7_moreOn := goodIn_r _ [30, 31, 32, 33, 34, 35, 36, 37, 45, 46, 47, 48] (by decide +kernel) (by decide +kernel)
set_option maxRecDepth 20000 in
theorem gX6_starsOn_X7_moreOn : GoodIn wsX6_starsOn (wsV RX6 93 RX7 yX7_moreOn wsX7_moreOn) := goodIn_app (goodIn_of _ (by decide +kernel)) ggX6_starsOn_X7_moreOn
theorem dX6_starsOn_0 : decode cX6_starsOn 0 = .ok (.iconst 0, 1) := by decide +kernel
theorem dX6_starsOn_1 : decode cX6_starsOn 1 = .ok (.istore_n 3, 1) := by decide +kernel
theorem dX6_starsOn_2 : decode cX6_starsOn 2 = .ok (.iconst 0, 1) := by decide +kernel
theorem dX6_starsOn_3 : decode cX6_starsOn 3 = .ok (.istore 4, 2) := by decide +kernel
theorem dX6_starsOn_5 : decode cX6_starsOn 5 = .ok (.iload 4, 2) := by decide +kernel
theorem dX6_starsOn_7 : decode cX6_starsOn 7 = .ok (.aload_n 0, 1) := by decide +kernel
theorem dX6_starsOn_8 : decode cX6_starsOn 8 = .ok (.getfield 26, 3) := by decide +kernel
theorem dX6_starsOn_11 : decode cX6_starsOn 11 = .ok (.invokevirtual 64, 3) := by decide +kernel
theorem dX6_starsOn_14 : decode cX6_starsOn 14 = .ok (.if_icmp .ge 47, 3) := by decide +kernel
theorem dX6_starsOn_17 : decode cX6_starsOn 17 = .ok (.aload_n 0, 1) := by decide +kernel
theorem dX6_starsOn_18 : decode cX6_starsOn 18 = .ok (.getfield 26, 3) := by decide +kernel
theorem dX6_starsOn_21 : decode cX6_starsOn 21 = .ok (.iload 4, 2) := by decide +kernel
theorem dX6_starsOn_23 : decode cX6_starsOn 23 = .ok (.invokevirtual 68, 3) := by decide +kernel
theorem dX6_starsOn_26 : decode cX6_starsOn 26 = .ok (.checkcast 88, 3) := by decide +kernel
theorem dX6_starsOn_29 : decode cX6_starsOn 29 = .ok (.getfield 90, 3) := by decide +kernel
theorem dX6_starsOn_32 : decode cX6_starsOn 32 = .ok (.iload_n 1, 1) := by decide +kernel
theorem dX6_starsOn_33 : decode cX6_starsOn 33 = .ok (.if_icmp .ne 22, 3) := by decide +kernel
theorem dX6_starsOn_36 : decode cX6_starsOn 36 = .ok (.iload_n 3, 1) := by decide +kernel
theorem dX6_starsOn_37 : decode cX6_starsOn 37 = .ok (.aload_n 0, 1) := by decide +kernel
theorem dX6_starsOn_38 : decode cX6_starsOn 38 = .ok (.getfield 26, 3) := by decide +kernel
theorem dX6_starsOn_41 : decode cX6_starsOn 41 = .ok (.iload 4, 2) := by decide +kernel
theorem dX6_starsOn_43 : decode cX6_starsOn 43 = .ok (.invokevirtual 68, 3) := by decide +kernel
theorem dX6_starsOn_46 : decode cX6_starsOn 46 = .ok (.checkcast 88, 3) := by decide +kernel
theorem dX6_starsOn_49 : decode cX6_starsOn 49 = .ok (.iload_n 2, 1) := by decide +kernel
theorem dX6_starsOn_50 : decode cX6_starsOn 50 = .ok (.invokevirtual 93, 3) := by decide +kernel
theorem dX6_starsOn_53 : decode cX6_starsOn 53 = .ok (.iadd, 1) := by decide +kernel
theorem dX6_starsOn_54 : decode cX6_starsOn 54 = .ok (.istore_n 3, 1) := by decide +kernel
theorem dX6_starsOn_55 : decode cX6_starsOn 55 = .ok (.iinc 4 1, 3) := by decide +kernel
theorem dX6_starsOn_58 : decode cX6_starsOn 58 = .ok (.goto (-53), 3) := by decide +kernel
theorem dX6_starsOn_61 : decode cX6_starsOn 61 = .ok (.iload_n 3, 1) := by decide +kernel
theorem dX6_starsOn_62 : decode cX6_starsOn 62 = .ok (.ireturn, 1) := by decide +kernel
theorem dX7_init_0 : decode cX7_init 0 = .ok (.aload_n 0, 1) := by decide +kernel
theorem dX7_init_1 : decode cX7_init 1 = .ok (.invokespecial 1, 3) := by decide +kernel
theorem dX7_init_4 : decode cX7_init 4 = .ok (.aload_n 0, 1) := by decide +kernel
theorem dX7_init_5 : decode cX7_init 5 = .ok (.iload_n 1, 1) := by decide +kernel
theorem dX7_init_6 : decode cX7_init 6 = .ok (.putfield 7, 3) := by decide +kernel
theorem dX7_init_9 : decode cX7_init 9 = .ok (.aload_n 0, 1) := by decide +kernel
theorem dX7_init_10 : decode cX7_init 10 = .ok (.iload_n 2, 1) := by decide +kernel
theorem dX7_init_11 : decode cX7_init 11 = .ok (.putfield 13, 3) := by decide +kernel
theorem dX7_init_14 : decode cX7_init 14 = .ok (.aload_n 0, 1) := by decide +kernel
theorem dX7_init_15 : decode cX7_init 15 = .ok (.iload_n 3, 1) := by decide +kernel
theorem dX7_init_16 : decode cX7_init 16 = .ok (.putfield 16, 3) := by decide +kernel
theorem dX7_init_19 : decode cX7_init 19 = .ok (.aload_n 0, 1) := by decide +kernel
theorem dX7_init_20 : decode cX7_init 20 = .ok (.iload 4, 2) := by decide +kernel
theorem dX7_init_22 : decode cX7_init 22 = .ok (.putfield 19, 3) := by decide +kernel
theorem dX7_init_25 : decode cX7_init 25 = .ok (.return_, 1) := by decide +kernel
theorem dX7_moreOn_0 : decode cX7_moreOn 0 = .ok (.aload_n 0, 1) := by decide +kernel
theorem dX7_moreOn_1 : decode cX7_moreOn 1 = .ok (.getfield 16, 3) := by decide +kernel
theorem dX7_moreOn_4 : decode cX7_moreOn 4 = .ok (.iload_n 1, 1) := by decide +kernel
theorem dX7_moreOn_5 : decode cX7_moreOn 5 = .ok (.aload_n 0, 1) := by decide +kernel
theorem dX7_moreOn_6 : decode cX7_moreOn 6 = .ok (.getfield 13, 3) := by decide +kernel
theorem dX7_moreOn_9 : decode cX7_moreOn 9 = .ok (.aload_n 0, 1) := by decide +kernel
theorem dX7_moreOn_10 : decode cX7_moreOn 10 = .ok (.getfield 16, 3) := by decide +kernel
theorem dX7_moreOn_13 : decode cX7_moreOn 13 = .ok (.iadd, 1) := by decide +kernel
theorem dX7_moreOn_14 : decode cX7_moreOn 14 = .ok (.isub, 1) := by decide +kernel
theorem dX7_moreOn_15 : decode cX7_moreOn 15 = .ok (.invokestatic 22, 3) := by decide +kernel
theorem dX7_moreOn_18 : decode cX7_moreOn 18 = .ok (.isub, 1) := by decide +kernel
theorem dX7_moreOn_19 : decode cX7_moreOn 19 = .ok (.istore_n 2, 1) := by decide +kernel
theorem dX7_moreOn_20 : decode cX7_moreOn 20 = .ok (.aload_n 0, 1) := by decide +kernel
theorem dX7_moreOn_21 : decode cX7_moreOn 21 = .ok (.getfield 16, 3) := by decide +kernel
theorem dX7_moreOn_24 : decode cX7_moreOn 24 = .ok (.iconst 1, 1) := by decide +kernel
theorem dX7_moreOn_25 : decode cX7_moreOn 25 = .ok (.if_icmp .lt 7, 3) := by decide +kernel
theorem dX7_moreOn_28 : decode cX7_moreOn 28 = .ok (.iload_n 2, 1) := by decide +kernel
theorem dX7_moreOn_29 : decode cX7_moreOn 29 = .ok (.ifCond .gt 7, 3) := by decide +kernel
theorem dX7_moreOn_32 : decode cX7_moreOn 32 = .ok (.iconst 0, 1) := by decide +kernel
theorem dX7_moreOn_33 : decode cX7_moreOn 33 = .ok (.goto 14, 3) := by decide +kernel
theorem dX7_moreOn_36 : decode cX7_moreOn 36 = .ok (.aload_n 0, 1) := by decide +kernel
theorem dX7_moreOn_37 : decode cX7_moreOn 37 = .ok (.getfield 19, 3) := by decide +kernel
theorem dX7_moreOn_40 : decode cX7_moreOn 40 = .ok (.iload_n 2, 1) := by decide +kernel
theorem dX7_moreOn_41 : decode cX7_moreOn 41 = .ok (.imul, 1) := by decide +kernel
theorem dX7_moreOn_42 : decode cX7_moreOn 42 = .ok (.aload_n 0, 1) := by decide +kernel
theorem dX7_moreOn_43 : decode cX7_moreOn 43 = .ok (.getfield 16, 3) := by decide +kernel
theorem dX7_moreOn_46 : decode cX7_moreOn 46 = .ok (.idiv, 1) := by decide +kernel
theorem dX7_moreOn_47 : decode cX7_moreOn 47 = .ok (.ireturn, 1) := by decide +kernel
set_option maxRecDepth 20000 in
theorem ggX8_init_X5_init : GoodIn wsX8_init wsX5_init := goodIn_r _ [29, 30, 2, 3, 31, 9, 10, 32, 33, 34, 35, 36, 37, 38, 39, 40, 41, 42, 43, 44, 45, 46, 47, 48, 49, 50, 51, 52, 53, 54, 6, 55, 56, 57, 58, 59, 60, 61, 62, 63, 64, 65, 66, 67, 68, 69, 70, 71, 72, 73, 74, 75, 76, 77, 78, 79, 80, 81, 82, 83, 84, 85, 86, 87, 88, 89, 90, 91, 92, 93, 94, 95, 96, 97, 98, 99, 100, 101, 102, 103, 104, 105, 106, 107, 108, 109, 110, 111, 112, 113, 114, 115, 116, 117, 118, 119, 120, 121, 122, 123, 124, 164, 165, 166, 149, 150, 151, 152, 175, 176, 177, 178] (by decide +kernel) (by decide +kernel)
set_option maxRecDepth 20000 in
theorem gX8_init_X5_init : GoodIn wsX8_init (wsX5_init) := ggX8_init_X5_init
set_option maxRecDepth 20000 in
theorem ggX8_init_Jx4a65c_init_da8c8 : GoodIn wsX8_init wsJx4a65c_init_da8c8 := goodIn_r _ [39, 40, 41, 42, 43, 44, 45, 46, 47, 48, 49, 50, 51, 2, 3, 164, 165, 166] (by decide +kernel) (by decide +kernel)
set_option maxRecDepth 20000 in
theorem gX8_init_Jx4a65c_init_da8c8 : GoodIn wsX8_init (wsJx4a65c_init_da8c8) := ggX8_init_Jx4a65c_init_da8c8
set_option maxRecDepth 20000 in
theorem ggX8_init_X0_init : GoodIn wsX8_init wsX0_init := goodIn_r _ [127, 128, 2, 3, 129, 9, 10, 130, 131, 132, 33, 133, 134, 38, 39, 40, 41, 42, 43, 44, 45, 46, 47, 48, 49, 50, 51, 164, 165, 166, 167, 168, 169] (by decide +kernel) (by decide +kernel)
set_option maxRecDepth 20000 in
theorem gX8_init_X0_init_n32 : GoodIn wsX8_init (wsX0_init) := ggX8_init_X0_init
set_option maxRecDepth 20000 in
theorem ggX8_init_X1_init : GoodIn wsX8_init wsX1_init := goodIn_r _ [137, 138, 2, 3, 33, 139, 140, 141, 142, 143, 144, 145, 146, 147, 148, 170, 171, 172, 173, 174] (by decide +kernel) (by decide +kernel)
set_option maxRecDepth 20000 in
theorem gX8_init_X1_init : GoodIn wsX8_init (wsX1_init) := ggX8_init_X1_init
theorem dX8_init_0 : decode cX8_init 0 = .ok (.aload_n 0, 1) := by decide +kernel
theorem dX8_init_1 : decode cX8_init 1 = .ok (.invokespecial 3, 3) := by decide +kernel
theorem dX8_init_4 : decode cX8_init 4 = .ok (.aload_n 0, 1) := by decide +kernel
theorem dX8_init_5 : decode cX8_init 5 = .ok (.new 9, 3) := by decide +kernel
theorem dX8_init_8 : decode cX8_init 8 = .ok (.dup, 1) := by decide +kernel
theorem dX8_init_9 : decode cX8_init 9 = .ok (.invokespecial 11, 3) := by decide +kernel
theorem dX8_init_12 : decode cX8_init 12 = .ok (.putfield 12, 3) := by decide +kernel
theorem dX8_init_15 : decode cX8_init 15 = .ok (.aload_n 0, 1) := by decide +kernel
theorem dX8_init_16 : decode cX8_init 16 = .ok (.new 16, 3) := by decide +kernel
theorem dX8_init_19 : decode cX8_init 19 = .ok (.dup, 1) := by decide +kernel
theorem dX8_init_20 : decode cX8_init 20 = .ok (.invokespecial 18, 3) := by decide +kernel
theorem dX8_init_23 : decode cX8_init 23 = .ok (.putfield 19, 3) := by decide +kernel
theorem dX8_init_26 : decode cX8_init 26 = .ok (.aload_n 0, 1) := by decide +kernel
theorem dX8_init_27 : decode cX8_init 27 = .ok (.iconst 0, 1) := by decide +kernel
theorem dX8_init_28 : decode cX8_init 28 = .ok (.putfield 23, 3) := by decide +kernel
theorem dX8_init_31 : decode cX8_init 31 = .ok (.aload_n 0, 1) := by decide +kernel
theorem dX8_init_32 : decode cX8_init 32 = .ok (.iconst 0, 1) := by decide +kernel
theorem dX8_init_33 : decode cX8_init 33 = .ok (.putfield 27, 3) := by decide +kernel
theorem dX8_init_36 : decode cX8_init 36 = .ok (.aload_n 0, 1) := by decide +kernel
theorem dX8_init_37 : decode cX8_init 37 = .ok (.new 30, 3) := by decide +kernel
theorem dX8_init_40 : decode cX8_init 40 = .ok (.dup, 1) := by decide +kernel
theorem dX8_init_41 : decode cX8_init 41 = .ok (.invokespecial 32, 3) := by decide +kernel
theorem dX8_init_44 : decode cX8_init 44 = .ok (.putfield 33, 3) := by decide +kernel
theorem dX8_init_47 : decode cX8_init 47 = .ok (.aload_n 0, 1) := by decide +kernel
theorem dX8_init_48 : decode cX8_init 48 = .ok (.new 37, 3) := by decide +kernel
theorem dX8_init_51 : decode cX8_init 51 = .ok (.dup, 1) := by decide +kernel
theorem dX8_init_52 : decode cX8_init 52 = .ok (.invokespecial 39, 3) := by decide +kernel
theorem dX8_init_55 : decode cX8_init 55 = .ok (.putfield 40, 3) := by decide +kernel
theorem dX8_init_58 : decode cX8_init 58 = .ok (.aload_n 0, 1) := by decide +kernel
theorem dX8_init_59 : decode cX8_init 59 = .ok (.iconst 0, 1) := by decide +kernel
theorem dX8_init_60 : decode cX8_init 60 = .ok (.putfield 44, 3) := by decide +kernel
theorem dX8_init_63 : decode cX8_init 63 = .ok (.aload_n 0, 1) := by decide +kernel
theorem dX8_init_64 : decode cX8_init 64 = .ok (.iconst 0, 1) := by decide +kernel
theorem dX8_init_65 : decode cX8_init 65 = .ok (.putfield 47, 3) := by decide +kernel
theorem dX8_init_68 : decode cX8_init 68 = .ok (.aload_n 0, 1) := by decide +kernel
theorem dX8_init_69 : decode cX8_init 69 = .ok (.bipush 99, 2) := by decide +kernel
theorem dX8_init_71 : decode cX8_init 71 = .ok (.putfield 50, 3) := by decide +kernel
theorem dX8_init_74 : decode cX8_init 74 = .ok (.aload_n 0, 1) := by decide +kernel
theorem dX8_init_75 : decode cX8_init 75 = .ok (.iconst 0, 1) := by decide +kernel
theorem dX8_init_76 : decode cX8_init 76 = .ok (.putfield 53, 3) := by decide +kernel
theorem dX8_init_79 : decode cX8_init 79 = .ok (.aload_n 0, 1) := by decide +kernel
theorem dX8_init_80 : decode cX8_init 80 = .ok (.bipush 70, 2) := by decide +kernel
theorem dX8_init_82 : decode cX8_init 82 = .ok (.putfield 56, 3) := by decide +kernel
theorem dX8_init_85 : decode cX8_init 85 = .ok (.return_, 1) := by decide +kernel
set_option maxRecDepth 20000 in
theorem ggX8_mass_X8_isWithin : GoodIn wsX8_mass wsX8_isWithin := goodIn_r _ [12] (by decide +kernel) (by decide +kernel)
set_option maxRecDepth 20000 in
theorem gX8_mass_X8_isWithin : GoodIn wsX8_mass (va_wsS RX8 59 yX8_isWithin wsX8_isWithin) := goodIn_app (goodIn_of _ (by decide +kernel)) ggX8_mass_X8_isWithin
set_option maxRecDepth 20000 in
theorem ggX8_mass_X8_isInField : GoodIn wsX8_mass wsX8_isInField := goodIn_r _ [15, 9, 10, 11, 12] (by decide +kernel) (by decide +kernel)
set_option maxRecDepth 20000 in
theorem gX8_mass_X8_isInField : GoodIn wsX8_mass (va_wsS RX8 63 yX8_isInField wsX8_isInField) := goodIn_app (goodIn_of _ (by decide +kernel)) ggX8_mass_X8_isInField
set_option maxRecDepth 20000 in
theorem ggX8_mass_X5_isFull : GoodIn wsX8_mass wsX5_isFull := goodIn_r _ [20, 21, 22, 23, 24, 25, 26, 27, 230, 231, 232, 233, 234, 235, 236] (by decide +kernel) (by decide +kernel)
set_option maxRecDepth 20000 in
theorem gX8_mass_X5_isFull : GoodIn wsX8_mass (wsV RX8 74 RX5 yX5_isFull wsX5_isFull) := goodIn_app (goodIn_of _ (by decide +kernel)) ggX8_mass_X5_isFull
set_option maxRecDepth 20000 in
theorem ggX8_mass_X4_init : GoodIn wsX8_mass wsX4_init := goodIn_r _ [30, 31, 32, 33, 34, 35, 36, 37, 226, 227, 228, 229] (by decide +kernel) (by decide +kernel)
set_option maxRecDepth 20000 in
theorem gX8_mass_X4_init : GoodIn wsX8_mass (wsX4_init) := ggX8_mass_X4_init
set_option maxRecDepth 20000 in
theorem ggX8_mass_X5_add : GoodIn wsX8_mass wsX5_add := goodIn_r _ [41, 21, 42, 43, 44, 25, 45, 46, 47, 48, 27, 49, 50, 51, 52, 53, 54, 55, 56, 57, 58, 59, 60, 61, 62, 63, 64, 65, 66, 67, 68, 69, 70, 71, 72, 73, 74, 75, 76, 77, 78, 79, 80, 81, 82, 83, 84, 85, 86, 87, 88, 89, 90, 91, 92, 93, 94, 95, 96, 97, 98, 19, 99, 100, 101, 102, 103, 104, 105, 106, 107, 108, 109, 110, 111, 112, 113, 22, 23, 24, 26, 114, 115, 116, 117, 118, 119, 120, 121, 122, 123, 124, 125, 126, 127, 128, 129, 130, 131, 132, 8, 133, 35, 134, 135, 136, 137, 138, 139, 140, 36, 141, 142, 143, 144, 34, 37, 145, 146, 147, 148, 149, 150, 151, 152, 153, 154, 155, 156, 157, 158, 159, 160, 230, 231, 232, 233, 234, 235, 236, 226, 227, 228, 229] (by decide +kernel) (by decide +kernel)
set_option maxRecDepth 20000 in
theorem gX8_mass_X5_add : GoodIn wsX8_mass (wsV RX8 88 RX5 yX5_add wsX5_add) := goodIn_app (goodIn_of _ (by decide +kernel)) ggX8_mass_X5_add
set_option maxRecDepth 20000 in
theorem ggX8_mass_X8_beginAnew : GoodIn wsX8_mass wsX8_beginAnew := goodIn_r _ [164, 165, 166, 167, 168, 5, 169, 170, 171, 172, 173, 174, 175, 176, 177, 25, 178, 46, 47, 48, 27, 179, 23, 24, 26, 180, 115, 116, 117, 118, 119, 120, 121, 122, 123, 124, 125, 126, 127, 128, 129, 181, 182, 183, 184, 185, 186, 187, 188, 189, 190, 191, 192, 193, 194, 195, 196, 19, 197, 198, 199, 200, 201, 100, 101, 202, 203, 204, 205, 206, 207, 208, 209, 210, 211, 212, 213, 214, 102, 215, 216, 217, 218, 219, 220, 221, 222, 223, 224, 225, 237, 238, 239, 234, 235, 236, 240, 241, 242, 243, 244, 245, 246, 230, 231, 232, 233] (by decide +kernel) (by decide +kernel)
set_option maxRecDepth 20000 in
theorem gX8_mass_X8_beginAnew : GoodIn wsX8_mass (wsV RX8 92 RX8 yX8_beginAnew wsX8_beginAnew) := goodIn_app (goodIn_of _ (by decide +kernel)) ggX8_mass_X8_beginAnew
theorem dX8_mass_0 : decode cX8_mass 0 = .ok (.iload_n 1, 1) := by decide +kernel
theorem dX8_mass_1 : decode cX8_mass 1 = .ok (.iconst 0, 1) := by decide +kernel
theorem dX8_mass_2 : decode cX8_mass 2 = .ok (.iconst 2, 1) := by decide +kernel
theorem dX8_mass_3 : decode cX8_mass 3 = .ok (.invokestatic 59, 3) := by decide +kernel
theorem dX8_mass_6 : decode cX8_mass 6 = .ok (.ifCond .eq 22, 3) := by decide +kernel
theorem dX8_mass_9 : decode cX8_mass 9 = .ok (.iload_n 2, 1) := by decide +kernel
theorem dX8_mass_10 : decode cX8_mass 10 = .ok (.iload_n 3, 1) := by decide +kernel
theorem dX8_mass_11 : decode cX8_mass 11 = .ok (.invokestatic 63, 3) := by decide +kernel
theorem dX8_mass_14 : decode cX8_mass 14 = .ok (.ifCond .eq 14, 3) := by decide +kernel
theorem dX8_mass_17 : decode cX8_mass 17 = .ok (.iload 4, 2) := by decide +kernel
theorem dX8_mass_19 : decode cX8_mass 19 = .ok (.iconst 1, 1) := by decide +kernel
theorem dX8_mass_20 : decode cX8_mass 20 = .ok (.bipush 8, 2) := by decide +kernel
theorem dX8_mass_22 : decode cX8_mass 22 = .ok (.invokestatic 59, 3) := by decide +kernel
theorem dX8_mass_25 : decode cX8_mass 25 = .ok (.ifCond .ne 13, 3) := by decide +kernel
theorem dX8_mass_28 : decode cX8_mass 28 = .ok (.new 67, 3) := by decide +kernel
theorem dX8_mass_31 : decode cX8_mass 31 = .ok (.dup, 1) := by decide +kernel
theorem dX8_mass_32 : decode cX8_mass 32 = .ok (.ldc 69, 2) := by decide +kernel
theorem dX8_mass_34 : decode cX8_mass 34 = .ok (.invokespecial 71, 3) := by decide +kernel
theorem dX8_mass_37 : decode cX8_mass 37 = .ok (.athrow, 1) := by decide +kernel
theorem dX8_mass_38 : decode cX8_mass 38 = .ok (.aload_n 0, 1) := by decide +kernel
theorem dX8_mass_39 : decode cX8_mass 39 = .ok (.getfield 12, 3) := by decide +kernel
theorem dX8_mass_42 : decode cX8_mass 42 = .ok (.invokevirtual 74, 3) := by decide +kernel
theorem dX8_mass_45 : decode cX8_mass 45 = .ok (.ifCond .eq 13, 3) := by decide +kernel
theorem dX8_mass_48 : decode cX8_mass 48 = .ok (.new 78, 3) := by decide +kernel
theorem dX8_mass_51 : decode cX8_mass 51 = .ok (.dup, 1) := by decide +kernel
theorem dX8_mass_52 : decode cX8_mass 52 = .ok (.ldc 80, 2) := by decide +kernel
theorem dX8_mass_54 : decode cX8_mass 54 = .ok (.invokespecial 82, 3) := by decide +kernel
theorem dX8_mass_57 : decode cX8_mass 57 = .ok (.athrow, 1) := by decide +kernel
theorem dX8_mass_58 : decode cX8_mass 58 = .ok (.aload_n 0, 1) := by decide +kernel
theorem dX8_mass_59 : decode cX8_mass 59 = .ok (.getfield 12, 3) := by decide +kernel
theorem dX8_mass_62 : decode cX8_mass 62 = .ok (.new 83, 3) := by decide +kernel
theorem dX8_mass_65 : decode cX8_mass 65 = .ok (.dup, 1) := by decide +kernel
theorem dX8_mass_66 : decode cX8_mass 66 = .ok (.iload_n 1, 1) := by decide +kernel
theorem dX8_mass_67 : decode cX8_mass 67 = .ok (.iload_n 2, 1) := by decide +kernel
theorem dX8_mass_68 : decode cX8_mass 68 = .ok (.iload_n 3, 1) := by decide +kernel
theorem dX8_mass_69 : decode cX8_mass 69 = .ok (.iload 4, 2) := by decide +kernel
theorem dX8_mass_71 : decode cX8_mass 71 = .ok (.invokespecial 85, 3) := by decide +kernel
theorem dX8_mass_74 : decode cX8_mass 74 = .ok (.invokevirtual 88, 3) := by decide +kernel
theorem dX8_mass_77 : decode cX8_mass 77 = .ok (.istore 5, 2) := by decide +kernel
theorem dX8_mass_79 : decode cX8_mass 79 = .ok (.aload_n 0, 1) := by decide +kernel
theorem dX8_mass_80 : decode cX8_mass 80 = .ok (.invokevirtual 92, 3) := by decide +kernel
theorem dX8_mass_83 : decode cX8_mass 83 = .ok (.iload 5, 2) := by decide +kernel
theorem dX8_mass_85 : decode cX8_mass 85 = .ok (.ireturn, 1) := by decide +kernel
set_option maxRecDepth 20000 in
theorem ggX8_two_X5_massAt : GoodIn wsX8_two wsX5_massAt := goodIn_r _ [12, 13, 14, 15, 16, 17, 18, 19, 20, 21, 22, 23, 24, 25, 26, 27, 28, 29, 30, 31, 32, 33, 34, 35, 36, 37, 241, 242, 243, 244, 245, 246, 247] (by decide +kernel) (by decide +kernel)
set_option maxRecDepth 20000 in
theorem gX8_two_X5_massAt : GoodIn wsX8_two (wsV RX8 95 RX5 yX5_massAt wsX5_massAt) := goodIn_app (goodIn_of _ (by decide +kernel)) ggX8_two_X5_massAt
set_option maxRecDepth 20000 in
theorem ggX8_two_X8_isInField : GoodIn wsX8_two wsX8_isInField := goodIn_r _ [41, 42, 43, 40, 44] (by decide +kernel) (by decide +kernel)
set_option maxRecDepth 20000 in
theorem gX8_two_X8_isInField : GoodIn wsX8_two (va_wsS RX8 63 yX8_isInField wsX8_isInField) := goodIn_app (goodIn_of _ (by decide +kernel)) ggX8_two_X8_isInField
set_option maxRecDepth 20000 in
theorem ggX8_two_X4_isWhole : GoodIn wsX8_two wsX4_isWhole := goodIn_r _ [49, 50, 248, 249, 250, 251] (by decide +kernel) (by decide +kernel)
set_option maxRecDepth 20000 in
theorem gX8_two_X4_isWhole : GoodIn wsX8_two (wsV RX8 106 RX4 yX4_isWhole wsX4_isWhole) := goodIn_app (goodIn_of _ (by decide +kernel)) ggX8_two_X4_isWhole
set_option maxRecDepth 20000 in
theorem ggX8_two_X5_isFull : GoodIn wsX8_two wsX5_isFull := goodIn_r _ [54, 13, 15, 16, 17, 18, 19, 20, 241, 242, 243, 244, 245, 246, 247] (by decide +kernel) (by decide +kernel)
set_option maxRecDepth 20000 in
theorem gX8_two_X5_isFull : GoodIn wsX8_two (wsV RX8 74 RX5 yX5_isFull wsX5_isFull) := goodIn_app (goodIn_of _ (by decide +kernel)) ggX8_two_X5_isFull
set_option maxRecDepth 20000 in
theorem ggX8_two_X4_split : GoodIn wsX8_two wsX4_split := goodIn_r _ [58, 50, 59, 60, 61, 62, 63, 64, 48, 65, 66, 67, 68, 69, 70, 71, 72, 73, 248, 249, 250, 251] (by decide +kernel) (by decide +kernel)
set_option maxRecDepth 20000 in
theorem gX8_two_X4_split : GoodIn wsX8_two (wsV RX8 111 RX4 yX4_split wsX4_split) := goodIn_app (goodIn_of _ (by decide +kernel)) ggX8_two_X4_split
set_option maxRecDepth 20000 in
theorem ggX8_two_X5_add : GoodIn wsX8_two wsX5_add := goodIn_r _ [77, 13, 78, 79, 80, 18, 81, 82, 83, 37, 20, 84, 85, 86, 87, 88, 89, 90, 91, 92, 93, 94, 95, 96, 97, 60, 61, 62, 98, 99, 100, 101, 102, 103, 104, 105, 106, 107, 108, 109, 110, 111, 112, 113, 114, 115, 116, 117, 118, 119, 120, 121, 122, 123, 124, 125, 126, 127, 128, 129, 130, 11, 131, 132, 133, 134, 135, 136, 137, 138, 139, 140, 141, 142, 143, 144, 14, 15, 16, 17, 19, 21, 22, 23, 24, 25, 26, 27, 28, 29, 30, 31, 32, 33, 34, 35, 36, 145, 146, 147, 48, 148, 72, 149, 150, 151, 152, 153, 154, 155, 73, 156, 157, 158, 159, 65, 50, 160, 161, 162, 163, 164, 165, 166, 167, 168, 169, 170, 171, 172, 173, 174, 175, 241, 242, 243, 244, 245, 246, 247, 248, 249, 250, 251] (by decide +kernel) (by decide +kernel)
set_option maxRecDepth 20000 in
theorem gX8_two_X5_add : GoodIn wsX8_two (wsV RX8 88 RX5 yX5_add wsX5_add) := goodIn_app (goodIn_of _ (by decide +kernel)) ggX8_two_X5_add
set_option maxRecDepth 20000 in
theorem ggX8_two_X8_beginAnew : GoodIn wsX8_two wsX8_beginAnew := goodIn_r _ [179, 180, 181, 182, 183, 7, 184, 185, 186, 187, 188, 189, 190, 191, 192, 18, 193, 82, 83, 37, 20, 194, 16, 17, 19, 195, 22, 23, 24, 25, 26, 27, 28, 29, 30, 31, 32, 33, 34, 35, 36, 196, 197, 198, 199, 200, 201, 202, 203, 204, 205, 206, 207, 208, 209, 210, 211, 11, 212, 213, 214, 215, 216, 132, 133, 217, 218, 219, 220, 221, 222, 223, 224, 225, 226, 227, 228, 229, 134, 230, 231, 232, 233, 234, 235, 236, 237, 238, 239, 240, 252, 253, 254, 245, 246, 247, 255, 256, 257, 258, 259, 260, 261, 241, 242, 243, 244] (by decide +kernel) (by decide +kernel)
set_option maxRecDepth 20000 in
theorem gX8_two_X8_beginAnew : GoodIn wsX8_two (wsV RX8 92 RX8 yX8_beginAnew wsX8_beginAnew) := goodIn_app (goodIn_of _ (by decide +kernel)) ggX8_two_X8_beginAnew
theorem dX8_two_0 : decode cX8_two 0 = .ok (.aload_n 0, 1) := by decide +kernel
theorem dX8_two_1 : decode cX8_two 1 = .ok (.getfield 12, 3) := by decide +kernel
theorem dX8_two_4 : decode cX8_two 4 = .ok (.iload_n 1, 1) := by decide +kernel
theorem dX8_two_5 : decode cX8_two 5 = .ok (.invokevirtual 95, 3) := by decide +kernel
theorem dX8_two_8 : decode cX8_two 8 = .ok (.astore 4, 2) := by decide +kernel
theorem dX8_two_10 : decode cX8_two 10 = .ok (.aload 4, 2) := by decide +kernel
theorem dX8_two_12 : decode cX8_two 12 = .ok (.ifnonnull 13, 3) := by decide +kernel
theorem dX8_two_15 : decode cX8_two 15 = .ok (.new 99, 3) := by decide +kernel
theorem dX8_two_18 : decode cX8_two 18 = .ok (.dup, 1) := by decide +kernel
theorem dX8_two_19 : decode cX8_two 19 = .ok (.ldc 101, 2) := by decide +kernel
theorem dX8_two_21 : decode cX8_two 21 = .ok (.invokespecial 103, 3) := by decide +kernel
theorem dX8_two_24 : decode cX8_two 24 = .ok (.athrow, 1) := by decide +kernel
theorem dX8_two_25 : decode cX8_two 25 = .ok (.iload_n 2, 1) := by decide +kernel
theorem dX8_two_26 : decode cX8_two 26 = .ok (.iload_n 3, 1) := by decide +kernel
theorem dX8_two_27 : decode cX8_two 27 = .ok (.invokestatic 63, 3) := by decide +kernel
theorem dX8_two_30 : decode cX8_two 30 = .ok (.ifCond .ne 13, 3) := by decide +kernel
theorem dX8_two_33 : decode cX8_two 33 = .ok (.new 67, 3) := by decide +kernel
theorem dX8_two_36 : decode cX8_two 36 = .ok (.dup, 1) := by decide +kernel
theorem dX8_two_37 : decode cX8_two 37 = .ok (.ldc 104, 2) := by decide +kernel
theorem dX8_two_39 : decode cX8_two 39 = .ok (.invokespecial 71, 3) := by decide +kernel
theorem dX8_two_42 : decode cX8_two 42 = .ok (.athrow, 1) := by decide +kernel
theorem dX8_two_43 : decode cX8_two 43 = .ok (.aload 4, 2) := by decide +kernel
theorem dX8_two_45 : decode cX8_two 45 = .ok (.invokevirtual 106, 3) := by decide +kernel
theorem dX8_two_48 : decode cX8_two 48 = .ok (.ifCond .ne 13, 3) := by decide +kernel
theorem dX8_two_51 : decode cX8_two 51 = .ok (.aload_n 0, 1) := by decide +kernel
theorem dX8_two_52 : decode cX8_two 52 = .ok (.getfield 12, 3) := by decide +kernel
theorem dX8_two_55 : decode cX8_two 55 = .ok (.invokevirtual 74, 3) := by decide +kernel
theorem dX8_two_58 : decode cX8_two 58 = .ok (.ifCond .eq 13, 3) := by decide +kernel
theorem dX8_two_61 : decode cX8_two 61 = .ok (.new 78, 3) := by decide +kernel
theorem dX8_two_64 : decode cX8_two 64 = .ok (.dup, 1) := by decide +kernel
theorem dX8_two_65 : decode cX8_two 65 = .ok (.ldc 109, 2) := by decide +kernel
theorem dX8_two_67 : decode cX8_two 67 = .ok (.invokespecial 82, 3) := by decide +kernel
theorem dX8_two_70 : decode cX8_two 70 = .ok (.athrow, 1) := by decide +kernel
theorem dX8_two_71 : decode cX8_two 71 = .ok (.aload_n 0, 1) := by decide +kernel
theorem dX8_two_72 : decode cX8_two 72 = .ok (.getfield 12, 3) := by decide +kernel
theorem dX8_two_75 : decode cX8_two 75 = .ok (.aload 4, 2) := by decide +kernel
theorem dX8_two_77 : decode cX8_two 77 = .ok (.iload_n 2, 1) := by decide +kernel
theorem dX8_two_78 : decode cX8_two 78 = .ok (.iload_n 3, 1) := by decide +kernel
theorem dX8_two_79 : decode cX8_two 79 = .ok (.invokevirtual 111, 3) := by decide +kernel
theorem dX8_two_82 : decode cX8_two 82 = .ok (.invokevirtual 88, 3) := by decide +kernel
theorem dX8_two_85 : decode cX8_two 85 = .ok (.istore 5, 2) := by decide +kernel
theorem dX8_two_87 : decode cX8_two 87 = .ok (.aload_n 0, 1) := by decide +kernel
theorem dX8_two_88 : decode cX8_two 88 = .ok (.invokevirtual 92, 3) := by decide +kernel
theorem dX8_two_91 : decode cX8_two 91 = .ok (.iload 5, 2) := by decide +kernel
theorem dX8_two_93 : decode cX8_two 93 = .ok (.ireturn, 1) := by decide +kernel
set_option maxRecDepth 20000 in
theorem ggX8_source_X8_isInField : GoodIn wsX8_source wsX8_isInField := goodIn_r _ [13, 14, 15, 12, 16] (by decide +kernel) (by decide +kernel)
set_option maxRecDepth 20000 in
theorem gX8_source_X8_isInField : GoodIn wsX8_source (va_wsS RX8 63 yX8_isInField wsX8_isInField) := goodIn_app (goodIn_of _ (by decide +kernel)) ggX8_source_X8_isInField
set_option maxRecDepth 20000 in
theorem ggX8_source_X8_isWithin : GoodIn wsX8_source wsX8_isWithin := goodIn_r _ [16] (by decide +kernel) (by decide +kernel)
set_option maxRecDepth 20000 in
theorem gX8_source_X8_isWithin : GoodIn wsX8_source (va_wsS RX8 59 yX8_isWithin wsX8_isWithin) := goodIn_app (goodIn_of _ (by decide +kernel)) ggX8_source_X8_isWithin
set_option maxRecDepth 20000 in
theorem ggX8_source_Jx4a65c_size_8abf5 : GoodIn wsX8_source wsJx4a65c_size_8abf5 := goodIn_r _ [21, 22, 172, 173, 174] (by decide +kernel) (by decide +kernel)
set_option maxRecDepth 20000 in
theorem gX8_source_Jx4a65c_size_8abf5 : GoodIn wsX8_source (wsV RX8 117 RJx4a65c yJx4a65c_size_8abf5 wsJx4a65c_size_8abf5) := goodIn_app (goodIn_of _ (by decide +kernel)) ggX8_source_Jx4a65c_size_8abf5
