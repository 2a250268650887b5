set_option maxRecDepth 20000 in
theorem ggX8_source_X8_isTaken : GoodIn wsX8_source wsX8_isTaken := goodIn_r _ [26, 5, 27, 17, 18, 19, 20, 21, 22, 28, 29, 30, 31, 32, 33, 34, 35, 36, 37, 38, 39, 40, 41, 42, 43, 44, 154, 155, 156, 157, 158, 159, 160, 161, 162, 163, 164, 165, 166, 167, 168, 169, 170, 171, 172, 173, 174] (by decide +kernel) (by decide +kernel)
set_option maxRecDepth 20000 in
theorem gX8_source_X8_isTaken : GoodIn wsX8_source (wsV RX8 121 RX8 yX8_isTaken wsX8_isTaken) := goodIn_app (goodIn_of _ (by decide +kernel)) ggX8_source_X8_isTaken
set_option maxRecDepth 20000 in
theorem ggX8_source_X6_init : GoodIn wsX8_source wsX6_init := goodIn_r _ [47, 48, 49, 50, 51, 52, 53, 54, 55, 20, 56, 57, 58, 59, 60, 61, 62, 63, 64, 44, 65, 66, 67, 68, 69, 70, 71, 72, 73, 74, 165, 166, 167, 168, 169, 170, 171, 172, 173, 174] (by decide +kernel) (by decide +kernel)
set_option maxRecDepth 20000 in
theorem gX8_source_X6_init : GoodIn wsX8_source (wsX6_init) := ggX8_source_X6_init
set_option maxRecDepth 20000 in
theorem ggX8_source_X6_findImages : GoodIn wsX8_source wsX6_findImages := goodIn_r _ [78, 53, 58, 59, 79, 80, 81, 82, 83, 84, 85, 86, 87, 88, 89, 90, 91, 92, 93, 94, 95, 8, 96, 52, 97, 98, 99, 100, 101, 165, 166, 167, 168, 169, 170, 171, 175, 176, 177, 178] (by decide +kernel) (by decide +kernel)
set_option maxRecDepth 20000 in
theorem gX8_source_X6_findImages : GoodIn wsX8_source (wsV RX8 131 RX6 yX6_findImages wsX6_findImages) := goodIn_app (goodIn_of _ (by decide +kernel)) ggX8_source_X6_findImages
set_option maxRecDepth 20000 in
theorem ggX8_source_Jx4a65c_add_9ea2d : GoodIn wsX8_source wsJx4a65c_add_9ea2d := goodIn_r _ [105, 106, 107, 44, 22, 108, 109, 110, 20, 111, 112, 113, 114, 115, 116, 117, 118, 119, 64, 120, 121, 122, 123, 124, 125, 126, 127, 128, 129, 130, 131, 132, 133, 134, 135, 136, 137, 138, 139, 140, 141, 142, 143, 144, 145, 146, 147, 148, 149, 150, 151, 152, 153, 172, 173, 174] (by decide +kernel) (by decide +kernel)
set_option maxRecDepth 20000 in
theorem gX8_source_Jx4a65c_add_9ea2d : GoodIn wsX8_source (wsV RX8 135 RJx4a65c yJx4a65c_add_9ea2d wsJx4a65c_add_9ea2d) := goodIn_app (goodIn_of _ (by decide +kernel)) ggX8_source_Jx4a65c_add_9ea2d
theorem dX8_source_0 : decode cX8_source 0 = .ok (.iload_n 1, 1) := by decide +kernel
theorem dX8_source_1 : decode cX8_source 1 = .ok (.iload_n 2, 1) := by decide +kernel
theorem dX8_source_2 : decode cX8_source 2 = .ok (.invokestatic 63, 3) := by decide +kernel
theorem dX8_source_5 : decode cX8_source 5 = .ok (.ifCond .eq 13, 3) := by decide +kernel
theorem dX8_source_8 : decode cX8_source 8 = .ok (.iload_n 3, 1) := by decide +kernel
theorem dX8_source_9 : decode cX8_source 9 = .ok (.iconst 1, 1) := by decide +kernel
theorem dX8_source_10 : decode cX8_source 10 = .ok (.bipush 100, 2) := by decide +kernel
theorem dX8_source_12 : decode cX8_source 12 = .ok (.invokestatic 59, 3) := by decide +kernel
theorem dX8_source_15 : decode cX8_source 15 = .ok (.ifCond .ne 13, 3) := by decide +kernel
theorem dX8_source_18 : decode cX8_source 18 = .ok (.new 67, 3) := by decide +kernel
theorem dX8_source_21 : decode cX8_source 21 = .ok (.dup, 1) := by decide +kernel
theorem dX8_source_22 : decode cX8_source 22 = .ok (.ldc 115, 2) := by decide +kernel
theorem dX8_source_24 : decode cX8_source 24 = .ok (.invokespecial 71, 3) := by decide +kernel
theorem dX8_source_27 : decode cX8_source 27 = .ok (.athrow, 1) := by decide +kernel
theorem dX8_source_28 : decode cX8_source 28 = .ok (.aload_n 0, 1) := by decide +kernel
theorem dX8_source_29 : decode cX8_source 29 = .ok (.getfield 19, 3) := by decide +kernel
theorem dX8_source_32 : decode cX8_source 32 = .ok (.invokevirtual 117, 3) := by decide +kernel
theorem dX8_source_35 : decode cX8_source 35 = .ok (.iconst 5, 1) := by decide +kernel
theorem dX8_source_36 : decode cX8_source 36 = .ok (.if_icmp .ge 12, 3) := by decide +kernel
theorem dX8_source_39 : decode cX8_source 39 = .ok (.aload_n 0, 1) := by decide +kernel
theorem dX8_source_40 : decode cX8_source 40 = .ok (.iload_n 1, 1) := by decide +kernel
theorem dX8_source_41 : decode cX8_source 41 = .ok (.iload_n 2, 1) := by decide +kernel
theorem dX8_source_42 : decode cX8_source 42 = .ok (.invokevirtual 121, 3) := by decide +kernel
theorem dX8_source_45 : decode cX8_source 45 = .ok (.ifCond .eq 13, 3) := by decide +kernel
theorem dX8_source_48 : decode cX8_source 48 = .ok (.new 78, 3) := by decide +kernel
theorem dX8_source_51 : decode cX8_source 51 = .ok (.dup, 1) := by decide +kernel
theorem dX8_source_52 : decode cX8_source 52 = .ok (.ldc 124, 2) := by decide +kernel
theorem dX8_source_54 : decode cX8_source 54 = .ok (.invokespecial 82, 3) := by decide +kernel
theorem dX8_source_57 : decode cX8_source 57 = .ok (.athrow, 1) := by decide +kernel
theorem dX8_source_58 : decode cX8_source 58 = .ok (.new 126, 3) := by decide +kernel
theorem dX8_source_61 : decode cX8_source 61 = .ok (.dup, 1) := by decide +kernel
theorem dX8_source_62 : decode cX8_source 62 = .ok (.iload_n 1, 1) := by decide +kernel
theorem dX8_source_63 : decode cX8_source 63 = .ok (.iload_n 2, 1) := by decide +kernel
theorem dX8_source_64 : decode cX8_source 64 = .ok (.iload_n 3, 1) := by decide +kernel
theorem dX8_source_65 : decode cX8_source 65 = .ok (.invokespecial 128, 3) := by decide +kernel
theorem dX8_source_68 : decode cX8_source 68 = .ok (.astore 4, 2) := by decide +kernel
theorem dX8_source_70 : decode cX8_source 70 = .ok (.aload 4, 2) := by decide +kernel
theorem dX8_source_72 : decode cX8_source 72 = .ok (.aload_n 0, 1) := by decide +kernel
theorem dX8_source_73 : decode cX8_source 73 = .ok (.getfield 12, 3) := by decide +kernel
theorem dX8_source_76 : decode cX8_source 76 = .ok (.invokevirtual 131, 3) := by decide +kernel
theorem dX8_source_79 : decode cX8_source 79 = .ok (.aload_n 0, 1) := by decide +kernel
theorem dX8_source_80 : decode cX8_source 80 = .ok (.getfield 19, 3) := by decide +kernel
theorem dX8_source_83 : decode cX8_source 83 = .ok (.aload 4, 2) := by decide +kernel
theorem dX8_source_85 : decode cX8_source 85 = .ok (.invokevirtual 135, 3) := by decide +kernel
theorem dX8_source_88 : decode cX8_source 88 = .ok (.pop, 1) := by decide +kernel
theorem dX8_source_89 : decode cX8_source 89 = .ok (.aload_n 0, 1) := by decide +kernel
theorem dX8_source_90 : decode cX8_source 90 = .ok (.getfield 19, 3) := by decide +kernel
theorem dX8_source_93 : decode cX8_source 93 = .ok (.invokevirtual 117, 3) := by decide +kernel
theorem dX8_source_96 : decode cX8_source 96 = .ok (.iconst 1, 1) := by decide +kernel
theorem dX8_source_97 : decode cX8_source 97 = .ok (.isub, 1) := by decide +kernel
theorem dX8_source_98 : decode cX8_source 98 = .ok (.ireturn, 1) := by decide +kernel
set_option maxRecDepth 20000 in
theorem ggX8_flare_X8_sourceAt : GoodIn wsX8_flare wsX8_sourceAt := goodIn_r _ [16, 17, 18, 19, 20, 21, 22, 23, 24, 25, 26, 27, 28, 29, 30, 31, 32, 33, 34, 35, 36, 37, 38, 39, 40, 41, 121, 122, 123, 124, 125, 126, 127, 128, 129, 130, 131, 134, 135, 136] (by decide +kernel) (by decide +kernel)
set_option maxRecDepth 20000 in
theorem gX8_flare_X8_sourceAt : GoodIn wsX8_flare (wsV RX8 138 RX8 yX8_sourceAt wsX8_sourceAt) := goodIn_app (goodIn_of _ (by decide +kernel)) ggX8_flare_X8_sourceAt
set_option maxRecDepth 20000 in
theorem ggX8_flare_X8_isWithin : GoodIn wsX8_flare wsX8_isWithin := goodIn_r _ [44] (by decide +kernel) (by decide +kernel)
set_option maxRecDepth 20000 in
theorem gX8_flare_X8_isWithin : GoodIn wsX8_flare (va_wsS RX8 59 yX8_isWithin wsX8_isWithin) := goodIn_app (goodIn_of _ (by decide +kernel)) ggX8_flare_X8_isWithin
set_option maxRecDepth 20000 in
theorem ggX8_flare_X2_init : GoodIn wsX8_flare wsX2_init := goodIn_r _ [47, 48, 49, 50, 51, 52, 132, 133] (by decide +kernel) (by decide +kernel)
set_option maxRecDepth 20000 in
theorem gX8_flare_X2_init : GoodIn wsX8_flare (wsX2_init) := ggX8_flare_X2_init
set_option maxRecDepth 20000 in
theorem ggX8_flare_X6_addFlare : GoodIn wsX8_flare wsX6_addFlare := goodIn_r _ [57, 58, 59, 60, 61, 22, 62, 63, 64, 41, 24, 65, 66, 67, 68, 69, 70, 71, 72, 73, 74, 75, 76, 77, 78, 79, 80, 81, 82, 83, 84, 85, 86, 87, 88, 89, 90, 91, 92, 93, 94, 95, 96, 97, 98, 99, 100, 101, 102, 103, 104, 105, 106, 107, 108, 109, 110, 111, 137, 138, 139, 140, 141, 142, 143, 134, 135, 136] (by decide +kernel) (by decide +kernel)
set_option maxRecDepth 20000 in
theorem gX8_flare_X6_addFlare : GoodIn wsX8_flare (wsV RX8 153 RX6 yX6_addFlare wsX6_addFlare) := goodIn_app (goodIn_of _ (by decide +kernel)) ggX8_flare_X6_addFlare
set_option maxRecDepth 20000 in
theorem ggX8_flare_X6_lightOn : GoodIn wsX8_flare wsX6_lightOn := goodIn_r _ [115, 116, 58, 117, 118, 79, 80, 81, 119, 20, 21, 22, 23, 24, 120, 26, 27, 28, 29, 30, 31, 32, 33, 34, 35, 36, 37, 38, 39, 40, 41, 137, 138, 139, 140, 141, 142, 143, 132, 133, 134, 135, 136] (by decide +kernel) (by decide +kernel)
set_option maxRecDepth 20000 in
theorem gX8_flare_X6_lightOn : GoodIn wsX8_flare (wsV RX8 157 RX6 yX6_lightOn wsX6_lightOn) := goodIn_app (goodIn_of _ (by decide +kernel)) ggX8_flare_X6_lightOn
theorem dX8_flare_0 : decode cX8_flare 0 = .ok (.aload_n 0, 1) := by decide +kernel
theorem dX8_flare_1 : decode cX8_flare 1 = .ok (.iload_n 1, 1) := by decide +kernel
theorem dX8_flare_2 : decode cX8_flare 2 = .ok (.invokevirtual 138, 3) := by decide +kernel
theorem dX8_flare_5 : decode cX8_flare 5 = .ok (.astore_n 3, 1) := by decide +kernel
theorem dX8_flare_6 : decode cX8_flare 6 = .ok (.aload_n 3, 1) := by decide +kernel
theorem dX8_flare_7 : decode cX8_flare 7 = .ok (.ifnonnull 13, 3) := by decide +kernel
theorem dX8_flare_10 : decode cX8_flare 10 = .ok (.new 99, 3) := by decide +kernel
theorem dX8_flare_13 : decode cX8_flare 13 = .ok (.dup, 1) := by decide +kernel
theorem dX8_flare_14 : decode cX8_flare 14 = .ok (.ldc 142, 2) := by decide +kernel
theorem dX8_flare_16 : decode cX8_flare 16 = .ok (.invokespecial 103, 3) := by decide +kernel
theorem dX8_flare_19 : decode cX8_flare 19 = .ok (.athrow, 1) := by decide +kernel
theorem dX8_flare_20 : decode cX8_flare 20 = .ok (.iload_n 2, 1) := by decide +kernel
theorem dX8_flare_21 : decode cX8_flare 21 = .ok (.bipush (-100), 2) := by decide +kernel
theorem dX8_flare_23 : decode cX8_flare 23 = .ok (.bipush 100, 2) := by decide +kernel
theorem dX8_flare_25 : decode cX8_flare 25 = .ok (.invokestatic 59, 3) := by decide +kernel
theorem dX8_flare_28 : decode cX8_flare 28 = .ok (.ifCond .ne 13, 3) := by decide +kernel
theorem dX8_flare_31 : decode cX8_flare 31 = .ok (.new 67, 3) := by decide +kernel
theorem dX8_flare_34 : decode cX8_flare 34 = .ok (.dup, 1) := by decide +kernel
theorem dX8_flare_35 : decode cX8_flare 35 = .ok (.ldc 144, 2) := by decide +kernel
theorem dX8_flare_37 : decode cX8_flare 37 = .ok (.invokespecial 71, 3) := by decide +kernel
theorem dX8_flare_40 : decode cX8_flare 40 = .ok (.athrow, 1) := by decide +kernel
theorem dX8_flare_41 : decode cX8_flare 41 = .ok (.aload_n 0, 1) := by decide +kernel
theorem dX8_flare_42 : decode cX8_flare 42 = .ok (.getfield 23, 3) := by decide +kernel
theorem dX8_flare_45 : decode cX8_flare 45 = .ok (.bipush 40, 2) := by decide +kernel
theorem dX8_flare_47 : decode cX8_flare 47 = .ok (.if_icmp .lt 13, 3) := by decide +kernel
theorem dX8_flare_50 : decode cX8_flare 50 = .ok (.new 78, 3) := by decide +kernel
theorem dX8_flare_53 : decode cX8_flare 53 = .ok (.dup, 1) := by decide +kernel
theorem dX8_flare_54 : decode cX8_flare 54 = .ok (.ldc 146, 2) := by decide +kernel
theorem dX8_flare_56 : decode cX8_flare 56 = .ok (.invokespecial 82, 3) := by decide +kernel
theorem dX8_flare_59 : decode cX8_flare 59 = .ok (.athrow, 1) := by decide +kernel
theorem dX8_flare_60 : decode cX8_flare 60 = .ok (.aload_n 0, 1) := by decide +kernel
theorem dX8_flare_61 : decode cX8_flare 61 = .ok (.dup, 1) := by decide +kernel
theorem dX8_flare_62 : decode cX8_flare 62 = .ok (.getfield 23, 3) := by decide +kernel
theorem dX8_flare_65 : decode cX8_flare 65 = .ok (.iconst 1, 1) := by decide +kernel
theorem dX8_flare_66 : decode cX8_flare 66 = .ok (.iadd, 1) := by decide +kernel
theorem dX8_flare_67 : decode cX8_flare 67 = .ok (.putfield 23, 3) := by decide +kernel
theorem dX8_flare_70 : decode cX8_flare 70 = .ok (.aload_n 3, 1) := by decide +kernel
theorem dX8_flare_71 : decode cX8_flare 71 = .ok (.new 148, 3) := by decide +kernel
theorem dX8_flare_74 : decode cX8_flare 74 = .ok (.dup, 1) := by decide +kernel
theorem dX8_flare_75 : decode cX8_flare 75 = .ok (.aload_n 0, 1) := by decide +kernel
theorem dX8_flare_76 : decode cX8_flare 76 = .ok (.getfield 44, 3) := by decide +kernel
theorem dX8_flare_79 : decode cX8_flare 79 = .ok (.iload_n 2, 1) := by decide +kernel
theorem dX8_flare_80 : decode cX8_flare 80 = .ok (.invokespecial 150, 3) := by decide +kernel
theorem dX8_flare_83 : decode cX8_flare 83 = .ok (.invokevirtual 153, 3) := by decide +kernel
theorem dX8_flare_86 : decode cX8_flare 86 = .ok (.aload_n 3, 1) := by decide +kernel
theorem dX8_flare_87 : decode cX8_flare 87 = .ok (.aload_n 0, 1) := by decide +kernel
theorem dX8_flare_88 : decode cX8_flare 88 = .ok (.getfield 44, 3) := by decide +kernel
theorem dX8_flare_91 : decode cX8_flare 91 = .ok (.invokevirtual 157, 3) := by decide +kernel
theorem dX8_flare_94 : decode cX8_flare 94 = .ok (.ireturn, 1) := by decide +kernel
set_option maxRecDepth 20000 in
theorem ggX8_cross_X8_sourceAt : GoodIn wsX8_cross wsX8_sourceAt := goodIn_r _ [16, 17, 18, 19, 20, 21, 22, 23, 24, 25, 26, 27, 28, 29, 30, 31, 32, 33, 34, 35, 36, 37, 38, 39, 40, 41, 119, 120, 121, 122, 123, 124, 125, 126, 127, 128, 129, 134, 135, 136] (by decide +kernel) (by decide +kernel)
set_option maxRecDepth 20000 in
theorem gX8_cross_X8_sourceAt : GoodIn wsX8_cross (wsV RX8 138 RX8 yX8_sourceAt wsX8_sourceAt) := goodIn_app (goodIn_of _ (by decide +kernel)) ggX8_cross_X8_sourceAt
set_option maxRecDepth 20000 in
theorem ggX8_cross_X6_hasImage : GoodIn wsX8_cross wsX6_hasImage := goodIn_r _ [46, 47, 137, 138, 139, 140, 141, 142, 143] (by decide +kernel) (by decide +kernel)
set_option maxRecDepth 20000 in
theorem gX8_cross_X6_hasImage : GoodIn wsX8_cross (wsV RX8 161 RX6 yX6_hasImage wsX6_hasImage) := goodIn_app (goodIn_of _ (by decide +kernel)) ggX8_cross_X6_hasImage
set_option maxRecDepth 20000 in
theorem ggX8_cross_X8_isWithin : GoodIn wsX8_cross wsX8_isWithin := goodIn_r _ [50] (by decide +kernel) (by decide +kernel)
set_option maxRecDepth 20000 in
theorem gX8_cross_X8_isWithin : GoodIn wsX8_cross (va_wsS RX8 59 yX8_isWithin wsX8_isWithin) := goodIn_app (goodIn_of _ (by decide +kernel)) ggX8_cross_X8_isWithin
set_option maxRecDepth 20000 in
theorem ggX8_cross_X7_init : GoodIn wsX8_cross wsX7_init := goodIn_r _ [53, 54, 55, 56, 57, 58, 59, 60, 130, 131, 132, 133] (by decide +kernel) (by decide +kernel)
set_option maxRecDepth 20000 in
theorem gX8_cross_X7_init : GoodIn wsX8_cross (wsX7_init) := ggX8_cross_X7_init
set_option maxRecDepth 20000 in
theorem ggX8_cross_X6_addStar : GoodIn wsX8_cross wsX6_addStar := goodIn_r _ [64, 65, 66, 67, 68, 22, 69, 70, 71, 41, 24, 72, 73, 74, 75, 76, 77, 78, 79, 80, 81, 82, 83, 84, 85, 86, 87, 88, 89, 90, 91, 92, 93, 94, 95, 96, 97, 98, 99, 100, 101, 102, 103, 104, 105, 106, 107, 108, 109, 110, 111, 112, 113, 114, 115, 116, 117, 118, 137, 138, 139, 140, 141, 142, 143, 134, 135, 136] (by decide +kernel) (by decide +kernel)
set_option maxRecDepth 20000 in
theorem gX8_cross_X6_addStar : GoodIn wsX8_cross (wsV RX8 174 RX6 yX6_addStar wsX6_addStar) := goodIn_app (goodIn_of _ (by decide +kernel)) ggX8_cross_X6_addStar
theorem dX8_cross_0 : decode cX8_cross 0 = .ok (.aload_n 0, 1) := by decide +kernel
theorem dX8_cross_1 : decode cX8_cross 1 = .ok (.iload_n 1, 1) := by decide +kernel
theorem dX8_cross_2 : decode cX8_cross 2 = .ok (.invokevirtual 138, 3) := by decide +kernel
theorem dX8_cross_5 : decode cX8_cross 5 = .ok (.astore 5, 2) := by decide +kernel
theorem dX8_cross_7 : decode cX8_cross 7 = .ok (.aload 5, 2) := by decide +kernel
theorem dX8_cross_9 : decode cX8_cross 9 = .ok (.ifnull 12, 3) := by decide +kernel
theorem dX8_cross_12 : decode cX8_cross 12 = .ok (.aload 5, 2) := by decide +kernel
theorem dX8_cross_14 : decode cX8_cross 14 = .ok (.iload_n 2, 1) := by decide +kernel
theorem dX8_cross_15 : decode cX8_cross 15 = .ok (.invokevirtual 161, 3) := by decide +kernel
theorem dX8_cross_18 : decode cX8_cross 18 = .ok (.ifCond .ne 13, 3) := by decide +kernel
theorem dX8_cross_21 : decode cX8_cross 21 = .ok (.new 99, 3) := by decide +kernel
theorem dX8_cross_24 : decode cX8_cross 24 = .ok (.dup, 1) := by decide +kernel
theorem dX8_cross_25 : decode cX8_cross 25 = .ok (.ldc 165, 2) := by decide +kernel
theorem dX8_cross_27 : decode cX8_cross 27 = .ok (.invokespecial 103, 3) := by decide +kernel
theorem dX8_cross_30 : decode cX8_cross 30 = .ok (.athrow, 1) := by decide +kernel
theorem dX8_cross_31 : decode cX8_cross 31 = .ok (.iload_n 3, 1) := by decide +kernel
theorem dX8_cross_32 : decode cX8_cross 32 = .ok (.iconst 1, 1) := by decide +kernel
theorem dX8_cross_33 : decode cX8_cross 33 = .ok (.bipush 50, 2) := by decide +kernel
theorem dX8_cross_35 : decode cX8_cross 35 = .ok (.invokestatic 59, 3) := by decide +kernel
theorem dX8_cross_38 : decode cX8_cross 38 = .ok (.ifCond .eq 15, 3) := by decide +kernel
theorem dX8_cross_41 : decode cX8_cross 41 = .ok (.iload 4, 2) := by decide +kernel
theorem dX8_cross_43 : decode cX8_cross 43 = .ok (.iconst 1, 1) := by decide +kernel
theorem dX8_cross_44 : decode cX8_cross 44 = .ok (.sipush 1000, 3) := by decide +kernel
theorem dX8_cross_47 : decode cX8_cross 47 = .ok (.invokestatic 59, 3) := by decide +kernel
theorem dX8_cross_50 : decode cX8_cross 50 = .ok (.ifCond .ne 13, 3) := by decide +kernel
theorem dX8_cross_53 : decode cX8_cross 53 = .ok (.new 67, 3) := by decide +kernel
theorem dX8_cross_56 : decode cX8_cross 56 = .ok (.dup, 1) := by decide +kernel
theorem dX8_cross_57 : decode cX8_cross 57 = .ok (.ldc 167, 2) := by decide +kernel
theorem dX8_cross_59 : decode cX8_cross 59 = .ok (.invokespecial 71, 3) := by decide +kernel
theorem dX8_cross_62 : decode cX8_cross 62 = .ok (.athrow, 1) := by decide +kernel
theorem dX8_cross_63 : decode cX8_cross 63 = .ok (.aload_n 0, 1) := by decide +kernel
theorem dX8_cross_64 : decode cX8_cross 64 = .ok (.getfield 27, 3) := by decide +kernel
theorem dX8_cross_67 : decode cX8_cross 67 = .ok (.bipush 20, 2) := by decide +kernel
theorem dX8_cross_69 : decode cX8_cross 69 = .ok (.if_icmp .lt 13, 3) := by decide +kernel
theorem dX8_cross_72 : decode cX8_cross 72 = .ok (.new 78, 3) := by decide +kernel
theorem dX8_cross_75 : decode cX8_cross 75 = .ok (.dup, 1) := by decide +kernel
theorem dX8_cross_76 : decode cX8_cross 76 = .ok (.ldc 169, 2) := by decide +kernel
theorem dX8_cross_78 : decode cX8_cross 78 = .ok (.invokespecial 82, 3) := by decide +kernel
theorem dX8_cross_81 : decode cX8_cross 81 = .ok (.athrow, 1) := by decide +kernel
theorem dX8_cross_82 : decode cX8_cross 82 = .ok (.aload_n 0, 1) := by decide +kernel
theorem dX8_cross_83 : decode cX8_cross 83 = .ok (.dup, 1) := by decide +kernel
theorem dX8_cross_84 : decode cX8_cross 84 = .ok (.getfield 27, 3) := by decide +kernel
theorem dX8_cross_87 : decode cX8_cross 87 = .ok (.iconst 1, 1) := by decide +kernel
theorem dX8_cross_88 : decode cX8_cross 88 = .ok (.iadd, 1) := by decide +kernel
theorem dX8_cross_89 : decode cX8_cross 89 = .ok (.putfield 27, 3) := by decide +kernel
theorem dX8_cross_92 : decode cX8_cross 92 = .ok (.aload 5, 2) := by decide +kernel
theorem dX8_cross_94 : decode cX8_cross 94 = .ok (.new 171, 3) := by decide +kernel
theorem dX8_cross_97 : decode cX8_cross 97 = .ok (.dup, 1) := by decide +kernel
theorem dX8_cross_98 : decode cX8_cross 98 = .ok (.iload_n 2, 1) := by decide +kernel
theorem dX8_cross_99 : decode cX8_cross 99 = .ok (.aload_n 0, 1) := by decide +kernel
theorem dX8_cross_100 : decode cX8_cross 100 = .ok (.getfield 44, 3) := by decide +kernel
theorem dX8_cross_103 : decode cX8_cross 103 = .ok (.iload_n 3, 1) := by decide +kernel
theorem dX8_cross_104 : decode cX8_cross 104 = .ok (.iload 4, 2) := by decide +kernel
theorem dX8_cross_106 : decode cX8_cross 106 = .ok (.invokespecial 173, 3) := by decide +kernel
theorem dX8_cross_109 : decode cX8_cross 109 = .ok (.invokevirtual 174, 3) := by decide +kernel
theorem dX8_cross_112 : decode cX8_cross 112 = .ok (.return_, 1) := by decide +kernel
set_option maxRecDepth 20000 in
theorem ggX8_season_X8_isWithin : GoodIn wsX8_season wsX8_isWithin := goodIn_r _ [8] (by decide +kernel) (by decide +kernel)
set_option maxRecDepth 20000 in
theorem gX8_season_X8_isWithin : GoodIn wsX8_season (va_wsS RX8 59 yX8_isWithin wsX8_isWithin) := goodIn_app (goodIn_of _ (by decide +kernel)) ggX8_season_X8_isWithin
theorem dX8_season_0 : decode cX8_season 0 = .ok (.iload_n 1, 1) := by decide +kernel
theorem dX8_season_1 : decode cX8_season 1 = .ok (.iconst 0, 1) := by decide +kernel
theorem dX8_season_2 : decode cX8_season 2 = .ok (.bipush 99, 2) := by decide +kernel
theorem dX8_season_4 : decode cX8_season 4 = .ok (.invokestatic 59, 3) := by decide +kernel
theorem dX8_season_7 : decode cX8_season 7 = .ok (.ifCond .eq 13, 3) := by decide +kernel
theorem dX8_season_10 : decode cX8_season 10 = .ok (.iload_n 2, 1) := by decide +kernel
theorem dX8_season_11 : decode cX8_season 11 = .ok (.iload_n 1, 1) := by decide +kernel
theorem dX8_season_12 : decode cX8_season 12 = .ok (.bipush 99, 2) := by decide +kernel
theorem dX8_season_14 : decode cX8_season 14 = .ok (.invokestatic 59, 3) := by decide +kernel
theorem dX8_season_17 : decode cX8_season 17 = .ok (.ifCond .ne 13, 3) := by decide +kernel
theorem dX8_season_20 : decode cX8_season 20 = .ok (.new 67, 3) := by decide +kernel
theorem dX8_season_23 : decode cX8_season 23 = .ok (.dup, 1) := by decide +kernel
theorem dX8_season_24 : decode cX8_season 24 = .ok (.ldc 178, 2) := by decide +kernel
theorem dX8_season_26 : decode cX8_season 26 = .ok (.invokespecial 71, 3) := by decide +kernel
theorem dX8_season_29 : decode cX8_season 29 = .ok (.athrow, 1) := by decide +kernel
theorem dX8_season_30 : decode cX8_season 30 = .ok (.aload_n 0, 1) := by decide +kernel
theorem dX8_season_31 : decode cX8_season 31 = .ok (.iload_n 1, 1) := by decide +kernel
theorem dX8_season_32 : decode cX8_season 32 = .ok (.putfield 47, 3) := by decide +kernel
theorem dX8_season_35 : decode cX8_season 35 = .ok (.aload_n 0, 1) := by decide +kernel
theorem dX8_season_36 : decode cX8_season 36 = .ok (.iload_n 2, 1) := by decide +kernel
theorem dX8_season_37 : decode cX8_season 37 = .ok (.putfield 50, 3) := by decide +kernel
theorem dX8_season_40 : decode cX8_season 40 = .ok (.return_, 1) := by decide +kernel
set_option maxRecDepth 20000 in
theorem ggX8_cloud_X8_isWithin : GoodIn wsX8_cloud wsX8_isWithin := goodIn_r _ [8] (by decide +kernel) (by decide +kernel)
set_option maxRecDepth 20000 in
theorem gX8_cloud_X8_isWithin : GoodIn wsX8_cloud (va_wsS RX8 59 yX8_isWithin wsX8_isWithin) := goodIn_app (goodIn_of _ (by decide +kernel)) ggX8_cloud_X8_isWithin
theorem dX8_cloud_0 : decode cX8_cloud 0 = .ok (.iload_n 1, 1) := by decide +kernel
theorem dX8_cloud_1 : decode cX8_cloud 1 = .ok (.iconst 0, 1) := by decide +kernel
theorem dX8_cloud_2 : decode cX8_cloud 2 = .ok (.bipush 50, 2) := by decide +kernel
theorem dX8_cloud_4 : decode cX8_cloud 4 = .ok (.invokestatic 59, 3) := by decide +kernel
theorem dX8_cloud_7 : decode cX8_cloud 7 = .ok (.ifCond .ne 13, 3) := by decide +kernel
theorem dX8_cloud_10 : decode cX8_cloud 10 = .ok (.new 67, 3) := by decide +kernel
theorem dX8_cloud_13 : decode cX8_cloud 13 = .ok (.dup, 1) := by decide +kernel
theorem dX8_cloud_14 : decode cX8_cloud 14 = .ok (.ldc 180, 2) := by decide +kernel
theorem dX8_cloud_16 : decode cX8_cloud 16 = .ok (.invokespecial 71, 3) := by decide +kernel
theorem dX8_cloud_19 : decode cX8_cloud 19 = .ok (.athrow, 1) := by decide +kernel
theorem dX8_cloud_20 : decode cX8_cloud 20 = .ok (.aload_n 0, 1) := by decide +kernel
theorem dX8_cloud_21 : decode cX8_cloud 21 = .ok (.aload_n 0, 1) := by decide +kernel
theorem dX8_cloud_22 : decode cX8_cloud 22 = .ok (.getfield 44, 3) := by decide +kernel
theorem dX8_cloud_25 : decode cX8_cloud 25 = .ok (.iload_n 1, 1) := by decide +kernel
theorem dX8_cloud_26 : decode cX8_cloud 26 = .ok (.iadd, 1) := by decide +kernel
theorem dX8_cloud_27 : decode cX8_cloud 27 = .ok (.putfield 53, 3) := by decide +kernel
theorem dX8_cloud_30 : decode cX8_cloud 30 = .ok (.aload_n 0, 1) := by decide +kernel
theorem dX8_cloud_31 : decode cX8_cloud 31 = .ok (.getfield 53, 3) := by decide +kernel
theorem dX8_cloud_34 : decode cX8_cloud 34 = .ok (.ireturn, 1) := by decide +kernel
set_option maxRecDepth 20000 in
theorem ggX8_world_X8_isWithin : GoodIn wsX8_world wsX8_isWithin := goodIn_r _ [10] (by decide +kernel) (by decide +kernel)
set_option maxRecDepth 20000 in
theorem gX8_world_X8_isWithin : GoodIn wsX8_world (va_wsS RX8 59 yX8_isWithin wsX8_isWithin) := goodIn_app (goodIn_of _ (by decide +kernel)) ggX8_world_X8_isWithin
set_option maxRecDepth 20000 in
theorem ggX8_world_X0_count : GoodIn wsX8_world wsX0_count := goodIn_r _ [15, 16, 17, 18, 19, 20, 21, 22, 34, 35, 36, 37, 38, 39] (by decide +kernel) (by decide +kernel)
set_option maxRecDepth 20000 in
theorem gX8_world_X0_count : GoodIn wsX8_world (wsV RX8 184 RX0 yX0_count wsX0_count) := goodIn_app (goodIn_of _ (by decide +kernel)) ggX8_world_X0_count
theorem dX8_world_0 : decode cX8_world 0 = .ok (.iload_n 1, 1) := by decide +kernel
theorem dX8_world_1 : decode cX8_world 1 = .ok (.bipush 40, 2) := by decide +kernel
theorem dX8_world_3 : decode cX8_world 3 = .ok (.bipush 100, 2) := by decide +kernel
theorem dX8_world_5 : decode cX8_world 5 = .ok (.invokestatic 59, 3) := by decide +kernel
theorem dX8_world_8 : decode cX8_world 8 = .ok (.ifCond .ne 13, 3) := by decide +kernel
theorem dX8_world_11 : decode cX8_world 11 = .ok (.new 67, 3) := by decide +kernel
theorem dX8_world_14 : decode cX8_world 14 = .ok (.dup, 1) := by decide +kernel
theorem dX8_world_15 : decode cX8_world 15 = .ok (.ldc 182, 2) := by decide +kernel
theorem dX8_world_17 : decode cX8_world 17 = .ok (.invokespecial 71, 3) := by decide +kernel
theorem dX8_world_20 : decode cX8_world 20 = .ok (.athrow, 1) := by decide +kernel
theorem dX8_world_21 : decode cX8_world 21 = .ok (.aload_n 0, 1) := by decide +kernel
theorem dX8_world_22 : decode cX8_world 22 = .ok (.getfield 33, 3) := by decide +kernel
theorem dX8_world_25 : decode cX8_world 25 = .ok (.invokevirtual 184, 3) := by decide +kernel
theorem dX8_world_28 : decode cX8_world 28 = .ok (.ifCond .le 13, 3) := by decide +kernel
theorem dX8_world_31 : decode cX8_world 31 = .ok (.new 78, 3) := by decide +kernel
theorem dX8_world_34 : decode cX8_world 34 = .ok (.dup, 1) := by decide +kernel
theorem dX8_world_35 : decode cX8_world 35 = .ok (.ldc 187, 2) := by decide +kernel
theorem dX8_world_37 : decode cX8_world 37 = .ok (.invokespecial 82, 3) := by decide +kernel
theorem dX8_world_40 : decode cX8_world 40 = .ok (.athrow, 1) := by decide +kernel
theorem dX8_world_41 : decode cX8_world 41 = .ok (.aload_n 0, 1) := by decide +kernel
theorem dX8_world_42 : decode cX8_world 42 = .ok (.getfield 56, 3) := by decide +kernel
theorem dX8_world_45 : decode cX8_world 45 = .ok (.istore_n 2, 1) := by decide +kernel
theorem dX8_world_46 : decode cX8_world 46 = .ok (.aload_n 0, 1) := by decide +kernel
theorem dX8_world_47 : decode cX8_world 47 = .ok (.iload_n 1, 1) := by decide +kernel
theorem dX8_world_48 : decode cX8_world 48 = .ok (.putfield 56, 3) := by decide +kernel
theorem dX8_world_51 : decode cX8_world 51 = .ok (.iload_n 2, 1) := by decide +kernel
theorem dX8_world_52 : decode cX8_world 52 = .ok (.ireturn, 1) := by decide +kernel
set_option maxRecDepth 20000 in
theorem ggX8_frame_X8_isSeason : GoodIn wsX8_frame wsX8_isSeason := goodIn_r _ [10, 3, 11, 12, 13, 14, 9, 15, 224, 225, 226, 227, 228, 229, 230, 231, 232, 233, 234] (by decide +kernel) (by decide +kernel)
set_option maxRecDepth 20000 in
theorem gX8_frame_X8_isSeason : GoodIn wsX8_frame (wsV RX8 189 RX8 yX8_isSeason wsX8_isSeason) := goodIn_app (goodIn_of _ (by decide +kernel)) ggX8_frame_X8_isSeason
set_option maxRecDepth 20000 in
theorem ggX8_frame_X0_hasFrameOf : GoodIn wsX8_frame wsX0_hasFrameOf := goodIn_r _ [20, 21, 22, 23, 24, 25, 26, 27, 28, 29, 30, 19, 31, 32, 33, 34, 35, 36, 37, 38, 39, 40, 41, 42, 43, 44, 45, 46, 47, 48, 49, 235, 236, 237, 238, 239, 240, 241, 242] (by decide +kernel) (by decide +kernel)
set_option maxRecDepth 20000 in
theorem gX8_frame_X0_hasFrameOf : GoodIn wsX8_frame (wsV RX8 192 RX0 yX0_hasFrameOf wsX0_hasFrameOf) := goodIn_app (goodIn_of _ (by decide +kernel)) ggX8_frame_X0_hasFrameOf
set_option maxRecDepth 20000 in
theorem ggX8_frame_X0_isFull : GoodIn wsX8_frame wsX0_isFull := goodIn_r _ [53, 21, 22, 23, 24, 25, 26, 27, 235, 236, 237, 240, 241, 242] (by decide +kernel) (by decide +kernel)
set_option maxRecDepth 20000 in
theorem gX8_frame_X0_isFull : GoodIn wsX8_frame (wsV RX8 195 RX0 yX0_isFull wsX0_isFull) := goodIn_app (goodIn_of _ (by decide +kernel)) ggX8_frame_X0_isFull
set_option maxRecDepth 20000 in
theorem ggX8_frame_X8_framedSky : GoodIn wsX8_frame wsX8_framedSky := goodIn_r _ [57, 58, 59, 60, 3, 61, 62, 63, 64, 65, 66, 67, 68, 69, 70, 71, 72, 73, 74, 75, 76, 77, 78, 79, 80, 23, 24, 25, 26, 27, 81, 34, 35, 36, 37, 38, 39, 40, 41, 42, 43, 44, 45, 46, 47, 48, 49, 82, 83, 84, 85, 86, 87, 88, 89, 90, 9, 91, 92, 93, 94, 95, 96, 97, 98, 99, 100, 101, 102, 103, 104, 105, 106, 107, 108, 109, 110, 111, 112, 113, 114, 115, 116, 117, 118, 119, 120, 121, 122, 123, 124, 125, 126, 127, 128, 129, 130, 131, 132, 133, 134, 135, 136, 137, 138, 139, 140, 141, 142, 143, 144, 145, 146, 147, 148, 149, 150, 151, 152, 153, 154, 155, 156, 157, 158, 159, 160, 161, 162, 163, 164, 165, 166, 167, 168, 169, 170, 171, 172, 14, 15, 238, 239, 224, 225, 226, 227, 228, 229, 230, 231, 232, 233, 234, 240, 241, 242, 243, 244, 245, 246, 247, 248, 249, 250, 251, 252, 253, 254, 255, 256, 257, 258, 259] (by decide +kernel) (by decide +kernel)
set_option maxRecDepth 20000 in
theorem gX8_frame_X8_framedSky : GoodIn wsX8_frame (wsV RX8 198 RX8 yX8_framedSky wsX8_framedSky) := goodIn_app (goodIn_of _ (by decide +kernel)) ggX8_frame_X8_framedSky
set_option maxRecDepth 20000 in
theorem ggX8_frame_X0_add : GoodIn wsX8_frame wsX0_add := goodIn_r _ [176, 21, 177, 178, 179, 25, 180, 181, 182, 49, 27, 183, 184, 185, 186, 187, 188, 189, 190, 191, 192, 193, 194, 195, 196, 133, 65, 134, 197, 198, 199, 200, 201, 202, 203, 204, 205, 206, 207, 208, 78, 209, 210, 211, 212, 213, 214, 215, 216, 217, 218, 219, 64, 66, 220, 221, 222, 223, 22, 23, 24, 26, 235, 236, 237, 240, 241, 242] (by decide +kernel) (by decide +kernel)
set_option maxRecDepth 20000 in
theorem gX8_frame_X0_add : GoodIn wsX8_frame (wsV RX8 202 RX0 yX0_add wsX0_add) := goodIn_app (goodIn_of _ (by decide +kernel)) ggX8_frame_X0_add
theorem dX8_frame_0 : decode cX8_frame 0 = .ok (.aload_n 0, 1) := by decide +kernel
theorem dX8_frame_1 : decode cX8_frame 1 = .ok (.invokevirtual 189, 3) := by decide +kernel
theorem dX8_frame_4 : decode cX8_frame 4 = .ok (.ifCond .eq 38, 3) := by decide +kernel
theorem dX8_frame_7 : decode cX8_frame 7 = .ok (.aload_n 0, 1) := by decide +kernel
theorem dX8_frame_8 : decode cX8_frame 8 = .ok (.getfield 44, 3) := by decide +kernel
theorem dX8_frame_11 : decode cX8_frame 11 = .ok (.aload_n 0, 1) := by decide +kernel
theorem dX8_frame_12 : decode cX8_frame 12 = .ok (.getfield 53, 3) := by decide +kernel
theorem dX8_frame_15 : decode cX8_frame 15 = .ok (.if_icmp .lt 27, 3) := by decide +kernel
theorem dX8_frame_18 : decode cX8_frame 18 = .ok (.aload_n 0, 1) := by decide +kernel
theorem dX8_frame_19 : decode cX8_frame 19 = .ok (.getfield 33, 3) := by decide +kernel
theorem dX8_frame_22 : decode cX8_frame 22 = .ok (.aload_n 0, 1) := by decide +kernel
theorem dX8_frame_23 : decode cX8_frame 23 = .ok (.getfield 44, 3) := by decide +kernel
theorem dX8_frame_26 : decode cX8_frame 26 = .ok (.invokevirtual 192, 3) := by decide +kernel
theorem dX8_frame_29 : decode cX8_frame 29 = .ok (.ifCond .ne 13, 3) := by decide +kernel
theorem dX8_frame_32 : decode cX8_frame 32 = .ok (.aload_n 0, 1) := by decide +kernel
theorem dX8_frame_33 : decode cX8_frame 33 = .ok (.getfield 33, 3) := by decide +kernel
theorem dX8_frame_36 : decode cX8_frame 36 = .ok (.invokevirtual 195, 3) := by decide +kernel
theorem dX8_frame_39 : decode cX8_frame 39 = .ok (.ifCond .eq 13, 3) := by decide +kernel
theorem dX8_frame_42 : decode cX8_frame 42 = .ok (.new 78, 3) := by decide +kernel
theorem dX8_frame_45 : decode cX8_frame 45 = .ok (.dup, 1) := by decide +kernel
theorem dX8_frame_46 : decode cX8_frame 46 = .ok (.ldc 196, 2) := by decide +kernel
theorem dX8_frame_48 : decode cX8_frame 48 = .ok (.invokespecial 82, 3) := by decide +kernel
theorem dX8_frame_51 : decode cX8_frame 51 = .ok (.athrow, 1) := by decide +kernel
theorem dX8_frame_52 : decode cX8_frame 52 = .ok (.aload_n 0, 1) := by decide +kernel
theorem dX8_frame_53 : decode cX8_frame 53 = .ok (.getfield 33, 3) := by decide +kernel
theorem dX8_frame_56 : decode cX8_frame 56 = .ok (.aload_n 0, 1) := by decide +kernel
theorem dX8_frame_57 : decode cX8_frame 57 = .ok (.invokevirtual 198, 3) := by decide +kernel
theorem dX8_frame_60 : decode cX8_frame 60 = .ok (.invokevirtual 202, 3) := by decide +kernel
theorem dX8_frame_63 : decode cX8_frame 63 = .ok (.ireturn, 1) := by decide +kernel
set_option maxRecDepth 20000 in
theorem ggX8_pass_X8_isWithin : GoodIn wsX8_pass wsX8_isWithin := goodIn_r _ [9] (by decide +kernel) (by decide +kernel)
set_option maxRecDepth 20000 in
theorem gX8_pass_X8_isWithin : GoodIn wsX8_pass (va_wsS RX8 59 yX8_isWithin wsX8_isWithin) := goodIn_app (goodIn_of _ (by decide +kernel)) ggX8_pass_X8_isWithin
theorem dX8_pass_0 : decode cX8_pass 0 = .ok (.iload_n 1, 1) := by decide +kernel
theorem dX8_pass_1 : decode cX8_pass 1 = .ok (.iconst 1, 1) := by decide +kernel
theorem dX8_pass_2 : decode cX8_pass 2 = .ok (.bipush 100, 2) := by decide +kernel
theorem dX8_pass_4 : decode cX8_pass 4 = .ok (.invokestatic 59, 3) := by decide +kernel
theorem dX8_pass_7 : decode cX8_pass 7 = .ok (.ifCond .ne 13, 3) := by decide +kernel
theorem dX8_pass_10 : decode cX8_pass 10 = .ok (.new 67, 3) := by decide +kernel
theorem dX8_pass_13 : decode cX8_pass 13 = .ok (.dup, 1) := by decide +kernel
theorem dX8_pass_14 : decode cX8_pass 14 = .ok (.ldc 180, 2) := by decide +kernel
theorem dX8_pass_16 : decode cX8_pass 16 = .ok (.invokespecial 71, 3) := by decide +kernel
theorem dX8_pass_19 : decode cX8_pass 19 = .ok (.athrow, 1) := by decide +kernel
theorem dX8_pass_20 : decode cX8_pass 20 = .ok (.aload_n 0, 1) := by decide +kernel
theorem dX8_pass_21 : decode cX8_pass 21 = .ok (.getfield 44, 3) := by decide +kernel
theorem dX8_pass_24 : decode cX8_pass 24 = .ok (.iload_n 1, 1) := by decide +kernel
theorem dX8_pass_25 : decode cX8_pass 25 = .ok (.iadd, 1) := by decide +kernel
theorem dX8_pass_26 : decode cX8_pass 26 = .ok (.sipush 2000, 3) := by decide +kernel
theorem dX8_pass_29 : decode cX8_pass 29 = .ok (.if_icmp .le 13, 3) := by decide +kernel
theorem dX8_pass_32 : decode cX8_pass 32 = .ok (.new 78, 3) := by decide +kernel
theorem dX8_pass_35 : decode cX8_pass 35 = .ok (.dup, 1) := by decide +kernel
theorem dX8_pass_36 : decode cX8_pass 36 = .ok (.ldc 205, 2) := by decide +kernel
theorem dX8_pass_38 : decode cX8_pass 38 = .ok (.invokespecial 82, 3) := by decide +kernel
theorem dX8_pass_41 : decode cX8_pass 41 = .ok (.athrow, 1) := by decide +kernel
theorem dX8_pass_42 : decode cX8_pass 42 = .ok (.aload_n 0, 1) := by decide +kernel
theorem dX8_pass_43 : decode cX8_pass 43 = .ok (.dup, 1) := by decide +kernel
theorem dX8_pass_44 : decode cX8_pass 44 = .ok (.getfield 44, 3) := by decide +kernel
theorem dX8_pass_47 : decode cX8_pass 47 = .ok (.iload_n 1, 1) := by decide +kernel
theorem dX8_pass_48 : decode cX8_pass 48 = .ok (.iadd, 1) := by decide +kernel
theorem dX8_pass_49 : decode cX8_pass 49 = .ok (.putfield 44, 3) := by decide +kernel
theorem dX8_pass_52 : decode cX8_pass 52 = .ok (.aload_n 0, 1) := by decide +kernel
theorem dX8_pass_53 : decode cX8_pass 53 = .ok (.getfield 44, 3) := by decide +kernel
theorem dX8_pass_56 : decode cX8_pass 56 = .ok (.ireturn, 1) := by decide +kernel
set_option maxRecDepth 20000 in
theorem ggX8_book_X8_sourceAt : GoodIn wsX8_book wsX8_sourceAt := goodIn_r _ [11, 12, 13, 14, 15, 16, 17, 18, 19, 20, 21, 22, 23, 24, 25, 26, 27, 28, 29, 30, 31, 32, 33, 34, 35, 36, 147, 148, 149, 150, 151, 152, 153, 154, 155, 156, 157, 158, 159, 160] (by decide +kernel) (by decide +kernel)
set_option maxRecDepth 20000 in
theorem gX8_book_X8_sourceAt : GoodIn wsX8_book (wsV RX8 138 RX8 yX8_sourceAt wsX8_sourceAt) := goodIn_app (goodIn_of _ (by decide +kernel)) ggX8_book_X8_sourceAt
set_option maxRecDepth 20000 in
theorem ggX8_book_X1_hasHouse : GoodIn wsX8_book wsX1_hasHouse := goodIn_r _ [41] (by decide +kernel) (by decide +kernel)
set_option maxRecDepth 20000 in
theorem gX8_book_X1_hasHouse : GoodIn wsX8_book (wsV RX8 207 RX1 yX1_hasHouse wsX1_hasHouse) := goodIn_app (goodIn_of _ (by decide +kernel)) ggX8_book_X1_hasHouse
set_option maxRecDepth 20000 in
theorem ggX8_book_X8_areImages : GoodIn wsX8_book wsX8_areImages := goodIn_r _ [44, 45, 46, 47, 48, 49, 50, 161, 162, 163, 164, 165, 166, 167] (by decide +kernel) (by decide +kernel)
set_option maxRecDepth 20000 in
theorem gX8_book_X8_areImages : GoodIn wsX8_book (va_wsS RX8 210 yX8_areImages wsX8_areImages) := goodIn_app (goodIn_of _ (by decide +kernel)) ggX8_book_X8_areImages
set_option maxRecDepth 20000 in
theorem ggX8_book_X8_measuredDays : GoodIn wsX8_book wsX8_measuredDays := goodIn_r _ [54, 55, 56, 57, 58, 59, 7, 8, 9, 10, 11, 12, 13, 14, 15, 16, 17, 18, 19, 20, 21, 22, 23, 24, 25, 26, 27, 28, 29, 30, 31, 32, 33, 34, 35, 36, 60, 61, 62, 63, 6, 64, 65, 66, 48, 67, 68, 69, 46, 47, 49, 50, 70, 71, 72, 73, 74, 75, 76, 77, 78, 79, 80, 81, 82, 83, 84, 85, 86, 87, 88, 89, 90, 91, 92, 93, 94, 95, 96, 97, 98, 99, 100, 101, 102, 103, 104, 105, 106, 107, 108, 109, 110, 111, 112, 113, 114, 115, 116, 117, 118, 119, 120, 121, 122, 123, 147, 148, 149, 150, 151, 152, 153, 154, 155, 156, 157, 158, 159, 160, 161, 162, 163, 164, 165, 166, 167, 168, 169, 170, 171, 172, 173, 174, 175, 176] (by decide +kernel) (by decide +kernel)
set_option maxRecDepth 20000 in
theorem gX8_book_X8_measuredDays : GoodIn wsX8_book (wsV RX8 218 RX8 yX8_measuredDays wsX8_measuredDays) := goodIn_app (goodIn_of _ (by decide +kernel)) ggX8_book_X8_measuredDays
set_option maxRecDepth 20000 in
theorem ggX8_book_X8_wayOf : GoodIn wsX8_book wsX8_wayOf := goodIn_r _ [127, 6, 64, 65, 66, 48, 67, 68, 69, 46, 47, 49, 50, 128, 129, 130, 73, 131, 132, 81, 82, 83, 84, 79, 147, 148, 149, 150, 151, 152, 153, 154, 155, 156, 157, 161, 162, 163, 164, 165, 166, 167, 168, 169, 170, 171] (by decide +kernel) (by decide +kernel)
set_option maxRecDepth 20000 in
theorem gX8_book_X8_wayOf : GoodIn wsX8_book (wsV RX8 222 RX8 yX8_wayOf wsX8_wayOf) := goodIn_app (goodIn_of _ (by decide +kernel)) ggX8_book_X8_wayOf
set_option maxRecDepth 20000 in
theorem ggX8_book_X5_count : GoodIn wsX8_book wsX5_count := goodIn_r _ [136, 137, 138, 15, 16, 17, 18, 19, 168, 169, 170, 171, 158, 159, 160] (by decide +kernel) (by decide +kernel)
set_option maxRecDepth 20000 in
theorem gX8_book_X5_count : GoodIn wsX8_book (wsV RX8 226 RX5 yX5_count wsX5_count) := goodIn_app (goodIn_of _ (by decide +kernel)) ggX8_book_X5_count
set_option maxRecDepth 20000 in
theorem ggX8_book_X1_add : GoodIn wsX8_book wsX1_add := goodIn_r _ [142, 143, 144, 145, 146, 38, 39, 40, 41, 177, 178, 179, 180, 181] (by decide +kernel) (by decide +kernel)
set_option maxRecDepth 20000 in
theorem gX8_book_X1_add : GoodIn wsX8_book (wsV RX8 227 RX1 yX1_add wsX1_add) := goodIn_app (goodIn_of _ (by decide +kernel)) ggX8_book_X1_add
theorem dX8_book_0 : decode cX8_book 0 = .ok (.aload_n 0, 1) := by decide +kernel
theorem dX8_book_1 : decode cX8_book 1 = .ok (.iload_n 2, 1) := by decide +kernel
theorem dX8_book_2 : decode cX8_book 2 = .ok (.invokevirtual 138, 3) := by decide +kernel
theorem dX8_book_5 : decode cX8_book 5 = .ok (.astore 5, 2) := by decide +kernel
theorem dX8_book_7 : decode cX8_book 7 = .ok (.aload_n 0, 1) := by decide +kernel
theorem dX8_book_8 : decode cX8_book 8 = .ok (.getfield 40, 3) := by decide +kernel
theorem dX8_book_11 : decode cX8_book 11 = .ok (.iload_n 1, 1) := by decide +kernel
theorem dX8_book_12 : decode cX8_book 12 = .ok (.invokevirtual 207, 3) := by decide +kernel
theorem dX8_book_15 : decode cX8_book 15 = .ok (.ifCond .eq 14, 3) := by decide +kernel
theorem dX8_book_18 : decode cX8_book 18 = .ok (.aload 5, 2) := by decide +kernel
theorem dX8_book_20 : decode cX8_book 20 = .ok (.iload_n 3, 1) := by decide +kernel
theorem dX8_book_21 : decode cX8_book 21 = .ok (.iload 4, 2) := by decide +kernel
theorem dX8_book_23 : decode cX8_book 23 = .ok (.invokestatic 210, 3) := by decide +kernel
theorem dX8_book_26 : decode cX8_book 26 = .ok (.ifCond .ne 13, 3) := by decide +kernel
theorem dX8_book_29 : decode cX8_book 29 = .ok (.new 99, 3) := by decide +kernel
theorem dX8_book_32 : decode cX8_book 32 = .ok (.dup, 1) := by decide +kernel
theorem dX8_book_33 : decode cX8_book 33 = .ok (.ldc 214, 2) := by decide +kernel
theorem dX8_book_35 : decode cX8_book 35 = .ok (.invokespecial 103, 3) := by decide +kernel
theorem dX8_book_38 : decode cX8_book 38 = .ok (.athrow, 1) := by decide +kernel
theorem dX8_book_39 : decode cX8_book 39 = .ok (.iload_n 3, 1) := by decide +kernel
theorem dX8_book_40 : decode cX8_book 40 = .ok (.iload 4, 2) := by decide +kernel
theorem dX8_book_42 : decode cX8_book 42 = .ok (.if_icmp .ne 13, 3) := by decide +kernel
theorem dX8_book_45 : decode cX8_book 45 = .ok (.new 67, 3) := by decide +kernel
theorem dX8_book_48 : decode cX8_book 48 = .ok (.dup, 1) := by decide +kernel
theorem dX8_book_49 : decode cX8_book 49 = .ok (.ldc 216, 2) := by decide +kernel
theorem dX8_book_51 : decode cX8_book 51 = .ok (.invokespecial 71, 3) := by decide +kernel
theorem dX8_book_54 : decode cX8_book 54 = .ok (.athrow, 1) := by decide +kernel
theorem dX8_book_55 : decode cX8_book 55 = .ok (.aload_n 0, 1) := by decide +kernel
theorem dX8_book_56 : decode cX8_book 56 = .ok (.iload_n 2, 1) := by decide +kernel
theorem dX8_book_57 : decode cX8_book 57 = .ok (.iload_n 3, 1) := by decide +kernel
theorem dX8_book_58 : decode cX8_book 58 = .ok (.iload 4, 2) := by decide +kernel
theorem dX8_book_60 : decode cX8_book 60 = .ok (.invokevirtual 218, 3) := by decide +kernel
theorem dX8_book_63 : decode cX8_book 63 = .ok (.istore 6, 2) := by decide +kernel
theorem dX8_book_65 : decode cX8_book 65 = .ok (.aload_n 0, 1) := by decide +kernel
theorem dX8_book_66 : decode cX8_book 66 = .ok (.aload 5, 2) := by decide +kernel
theorem dX8_book_68 : decode cX8_book 68 = .ok (.iload 4, 2) := by decide +kernel
theorem dX8_book_70 : decode cX8_book 70 = .ok (.invokevirtual 222, 3) := by decide +kernel
theorem dX8_book_73 : decode cX8_book 73 = .ok (.aload_n 0, 1) := by decide +kernel
theorem dX8_book_74 : decode cX8_book 74 = .ok (.aload 5, 2) := by decide +kernel
theorem dX8_book_76 : decode cX8_book 76 = .ok (.iload_n 3, 1) := by decide +kernel
theorem dX8_book_77 : decode cX8_book 77 = .ok (.invokevirtual 222, 3) := by decide +kernel
theorem dX8_book_80 : decode cX8_book 80 = .ok (.isub, 1) := by decide +kernel
theorem dX8_book_81 : decode cX8_book 81 = .ok (.istore 7, 2) := by decide +kernel
theorem dX8_book_83 : decode cX8_book 83 = .ok (.iload 6, 2) := by decide +kernel
theorem dX8_book_85 : decode cX8_book 85 = .ok (.ifCond .le 8, 3) := by decide +kernel
theorem dX8_book_88 : decode cX8_book 88 = .ok (.iload 7, 2) := by decide +kernel
theorem dX8_book_90 : decode cX8_book 90 = .ok (.ifCond .gt 7, 3) := by decide +kernel
theorem dX8_book_93 : decode cX8_book 93 = .ok (.iconst (-1), 1) := by decide +kernel
theorem dX8_book_94 : decode cX8_book 94 = .ok (.goto 11, 3) := by decide +kernel
theorem dX8_book_97 : decode cX8_book 97 = .ok (.iload 7, 2) := by decide +kernel
theorem dX8_book_99 : decode cX8_book 99 = .ok (.bipush 20, 2) := by decide +kernel
theorem dX8_book_101 : decode cX8_book 101 = .ok (.imul, 1) := by decide +kernel
theorem dX8_book_102 : decode cX8_book 102 = .ok (.iload 6, 2) := by decide +kernel
theorem dX8_book_104 : decode cX8_book 104 = .ok (.idiv, 1) := by decide +kernel
theorem dX8_book_105 : decode cX8_book 105 = .ok (.istore 8, 2) := by decide +kernel
theorem dX8_book_107 : decode cX8_book 107 = .ok (.aload_n 0, 1) := by decide +kernel
theorem dX8_book_108 : decode cX8_book 108 = .ok (.getfield 40, 3) := by decide +kernel
theorem dX8_book_111 : decode cX8_book 111 = .ok (.iload_n 1, 1) := by decide +kernel
theorem dX8_book_112 : decode cX8_book 112 = .ok (.iload 8, 2) := by decide +kernel
theorem dX8_book_114 : decode cX8_book 114 = .ok (.aload_n 0, 1) := by decide +kernel
theorem dX8_book_115 : decode cX8_book 115 = .ok (.getfield 12, 3) := by decide +kernel
