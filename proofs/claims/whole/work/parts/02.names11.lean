theorem dX9_flare_50 : decode cX9_flare 50 = .ok (.aload_n 0, 1) := by decide +kernel
theorem dX9_flare_51 : decode cX9_flare 51 = .ok (.getfield 40, 3) := by decide +kernel
theorem dX9_flare_54 : decode cX9_flare 54 = .ok (.aload_n 0, 1) := by decide +kernel
theorem dX9_flare_55 : decode cX9_flare 55 = .ok (.getfield 161, 3) := by decide +kernel
theorem dX9_flare_58 : decode cX9_flare 58 = .ok (.iload_n 1, 1) := by decide +kernel
theorem dX9_flare_59 : decode cX9_flare 59 = .ok (.iastore, 1) := by decide +kernel
theorem dX9_flare_60 : decode cX9_flare 60 = .ok (.aload_n 0, 1) := by decide +kernel
theorem dX9_flare_61 : decode cX9_flare 61 = .ok (.getfield 43, 3) := by decide +kernel
theorem dX9_flare_64 : decode cX9_flare 64 = .ok (.aload_n 0, 1) := by decide +kernel
theorem dX9_flare_65 : decode cX9_flare 65 = .ok (.getfield 161, 3) := by decide +kernel
theorem dX9_flare_68 : decode cX9_flare 68 = .ok (.aload_n 0, 1) := by decide +kernel
theorem dX9_flare_69 : decode cX9_flare 69 = .ok (.getfield 167, 3) := by decide +kernel
theorem dX9_flare_72 : decode cX9_flare 72 = .ok (.iastore, 1) := by decide +kernel
theorem dX9_flare_73 : decode cX9_flare 73 = .ok (.aload_n 0, 1) := by decide +kernel
theorem dX9_flare_74 : decode cX9_flare 74 = .ok (.getfield 46, 3) := by decide +kernel
theorem dX9_flare_77 : decode cX9_flare 77 = .ok (.aload_n 0, 1) := by decide +kernel
theorem dX9_flare_78 : decode cX9_flare 78 = .ok (.getfield 161, 3) := by decide +kernel
theorem dX9_flare_81 : decode cX9_flare 81 = .ok (.iload_n 2, 1) := by decide +kernel
theorem dX9_flare_82 : decode cX9_flare 82 = .ok (.iastore, 1) := by decide +kernel
theorem dX9_flare_83 : decode cX9_flare 83 = .ok (.aload_n 0, 1) := by decide +kernel
theorem dX9_flare_84 : decode cX9_flare 84 = .ok (.dup, 1) := by decide +kernel
theorem dX9_flare_85 : decode cX9_flare 85 = .ok (.getfield 161, 3) := by decide +kernel
theorem dX9_flare_88 : decode cX9_flare 88 = .ok (.iconst 1, 1) := by decide +kernel
theorem dX9_flare_89 : decode cX9_flare 89 = .ok (.iadd, 1) := by decide +kernel
theorem dX9_flare_90 : decode cX9_flare 90 = .ok (.putfield 161, 3) := by decide +kernel
theorem dX9_flare_93 : decode cX9_flare 93 = .ok (.aload_n 0, 1) := by decide +kernel
theorem dX9_flare_94 : decode cX9_flare 94 = .ok (.iload_n 1, 1) := by decide +kernel
theorem dX9_flare_95 : decode cX9_flare 95 = .ok (.aload_n 0, 1) := by decide +kernel
theorem dX9_flare_96 : decode cX9_flare 96 = .ok (.getfield 167, 3) := by decide +kernel
theorem dX9_flare_99 : decode cX9_flare 99 = .ok (.invokevirtual 173, 3) := by decide +kernel
theorem dX9_flare_102 : decode cX9_flare 102 = .ok (.ireturn, 1) := by decide +kernel
set_option maxRecDepth 20000 in
theorem ggX9_cross_X9_isImage : GoodIn wsX9_cross wsX9_isImage := goodIn_r _ [12, 13, 14, 15, 16, 11, 17, 18, 19, 20, 21, 22, 23, 24, 25, 26, 27, 28, 29, 30, 31, 32, 33, 34, 35, 36, 37, 38, 39, 40, 41, 42, 43, 44, 45, 46, 52, 53, 54, 55, 56, 57, 58, 59, 60, 61, 62, 63, 64, 65, 66, 67, 68, 69, 70, 71, 72, 73, 74, 75, 76, 77, 78, 79, 80, 81, 82, 83, 84, 85, 86, 87, 88, 89, 90] (by decide +kernel) (by decide +kernel)
set_option maxRecDepth 20000 in
theorem gX9_cross_X9_isImage : GoodIn wsX9_cross (wsV RX9 176 RX9 yX9_isImage wsX9_isImage) := goodIn_app (goodIn_of _ (by decide +kernel)) ggX9_cross_X9_isImage
set_option maxRecDepth 20000 in
theorem ggX9_cross_X9_in : GoodIn wsX9_cross wsX9_in := goodIn_r _ [21] (by decide +kernel) (by decide +kernel)
set_option maxRecDepth 20000 in
theorem gX9_cross_X9_in : GoodIn wsX9_cross (va_wsS RX9 96 yX9_in wsX9_in) := goodIn_app (goodIn_of _ (by decide +kernel)) ggX9_cross_X9_in
set_option maxRecDepth 20000 in
theorem ggX9_cross_X9_refused : GoodIn wsX9_cross wsX9_refused := goodIn_r _ [50, 51, 52, 53, 54, 55, 56, 57, 58, 59, 60, 61, 62, 63, 64, 65, 66, 67, 68, 69, 70, 71, 72, 73, 74, 75, 76, 77, 78, 79, 80, 81, 82, 83, 84, 85, 86, 87, 88, 89, 90] (by decide +kernel) (by decide +kernel)
set_option maxRecDepth 20000 in
theorem gX9_cross_X9_refused : GoodIn wsX9_cross (wsV RX9 131 RX9 yX9_refused wsX9_refused) := goodIn_app (goodIn_of _ (by decide +kernel)) ggX9_cross_X9_refused
theorem dX9_cross_0 : decode cX9_cross 0 = .ok (.aload_n 0, 1) := by decide +kernel
theorem dX9_cross_1 : decode cX9_cross 1 = .ok (.iload_n 1, 1) := by decide +kernel
theorem dX9_cross_2 : decode cX9_cross 2 = .ok (.iload_n 2, 1) := by decide +kernel
theorem dX9_cross_3 : decode cX9_cross 3 = .ok (.invokevirtual 176, 3) := by decide +kernel
theorem dX9_cross_6 : decode cX9_cross 6 = .ok (.istore 5, 2) := by decide +kernel
theorem dX9_cross_8 : decode cX9_cross 8 = .ok (.iload_n 3, 1) := by decide +kernel
theorem dX9_cross_9 : decode cX9_cross 9 = .ok (.iconst 1, 1) := by decide +kernel
theorem dX9_cross_10 : decode cX9_cross 10 = .ok (.bipush 50, 2) := by decide +kernel
theorem dX9_cross_12 : decode cX9_cross 12 = .ok (.invokestatic 96, 3) := by decide +kernel
theorem dX9_cross_15 : decode cX9_cross 15 = .ok (.ifCond .eq 19, 3) := by decide +kernel
theorem dX9_cross_18 : decode cX9_cross 18 = .ok (.iload 4, 2) := by decide +kernel
theorem dX9_cross_20 : decode cX9_cross 20 = .ok (.iconst 1, 1) := by decide +kernel
theorem dX9_cross_21 : decode cX9_cross 21 = .ok (.sipush 1000, 3) := by decide +kernel
theorem dX9_cross_24 : decode cX9_cross 24 = .ok (.invokestatic 96, 3) := by decide +kernel
theorem dX9_cross_27 : decode cX9_cross 27 = .ok (.ifCond .eq 7, 3) := by decide +kernel
theorem dX9_cross_30 : decode cX9_cross 30 = .ok (.iconst 1, 1) := by decide +kernel
theorem dX9_cross_31 : decode cX9_cross 31 = .ok (.goto 4, 3) := by decide +kernel
theorem dX9_cross_34 : decode cX9_cross 34 = .ok (.iconst 0, 1) := by decide +kernel
theorem dX9_cross_35 : decode cX9_cross 35 = .ok (.istore 6, 2) := by decide +kernel
theorem dX9_cross_37 : decode cX9_cross 37 = .ok (.aload_n 0, 1) := by decide +kernel
theorem dX9_cross_38 : decode cX9_cross 38 = .ok (.iload 5, 2) := by decide +kernel
theorem dX9_cross_40 : decode cX9_cross 40 = .ok (.ifCond .ne 7, 3) := by decide +kernel
theorem dX9_cross_43 : decode cX9_cross 43 = .ok (.iconst 1, 1) := by decide +kernel
theorem dX9_cross_44 : decode cX9_cross 44 = .ok (.goto 26, 3) := by decide +kernel
theorem dX9_cross_47 : decode cX9_cross 47 = .ok (.iload 6, 2) := by decide +kernel
theorem dX9_cross_49 : decode cX9_cross 49 = .ok (.ifCond .ne 7, 3) := by decide +kernel
theorem dX9_cross_52 : decode cX9_cross 52 = .ok (.iconst 2, 1) := by decide +kernel
theorem dX9_cross_53 : decode cX9_cross 53 = .ok (.goto 17, 3) := by decide +kernel
theorem dX9_cross_56 : decode cX9_cross 56 = .ok (.aload_n 0, 1) := by decide +kernel
theorem dX9_cross_57 : decode cX9_cross 57 = .ok (.getfield 121, 3) := by decide +kernel
theorem dX9_cross_60 : decode cX9_cross 60 = .ok (.bipush 20, 2) := by decide +kernel
theorem dX9_cross_62 : decode cX9_cross 62 = .ok (.if_icmp .ne 7, 3) := by decide +kernel
theorem dX9_cross_65 : decode cX9_cross 65 = .ok (.iconst 3, 1) := by decide +kernel
theorem dX9_cross_66 : decode cX9_cross 66 = .ok (.goto 4, 3) := by decide +kernel
theorem dX9_cross_69 : decode cX9_cross 69 = .ok (.iconst 0, 1) := by decide +kernel
theorem dX9_cross_70 : decode cX9_cross 70 = .ok (.invokevirtual 131, 3) := by decide +kernel
theorem dX9_cross_73 : decode cX9_cross 73 = .ok (.ifCond .eq 4, 3) := by decide +kernel
theorem dX9_cross_76 : decode cX9_cross 76 = .ok (.return_, 1) := by decide +kernel
theorem dX9_cross_77 : decode cX9_cross 77 = .ok (.aload_n 0, 1) := by decide +kernel
theorem dX9_cross_78 : decode cX9_cross 78 = .ok (.getfield 49, 3) := by decide +kernel
theorem dX9_cross_81 : decode cX9_cross 81 = .ok (.aload_n 0, 1) := by decide +kernel
theorem dX9_cross_82 : decode cX9_cross 82 = .ok (.getfield 121, 3) := by decide +kernel
theorem dX9_cross_85 : decode cX9_cross 85 = .ok (.iload_n 1, 1) := by decide +kernel
theorem dX9_cross_86 : decode cX9_cross 86 = .ok (.iastore, 1) := by decide +kernel
theorem dX9_cross_87 : decode cX9_cross 87 = .ok (.aload_n 0, 1) := by decide +kernel
theorem dX9_cross_88 : decode cX9_cross 88 = .ok (.getfield 52, 3) := by decide +kernel
theorem dX9_cross_91 : decode cX9_cross 91 = .ok (.aload_n 0, 1) := by decide +kernel
theorem dX9_cross_92 : decode cX9_cross 92 = .ok (.getfield 121, 3) := by decide +kernel
theorem dX9_cross_95 : decode cX9_cross 95 = .ok (.iload_n 2, 1) := by decide +kernel
theorem dX9_cross_96 : decode cX9_cross 96 = .ok (.iastore, 1) := by decide +kernel
theorem dX9_cross_97 : decode cX9_cross 97 = .ok (.aload_n 0, 1) := by decide +kernel
theorem dX9_cross_98 : decode cX9_cross 98 = .ok (.getfield 55, 3) := by decide +kernel
theorem dX9_cross_101 : decode cX9_cross 101 = .ok (.aload_n 0, 1) := by decide +kernel
theorem dX9_cross_102 : decode cX9_cross 102 = .ok (.getfield 121, 3) := by decide +kernel
theorem dX9_cross_105 : decode cX9_cross 105 = .ok (.aload_n 0, 1) := by decide +kernel
theorem dX9_cross_106 : decode cX9_cross 106 = .ok (.getfield 167, 3) := by decide +kernel
theorem dX9_cross_109 : decode cX9_cross 109 = .ok (.iastore, 1) := by decide +kernel
theorem dX9_cross_110 : decode cX9_cross 110 = .ok (.aload_n 0, 1) := by decide +kernel
theorem dX9_cross_111 : decode cX9_cross 111 = .ok (.getfield 58, 3) := by decide +kernel
theorem dX9_cross_114 : decode cX9_cross 114 = .ok (.aload_n 0, 1) := by decide +kernel
theorem dX9_cross_115 : decode cX9_cross 115 = .ok (.getfield 121, 3) := by decide +kernel
theorem dX9_cross_118 : decode cX9_cross 118 = .ok (.iload_n 3, 1) := by decide +kernel
theorem dX9_cross_119 : decode cX9_cross 119 = .ok (.iastore, 1) := by decide +kernel
theorem dX9_cross_120 : decode cX9_cross 120 = .ok (.aload_n 0, 1) := by decide +kernel
theorem dX9_cross_121 : decode cX9_cross 121 = .ok (.getfield 61, 3) := by decide +kernel
theorem dX9_cross_124 : decode cX9_cross 124 = .ok (.aload_n 0, 1) := by decide +kernel
theorem dX9_cross_125 : decode cX9_cross 125 = .ok (.getfield 121, 3) := by decide +kernel
theorem dX9_cross_128 : decode cX9_cross 128 = .ok (.iload 4, 2) := by decide +kernel
theorem dX9_cross_130 : decode cX9_cross 130 = .ok (.iastore, 1) := by decide +kernel
theorem dX9_cross_131 : decode cX9_cross 131 = .ok (.aload_n 0, 1) := by decide +kernel
theorem dX9_cross_132 : decode cX9_cross 132 = .ok (.dup, 1) := by decide +kernel
theorem dX9_cross_133 : decode cX9_cross 133 = .ok (.getfield 121, 3) := by decide +kernel
theorem dX9_cross_136 : decode cX9_cross 136 = .ok (.iconst 1, 1) := by decide +kernel
theorem dX9_cross_137 : decode cX9_cross 137 = .ok (.iadd, 1) := by decide +kernel
theorem dX9_cross_138 : decode cX9_cross 138 = .ok (.putfield 121, 3) := by decide +kernel
theorem dX9_cross_141 : decode cX9_cross 141 = .ok (.return_, 1) := by decide +kernel
set_option maxRecDepth 20000 in
theorem ggX9_season_X9_in : GoodIn wsX9_season wsX9_in := goodIn_r _ [6] (by decide +kernel) (by decide +kernel)
set_option maxRecDepth 20000 in
theorem gX9_season_X9_in : GoodIn wsX9_season (va_wsS RX9 96 yX9_in wsX9_in) := goodIn_app (goodIn_of _ (by decide +kernel)) ggX9_season_X9_in
set_option maxRecDepth 20000 in
theorem ggX9_season_X9_refused : GoodIn wsX9_season wsX9_refused := goodIn_r _ [10, 11, 12, 13, 14, 15, 16, 17, 18, 19, 20, 21, 22, 23, 24, 25, 26, 27, 28, 29, 30, 31, 32, 33, 34, 35, 36, 37, 38, 39, 40, 41, 42, 43, 44, 45, 46, 47, 48, 49, 50] (by decide +kernel) (by decide +kernel)
set_option maxRecDepth 20000 in
theorem gX9_season_X9_refused : GoodIn wsX9_season (wsV RX9 131 RX9 yX9_refused wsX9_refused) := goodIn_app (goodIn_of _ (by decide +kernel)) ggX9_season_X9_refused
theorem dX9_season_0 : decode cX9_season 0 = .ok (.aload_n 0, 1) := by decide +kernel
theorem dX9_season_1 : decode cX9_season 1 = .ok (.iload_n 1, 1) := by decide +kernel
theorem dX9_season_2 : decode cX9_season 2 = .ok (.iconst 0, 1) := by decide +kernel
theorem dX9_season_3 : decode cX9_season 3 = .ok (.bipush 99, 2) := by decide +kernel
theorem dX9_season_5 : decode cX9_season 5 = .ok (.invokestatic 96, 3) := by decide +kernel
theorem dX9_season_8 : decode cX9_season 8 = .ok (.ifCond .eq 17, 3) := by decide +kernel
theorem dX9_season_11 : decode cX9_season 11 = .ok (.iload_n 2, 1) := by decide +kernel
theorem dX9_season_12 : decode cX9_season 12 = .ok (.iload_n 1, 1) := by decide +kernel
theorem dX9_season_13 : decode cX9_season 13 = .ok (.bipush 99, 2) := by decide +kernel
theorem dX9_season_15 : decode cX9_season 15 = .ok (.invokestatic 96, 3) := by decide +kernel
theorem dX9_season_18 : decode cX9_season 18 = .ok (.ifCond .eq 7, 3) := by decide +kernel
theorem dX9_season_21 : decode cX9_season 21 = .ok (.iconst 0, 1) := by decide +kernel
theorem dX9_season_22 : decode cX9_season 22 = .ok (.goto 4, 3) := by decide +kernel
theorem dX9_season_25 : decode cX9_season 25 = .ok (.iconst 1, 1) := by decide +kernel
theorem dX9_season_26 : decode cX9_season 26 = .ok (.invokevirtual 131, 3) := by decide +kernel
theorem dX9_season_29 : decode cX9_season 29 = .ok (.ifCond .eq 4, 3) := by decide +kernel
theorem dX9_season_32 : decode cX9_season 32 = .ok (.return_, 1) := by decide +kernel
theorem dX9_season_33 : decode cX9_season 33 = .ok (.aload_n 0, 1) := by decide +kernel
theorem dX9_season_34 : decode cX9_season 34 = .ok (.iload_n 1, 1) := by decide +kernel
theorem dX9_season_35 : decode cX9_season 35 = .ok (.putfield 179, 3) := by decide +kernel
theorem dX9_season_38 : decode cX9_season 38 = .ok (.aload_n 0, 1) := by decide +kernel
theorem dX9_season_39 : decode cX9_season 39 = .ok (.iload_n 2, 1) := by decide +kernel
theorem dX9_season_40 : decode cX9_season 40 = .ok (.putfield 64, 3) := by decide +kernel
theorem dX9_season_43 : decode cX9_season 43 = .ok (.return_, 1) := by decide +kernel
set_option maxRecDepth 20000 in
theorem ggX9_cloud_X9_in : GoodIn wsX9_cloud wsX9_in := goodIn_r _ [6] (by decide +kernel) (by decide +kernel)
set_option maxRecDepth 20000 in
theorem gX9_cloud_X9_in : GoodIn wsX9_cloud (va_wsS RX9 96 yX9_in wsX9_in) := goodIn_app (goodIn_of _ (by decide +kernel)) ggX9_cloud_X9_in
set_option maxRecDepth 20000 in
theorem ggX9_cloud_X9_refused : GoodIn wsX9_cloud wsX9_refused := goodIn_r _ [10, 11, 12, 13, 14, 15, 16, 17, 18, 19, 20, 21, 22, 23, 24, 25, 26, 27, 28, 29, 30, 31, 32, 33, 34, 35, 36, 37, 38, 39, 40, 41, 42, 43, 44, 45, 46, 47, 48, 49, 50] (by decide +kernel) (by decide +kernel)
set_option maxRecDepth 20000 in
theorem gX9_cloud_X9_refused : GoodIn wsX9_cloud (wsV RX9 131 RX9 yX9_refused wsX9_refused) := goodIn_app (goodIn_of _ (by decide +kernel)) ggX9_cloud_X9_refused
theorem dX9_cloud_0 : decode cX9_cloud 0 = .ok (.aload_n 0, 1) := by decide +kernel
theorem dX9_cloud_1 : decode cX9_cloud 1 = .ok (.iload_n 1, 1) := by decide +kernel
theorem dX9_cloud_2 : decode cX9_cloud 2 = .ok (.iconst 0, 1) := by decide +kernel
theorem dX9_cloud_3 : decode cX9_cloud 3 = .ok (.bipush 50, 2) := by decide +kernel
theorem dX9_cloud_5 : decode cX9_cloud 5 = .ok (.invokestatic 96, 3) := by decide +kernel
theorem dX9_cloud_8 : decode cX9_cloud 8 = .ok (.ifCond .eq 7, 3) := by decide +kernel
theorem dX9_cloud_11 : decode cX9_cloud 11 = .ok (.iconst 0, 1) := by decide +kernel
theorem dX9_cloud_12 : decode cX9_cloud 12 = .ok (.goto 4, 3) := by decide +kernel
theorem dX9_cloud_15 : decode cX9_cloud 15 = .ok (.iconst 1, 1) := by decide +kernel
theorem dX9_cloud_16 : decode cX9_cloud 16 = .ok (.invokevirtual 131, 3) := by decide +kernel
theorem dX9_cloud_19 : decode cX9_cloud 19 = .ok (.ifCond .eq 5, 3) := by decide +kernel
theorem dX9_cloud_22 : decode cX9_cloud 22 = .ok (.iconst 0, 1) := by decide +kernel
theorem dX9_cloud_23 : decode cX9_cloud 23 = .ok (.ireturn, 1) := by decide +kernel
theorem dX9_cloud_24 : decode cX9_cloud 24 = .ok (.aload_n 0, 1) := by decide +kernel
theorem dX9_cloud_25 : decode cX9_cloud 25 = .ok (.aload_n 0, 1) := by decide +kernel
theorem dX9_cloud_26 : decode cX9_cloud 26 = .ok (.getfield 167, 3) := by decide +kernel
theorem dX9_cloud_29 : decode cX9_cloud 29 = .ok (.iload_n 1, 1) := by decide +kernel
theorem dX9_cloud_30 : decode cX9_cloud 30 = .ok (.iadd, 1) := by decide +kernel
theorem dX9_cloud_31 : decode cX9_cloud 31 = .ok (.putfield 182, 3) := by decide +kernel
theorem dX9_cloud_34 : decode cX9_cloud 34 = .ok (.aload_n 0, 1) := by decide +kernel
theorem dX9_cloud_35 : decode cX9_cloud 35 = .ok (.getfield 182, 3) := by decide +kernel
theorem dX9_cloud_38 : decode cX9_cloud 38 = .ok (.ireturn, 1) := by decide +kernel
set_option maxRecDepth 20000 in
theorem ggX9_world_X9_in : GoodIn wsX9_world wsX9_in := goodIn_r _ [6] (by decide +kernel) (by decide +kernel)
set_option maxRecDepth 20000 in
theorem gX9_world_X9_in : GoodIn wsX9_world (va_wsS RX9 96 yX9_in wsX9_in) := goodIn_app (goodIn_of _ (by decide +kernel)) ggX9_world_X9_in
set_option maxRecDepth 20000 in
theorem ggX9_world_X9_refused : GoodIn wsX9_world wsX9_refused := goodIn_r _ [10, 11, 12, 13, 14, 15, 16, 17, 18, 19, 20, 21, 22, 23, 24, 25, 26, 27, 28, 29, 30, 31, 32, 33, 34, 35, 36, 37, 38, 39, 40, 41, 42, 43, 44, 45, 46, 47, 48, 49, 50] (by decide +kernel) (by decide +kernel)
set_option maxRecDepth 20000 in
theorem gX9_world_X9_refused : GoodIn wsX9_world (wsV RX9 131 RX9 yX9_refused wsX9_refused) := goodIn_app (goodIn_of _ (by decide +kernel)) ggX9_world_X9_refused
theorem dX9_world_0 : decode cX9_world 0 = .ok (.aload_n 0, 1) := by decide +kernel
theorem dX9_world_1 : decode cX9_world 1 = .ok (.iload_n 1, 1) := by decide +kernel
theorem dX9_world_2 : decode cX9_world 2 = .ok (.bipush 40, 2) := by decide +kernel
theorem dX9_world_4 : decode cX9_world 4 = .ok (.bipush 100, 2) := by decide +kernel
theorem dX9_world_6 : decode cX9_world 6 = .ok (.invokestatic 96, 3) := by decide +kernel
theorem dX9_world_9 : decode cX9_world 9 = .ok (.ifCond .ne 7, 3) := by decide +kernel
theorem dX9_world_12 : decode cX9_world 12 = .ok (.iconst 1, 1) := by decide +kernel
theorem dX9_world_13 : decode cX9_world 13 = .ok (.goto 15, 3) := by decide +kernel
theorem dX9_world_16 : decode cX9_world 16 = .ok (.aload_n 0, 1) := by decide +kernel
theorem dX9_world_17 : decode cX9_world 17 = .ok (.getfield 118, 3) := by decide +kernel
theorem dX9_world_20 : decode cX9_world 20 = .ok (.ifCond .le 7, 3) := by decide +kernel
theorem dX9_world_23 : decode cX9_world 23 = .ok (.iconst 2, 1) := by decide +kernel
theorem dX9_world_24 : decode cX9_world 24 = .ok (.goto 4, 3) := by decide +kernel
theorem dX9_world_27 : decode cX9_world 27 = .ok (.iconst 0, 1) := by decide +kernel
theorem dX9_world_28 : decode cX9_world 28 = .ok (.invokevirtual 131, 3) := by decide +kernel
theorem dX9_world_31 : decode cX9_world 31 = .ok (.ifCond .eq 5, 3) := by decide +kernel
theorem dX9_world_34 : decode cX9_world 34 = .ok (.iconst 0, 1) := by decide +kernel
theorem dX9_world_35 : decode cX9_world 35 = .ok (.ireturn, 1) := by decide +kernel
theorem dX9_world_36 : decode cX9_world 36 = .ok (.aload_n 0, 1) := by decide +kernel
theorem dX9_world_37 : decode cX9_world 37 = .ok (.getfield 68, 3) := by decide +kernel
theorem dX9_world_40 : decode cX9_world 40 = .ok (.istore_n 2, 1) := by decide +kernel
theorem dX9_world_41 : decode cX9_world 41 = .ok (.aload_n 0, 1) := by decide +kernel
theorem dX9_world_42 : decode cX9_world 42 = .ok (.iload_n 1, 1) := by decide +kernel
theorem dX9_world_43 : decode cX9_world 43 = .ok (.putfield 68, 3) := by decide +kernel
theorem dX9_world_46 : decode cX9_world 46 = .ok (.iload_n 2, 1) := by decide +kernel
theorem dX9_world_47 : decode cX9_world 47 = .ok (.ireturn, 1) := by decide +kernel
set_option maxRecDepth 20000 in
theorem ggX9_frame_X9_in : GoodIn wsX9_frame wsX9_in := goodIn_r _ [13] (by decide +kernel) (by decide +kernel)
set_option maxRecDepth 20000 in
theorem gX9_frame_X9_in : GoodIn wsX9_frame (va_wsS RX9 96 yX9_in wsX9_in) := goodIn_app (goodIn_of _ (by decide +kernel)) ggX9_frame_X9_in
set_option maxRecDepth 20000 in
theorem ggX9_frame_X9_refused : GoodIn wsX9_frame wsX9_refused := goodIn_r _ [17, 18, 75, 76, 77, 78, 79, 80, 81, 82, 83, 84, 85, 86, 87, 88, 89, 90, 91, 92, 93, 94, 95, 96, 97, 98, 99, 100, 101, 102, 103, 104, 105, 106, 107, 108, 109, 110, 111, 112, 113] (by decide +kernel) (by decide +kernel)
set_option maxRecDepth 20000 in
theorem gX9_frame_X9_refused : GoodIn wsX9_frame (wsV RX9 131 RX9 yX9_refused wsX9_refused) := goodIn_app (goodIn_of _ (by decide +kernel)) ggX9_frame_X9_refused
set_option maxRecDepth 20000 in
theorem ggX9_frame_X9_look : GoodIn wsX9_frame wsX9_look := goodIn_r _ [22, 7, 23, 24, 25, 26, 27, 12, 28, 29, 30, 31, 32, 33, 34, 35, 36, 37, 38, 39, 40, 41, 42, 43, 75, 76, 77, 78, 79, 80, 81, 82, 83, 84, 85, 86, 87, 88, 89, 90, 91, 92, 93, 94, 95, 96, 97, 98, 99, 100, 101, 102, 103, 104, 105, 106, 107, 108, 109, 110, 111, 112, 113] (by decide +kernel) (by decide +kernel)
set_option maxRecDepth 20000 in
theorem gX9_frame_X9_look : GoodIn wsX9_frame (wsV RX9 157 RX9 yX9_look wsX9_look) := goodIn_app (goodIn_of _ (by decide +kernel)) ggX9_frame_X9_look
set_option maxRecDepth 20000 in
theorem ggX9_frame_X9_lightOf : GoodIn wsX9_frame wsX9_lightOf := goodIn_r _ [47, 1, 48, 49, 50, 51, 52, 53, 54, 55, 56, 12, 57, 25, 29, 30, 31, 32, 33, 34, 35, 36, 37, 38, 58, 59, 60, 61, 62, 63, 64, 43, 65, 66, 67, 68, 69, 70, 71, 72, 73, 74, 75, 76, 77, 78, 79, 80, 81, 82, 83, 84, 85, 86, 87, 88, 89, 90, 91, 92, 93, 94, 95, 96, 97, 98, 99, 100, 101, 102, 103, 104, 105, 106, 107, 108, 109, 110, 111, 112, 113] (by decide +kernel) (by decide +kernel)
set_option maxRecDepth 20000 in
theorem gX9_frame_X9_lightOf : GoodIn wsX9_frame (wsV RX9 185 RX9 yX9_lightOf wsX9_lightOf) := goodIn_app (goodIn_of _ (by decide +kernel)) ggX9_frame_X9_lightOf
theorem dX9_frame_0 : decode cX9_frame 0 = .ok (.aload_n 0, 1) := by decide +kernel
theorem dX9_frame_1 : decode cX9_frame 1 = .ok (.getfield 167, 3) := by decide +kernel
theorem dX9_frame_4 : decode cX9_frame 4 = .ok (.bipush 100, 2) := by decide +kernel
theorem dX9_frame_6 : decode cX9_frame 6 = .ok (.irem, 1) := by decide +kernel
theorem dX9_frame_7 : decode cX9_frame 7 = .ok (.aload_n 0, 1) := by decide +kernel
theorem dX9_frame_8 : decode cX9_frame 8 = .ok (.getfield 179, 3) := by decide +kernel
theorem dX9_frame_11 : decode cX9_frame 11 = .ok (.aload_n 0, 1) := by decide +kernel
theorem dX9_frame_12 : decode cX9_frame 12 = .ok (.getfield 64, 3) := by decide +kernel
theorem dX9_frame_15 : decode cX9_frame 15 = .ok (.invokestatic 96, 3) := by decide +kernel
theorem dX9_frame_18 : decode cX9_frame 18 = .ok (.ifCond .eq 52, 3) := by decide +kernel
theorem dX9_frame_21 : decode cX9_frame 21 = .ok (.aload_n 0, 1) := by decide +kernel
theorem dX9_frame_22 : decode cX9_frame 22 = .ok (.getfield 167, 3) := by decide +kernel
theorem dX9_frame_25 : decode cX9_frame 25 = .ok (.aload_n 0, 1) := by decide +kernel
theorem dX9_frame_26 : decode cX9_frame 26 = .ok (.getfield 182, 3) := by decide +kernel
theorem dX9_frame_29 : decode cX9_frame 29 = .ok (.if_icmp .lt 41, 3) := by decide +kernel
theorem dX9_frame_32 : decode cX9_frame 32 = .ok (.aload_n 0, 1) := by decide +kernel
theorem dX9_frame_33 : decode cX9_frame 33 = .ok (.getfield 118, 3) := by decide +kernel
theorem dX9_frame_36 : decode cX9_frame 36 = .ok (.bipush 60, 2) := by decide +kernel
theorem dX9_frame_38 : decode cX9_frame 38 = .ok (.if_icmp .ge 32, 3) := by decide +kernel
theorem dX9_frame_41 : decode cX9_frame 41 = .ok (.aload_n 0, 1) := by decide +kernel
theorem dX9_frame_42 : decode cX9_frame 42 = .ok (.getfield 118, 3) := by decide +kernel
theorem dX9_frame_45 : decode cX9_frame 45 = .ok (.ifCond .eq 21, 3) := by decide +kernel
theorem dX9_frame_48 : decode cX9_frame 48 = .ok (.aload_n 0, 1) := by decide +kernel
theorem dX9_frame_49 : decode cX9_frame 49 = .ok (.getfield 71, 3) := by decide +kernel
theorem dX9_frame_52 : decode cX9_frame 52 = .ok (.aload_n 0, 1) := by decide +kernel
theorem dX9_frame_53 : decode cX9_frame 53 = .ok (.getfield 118, 3) := by decide +kernel
theorem dX9_frame_56 : decode cX9_frame 56 = .ok (.iconst 1, 1) := by decide +kernel
theorem dX9_frame_57 : decode cX9_frame 57 = .ok (.isub, 1) := by decide +kernel
theorem dX9_frame_58 : decode cX9_frame 58 = .ok (.iaload, 1) := by decide +kernel
theorem dX9_frame_59 : decode cX9_frame 59 = .ok (.aload_n 0, 1) := by decide +kernel
theorem dX9_frame_60 : decode cX9_frame 60 = .ok (.getfield 167, 3) := by decide +kernel
theorem dX9_frame_63 : decode cX9_frame 63 = .ok (.if_icmp .ge 7, 3) := by decide +kernel
theorem dX9_frame_66 : decode cX9_frame 66 = .ok (.iconst 1, 1) := by decide +kernel
theorem dX9_frame_67 : decode cX9_frame 67 = .ok (.goto 4, 3) := by decide +kernel
theorem dX9_frame_70 : decode cX9_frame 70 = .ok (.iconst 0, 1) := by decide +kernel
theorem dX9_frame_71 : decode cX9_frame 71 = .ok (.istore_n 1, 1) := by decide +kernel
theorem dX9_frame_72 : decode cX9_frame 72 = .ok (.aload_n 0, 1) := by decide +kernel
theorem dX9_frame_73 : decode cX9_frame 73 = .ok (.iload_n 1, 1) := by decide +kernel
theorem dX9_frame_74 : decode cX9_frame 74 = .ok (.ifCond .eq 7, 3) := by decide +kernel
theorem dX9_frame_77 : decode cX9_frame 77 = .ok (.iconst 0, 1) := by decide +kernel
theorem dX9_frame_78 : decode cX9_frame 78 = .ok (.goto 4, 3) := by decide +kernel
theorem dX9_frame_81 : decode cX9_frame 81 = .ok (.iconst 1, 1) := by decide +kernel
theorem dX9_frame_82 : decode cX9_frame 82 = .ok (.invokevirtual 131, 3) := by decide +kernel
theorem dX9_frame_85 : decode cX9_frame 85 = .ok (.ifCond .eq 5, 3) := by decide +kernel
theorem dX9_frame_88 : decode cX9_frame 88 = .ok (.iconst 0, 1) := by decide +kernel
theorem dX9_frame_89 : decode cX9_frame 89 = .ok (.ireturn, 1) := by decide +kernel
theorem dX9_frame_90 : decode cX9_frame 90 = .ok (.aload_n 0, 1) := by decide +kernel
theorem dX9_frame_91 : decode cX9_frame 91 = .ok (.getfield 71, 3) := by decide +kernel
theorem dX9_frame_94 : decode cX9_frame 94 = .ok (.aload_n 0, 1) := by decide +kernel
theorem dX9_frame_95 : decode cX9_frame 95 = .ok (.getfield 118, 3) := by decide +kernel
theorem dX9_frame_98 : decode cX9_frame 98 = .ok (.aload_n 0, 1) := by decide +kernel
theorem dX9_frame_99 : decode cX9_frame 99 = .ok (.getfield 167, 3) := by decide +kernel
theorem dX9_frame_102 : decode cX9_frame 102 = .ok (.iastore, 1) := by decide +kernel
theorem dX9_frame_103 : decode cX9_frame 103 = .ok (.iconst 0, 1) := by decide +kernel
theorem dX9_frame_104 : decode cX9_frame 104 = .ok (.istore_n 2, 1) := by decide +kernel
theorem dX9_frame_105 : decode cX9_frame 105 = .ok (.iload_n 2, 1) := by decide +kernel
theorem dX9_frame_106 : decode cX9_frame 106 = .ok (.iconst 5, 1) := by decide +kernel
theorem dX9_frame_107 : decode cX9_frame 107 = .ok (.if_icmp .ge 77, 3) := by decide +kernel
theorem dX9_frame_110 : decode cX9_frame 110 = .ok (.aload_n 0, 1) := by decide +kernel
theorem dX9_frame_111 : decode cX9_frame 111 = .ok (.iconst 0, 1) := by decide +kernel
theorem dX9_frame_112 : decode cX9_frame 112 = .ok (.putfield 138, 3) := by decide +kernel
theorem dX9_frame_115 : decode cX9_frame 115 = .ok (.iload_n 2, 1) := by decide +kernel
theorem dX9_frame_116 : decode cX9_frame 116 = .ok (.aload_n 0, 1) := by decide +kernel
theorem dX9_frame_117 : decode cX9_frame 117 = .ok (.getfield 151, 3) := by decide +kernel
theorem dX9_frame_120 : decode cX9_frame 120 = .ok (.if_icmp .ge 8, 3) := by decide +kernel
theorem dX9_frame_123 : decode cX9_frame 123 = .ok (.aload_n 0, 1) := by decide +kernel
theorem dX9_frame_124 : decode cX9_frame 124 = .ok (.iload_n 2, 1) := by decide +kernel
theorem dX9_frame_125 : decode cX9_frame 125 = .ok (.invokevirtual 157, 3) := by decide +kernel
theorem dX9_frame_128 : decode cX9_frame 128 = .ok (.iconst 0, 1) := by decide +kernel
theorem dX9_frame_129 : decode cX9_frame 129 = .ok (.istore_n 3, 1) := by decide +kernel
theorem dX9_frame_130 : decode cX9_frame 130 = .ok (.iload_n 3, 1) := by decide +kernel
theorem dX9_frame_131 : decode cX9_frame 131 = .ok (.bipush 6, 2) := by decide +kernel
theorem dX9_frame_133 : decode cX9_frame 133 = .ok (.if_icmp .ge 45, 3) := by decide +kernel
theorem dX9_frame_136 : decode cX9_frame 136 = .ok (.aload_n 0, 1) := by decide +kernel
theorem dX9_frame_137 : decode cX9_frame 137 = .ok (.getfield 74, 3) := by decide +kernel
theorem dX9_frame_140 : decode cX9_frame 140 = .ok (.bipush 6, 2) := by decide +kernel
theorem dX9_frame_142 : decode cX9_frame 142 = .ok (.iconst 5, 1) := by decide +kernel
theorem dX9_frame_143 : decode cX9_frame 143 = .ok (.aload_n 0, 1) := by decide +kernel
theorem dX9_frame_144 : decode cX9_frame 144 = .ok (.getfield 118, 3) := by decide +kernel
theorem dX9_frame_147 : decode cX9_frame 147 = .ok (.imul, 1) := by decide +kernel
theorem dX9_frame_148 : decode cX9_frame 148 = .ok (.iload_n 2, 1) := by decide +kernel
theorem dX9_frame_149 : decode cX9_frame 149 = .ok (.iadd, 1) := by decide +kernel
theorem dX9_frame_150 : decode cX9_frame 150 = .ok (.imul, 1) := by decide +kernel
theorem dX9_frame_151 : decode cX9_frame 151 = .ok (.iload_n 3, 1) := by decide +kernel
theorem dX9_frame_152 : decode cX9_frame 152 = .ok (.iadd, 1) := by decide +kernel
theorem dX9_frame_153 : decode cX9_frame 153 = .ok (.iload_n 3, 1) := by decide +kernel
theorem dX9_frame_154 : decode cX9_frame 154 = .ok (.aload_n 0, 1) := by decide +kernel
theorem dX9_frame_155 : decode cX9_frame 155 = .ok (.getfield 138, 3) := by decide +kernel
theorem dX9_frame_158 : decode cX9_frame 158 = .ok (.if_icmp .ge 12, 3) := by decide +kernel
theorem dX9_frame_161 : decode cX9_frame 161 = .ok (.aload_n 0, 1) := by decide +kernel
theorem dX9_frame_162 : decode cX9_frame 162 = .ok (.iload_n 2, 1) := by decide +kernel
theorem dX9_frame_163 : decode cX9_frame 163 = .ok (.iload_n 3, 1) := by decide +kernel
theorem dX9_frame_164 : decode cX9_frame 164 = .ok (.invokevirtual 185, 3) := by decide +kernel
theorem dX9_frame_167 : decode cX9_frame 167 = .ok (.goto 4, 3) := by decide +kernel
theorem dX9_frame_170 : decode cX9_frame 170 = .ok (.iconst (-1), 1) := by decide +kernel
theorem dX9_frame_171 : decode cX9_frame 171 = .ok (.iastore, 1) := by decide +kernel
theorem dX9_frame_172 : decode cX9_frame 172 = .ok (.iinc 3 1, 3) := by decide +kernel
theorem dX9_frame_175 : decode cX9_frame 175 = .ok (.goto (-45), 3) := by decide +kernel
theorem dX9_frame_178 : decode cX9_frame 178 = .ok (.iinc 2 1, 3) := by decide +kernel
theorem dX9_frame_181 : decode cX9_frame 181 = .ok (.goto (-76), 3) := by decide +kernel
theorem dX9_frame_184 : decode cX9_frame 184 = .ok (.aload_n 0, 1) := by decide +kernel
theorem dX9_frame_185 : decode cX9_frame 185 = .ok (.dup, 1) := by decide +kernel
theorem dX9_frame_186 : decode cX9_frame 186 = .ok (.getfield 118, 3) := by decide +kernel
theorem dX9_frame_189 : decode cX9_frame 189 = .ok (.iconst 1, 1) := by decide +kernel
theorem dX9_frame_190 : decode cX9_frame 190 = .ok (.iadd, 1) := by decide +kernel
theorem dX9_frame_191 : decode cX9_frame 191 = .ok (.putfield 118, 3) := by decide +kernel
theorem dX9_frame_194 : decode cX9_frame 194 = .ok (.aload_n 0, 1) := by decide +kernel
theorem dX9_frame_195 : decode cX9_frame 195 = .ok (.getfield 118, 3) := by decide +kernel
theorem dX9_frame_198 : decode cX9_frame 198 = .ok (.iconst 1, 1) := by decide +kernel
theorem dX9_frame_199 : decode cX9_frame 199 = .ok (.isub, 1) := by decide +kernel
theorem dX9_frame_200 : decode cX9_frame 200 = .ok (.ireturn, 1) := by decide +kernel
set_option maxRecDepth 20000 in
theorem ggX9_pass_X9_in : GoodIn wsX9_pass wsX9_in := goodIn_r _ [5] (by decide +kernel) (by decide +kernel)
set_option maxRecDepth 20000 in
theorem gX9_pass_X9_in : GoodIn wsX9_pass (va_wsS RX9 96 yX9_in wsX9_in) := goodIn_app (goodIn_of _ (by decide +kernel)) ggX9_pass_X9_in
set_option maxRecDepth 20000 in
theorem ggX9_pass_X9_refused : GoodIn wsX9_pass wsX9_refused := goodIn_r _ [9, 10, 11, 12, 13, 14, 15, 16, 17, 18, 19, 20, 21, 22, 23, 24, 25, 26, 27, 28, 29, 30, 31, 32, 33, 34, 35, 36, 37, 38, 39, 40, 41, 42, 43, 44, 45, 46, 47, 48, 49] (by decide +kernel) (by decide +kernel)
set_option maxRecDepth 20000 in
theorem gX9_pass_X9_refused : GoodIn wsX9_pass (wsV RX9 131 RX9 yX9_refused wsX9_refused) := goodIn_app (goodIn_of _ (by decide +kernel)) ggX9_pass_X9_refused
theorem dX9_pass_0 : decode cX9_pass 0 = .ok (.aload_n 0, 1) := by decide +kernel
theorem dX9_pass_1 : decode cX9_pass 1 = .ok (.iload_n 1, 1) := by decide +kernel
theorem dX9_pass_2 : decode cX9_pass 2 = .ok (.iconst 1, 1) := by decide +kernel
theorem dX9_pass_3 : decode cX9_pass 3 = .ok (.bipush 100, 2) := by decide +kernel
theorem dX9_pass_5 : decode cX9_pass 5 = .ok (.invokestatic 96, 3) := by decide +kernel
theorem dX9_pass_8 : decode cX9_pass 8 = .ok (.ifCond .ne 7, 3) := by decide +kernel
theorem dX9_pass_11 : decode cX9_pass 11 = .ok (.iconst 1, 1) := by decide +kernel
theorem dX9_pass_12 : decode cX9_pass 12 = .ok (.goto 20, 3) := by decide +kernel
theorem dX9_pass_15 : decode cX9_pass 15 = .ok (.aload_n 0, 1) := by decide +kernel
theorem dX9_pass_16 : decode cX9_pass 16 = .ok (.getfield 167, 3) := by decide +kernel
theorem dX9_pass_19 : decode cX9_pass 19 = .ok (.iload_n 1, 1) := by decide +kernel
theorem dX9_pass_20 : decode cX9_pass 20 = .ok (.iadd, 1) := by decide +kernel
theorem dX9_pass_21 : decode cX9_pass 21 = .ok (.sipush 2000, 3) := by decide +kernel
theorem dX9_pass_24 : decode cX9_pass 24 = .ok (.if_icmp .le 7, 3) := by decide +kernel
theorem dX9_pass_27 : decode cX9_pass 27 = .ok (.iconst 2, 1) := by decide +kernel
theorem dX9_pass_28 : decode cX9_pass 28 = .ok (.goto 4, 3) := by decide +kernel
theorem dX9_pass_31 : decode cX9_pass 31 = .ok (.iconst 0, 1) := by decide +kernel
theorem dX9_pass_32 : decode cX9_pass 32 = .ok (.invokevirtual 131, 3) := by decide +kernel
theorem dX9_pass_35 : decode cX9_pass 35 = .ok (.ifCond .eq 5, 3) := by decide +kernel
theorem dX9_pass_38 : decode cX9_pass 38 = .ok (.iconst 0, 1) := by decide +kernel
theorem dX9_pass_39 : decode cX9_pass 39 = .ok (.ireturn, 1) := by decide +kernel
theorem dX9_pass_40 : decode cX9_pass 40 = .ok (.aload_n 0, 1) := by decide +kernel
theorem dX9_pass_41 : decode cX9_pass 41 = .ok (.dup, 1) := by decide +kernel
theorem dX9_pass_42 : decode cX9_pass 42 = .ok (.getfield 167, 3) := by decide +kernel
theorem dX9_pass_45 : decode cX9_pass 45 = .ok (.iload_n 1, 1) := by decide +kernel
theorem dX9_pass_46 : decode cX9_pass 46 = .ok (.iadd, 1) := by decide +kernel
theorem dX9_pass_47 : decode cX9_pass 47 = .ok (.putfield 167, 3) := by decide +kernel
theorem dX9_pass_50 : decode cX9_pass 50 = .ok (.aload_n 0, 1) := by decide +kernel
theorem dX9_pass_51 : decode cX9_pass 51 = .ok (.getfield 167, 3) := by decide +kernel
theorem dX9_pass_54 : decode cX9_pass 54 = .ok (.ireturn, 1) := by decide +kernel
theorem dX9_shown_0 : decode cX9_shown 0 = .ok (.aload_n 0, 1) := by decide +kernel
theorem dX9_shown_1 : decode cX9_shown 1 = .ok (.getfield 74, 3) := by decide +kernel
theorem dX9_shown_4 : decode cX9_shown 4 = .ok (.bipush 6, 2) := by decide +kernel
theorem dX9_shown_6 : decode cX9_shown 6 = .ok (.iconst 5, 1) := by decide +kernel
theorem dX9_shown_7 : decode cX9_shown 7 = .ok (.iload_n 1, 1) := by decide +kernel
theorem dX9_shown_8 : decode cX9_shown 8 = .ok (.imul, 1) := by decide +kernel
theorem dX9_shown_9 : decode cX9_shown 9 = .ok (.iload_n 2, 1) := by decide +kernel
theorem dX9_shown_10 : decode cX9_shown 10 = .ok (.iadd, 1) := by decide +kernel
theorem dX9_shown_11 : decode cX9_shown 11 = .ok (.imul, 1) := by decide +kernel
theorem dX9_shown_12 : decode cX9_shown 12 = .ok (.iload_n 3, 1) := by decide +kernel
theorem dX9_shown_13 : decode cX9_shown 13 = .ok (.iadd, 1) := by decide +kernel
theorem dX9_shown_14 : decode cX9_shown 14 = .ok (.iaload, 1) := by decide +kernel
theorem dX9_shown_15 : decode cX9_shown 15 = .ok (.ireturn, 1) := by decide +kernel
set_option maxRecDepth 20000 in
theorem ggX9_measure_X9_timesOf : GoodIn wsX9_measure wsX9_timesOf := goodIn_r _ [7, 8, 9, 10, 11, 6, 12, 13, 14, 15, 16, 17, 18, 27, 28, 29, 30, 31, 32, 33, 34, 35, 36, 37, 38, 39, 40, 41, 42, 43, 44, 45, 46, 47, 48, 49, 50, 51, 52, 53, 54, 55, 56, 57, 58, 59, 60, 61, 62, 63, 64, 65] (by decide +kernel) (by decide +kernel)
set_option maxRecDepth 20000 in
theorem gX9_measure_X9_timesOf : GoodIn wsX9_measure (wsV RX9 164 RX9 yX9_timesOf wsX9_timesOf) := goodIn_app (goodIn_of _ (by decide +kernel)) ggX9_measure_X9_timesOf
set_option maxRecDepth 20000 in
theorem ggX9_measure_X9_size : GoodIn wsX9_measure wsX9_size := goodIn_r _ [21] (by decide +kernel) (by decide +kernel)
set_option maxRecDepth 20000 in
theorem gX9_measure_X9_size : GoodIn wsX9_measure (va_wsS RX9 100 yX9_size wsX9_size) := goodIn_app (goodIn_of _ (by decide +kernel)) ggX9_measure_X9_size
set_option maxRecDepth 20000 in
theorem ggX9_measure_X9_shown : GoodIn wsX9_measure wsX9_shown := goodIn_r _ [25, 26, 27, 28, 29, 30, 31, 32, 33, 34, 35, 36, 37, 38, 39, 40, 41, 42, 43, 44, 45, 46, 47, 48, 49, 50, 51, 52, 53, 54, 55, 56, 57, 58, 59, 60, 61, 62, 63, 64, 65] (by decide +kernel) (by decide +kernel)
set_option maxRecDepth 20000 in
theorem gX9_measure_X9_shown : GoodIn wsX9_measure (wsV RX9 188 RX9 yX9_shown wsX9_shown) := goodIn_app (goodIn_of _ (by decide +kernel)) ggX9_measure_X9_shown
theorem dX9_measure_0 : decode cX9_measure 0 = .ok (.iload_n 2, 1) := by decide +kernel
theorem dX9_measure_1 : decode cX9_measure 1 = .ok (.bipush 6, 2) := by decide +kernel
theorem dX9_measure_3 : decode cX9_measure 3 = .ok (.if_icmp .ge 9, 3) := by decide +kernel
theorem dX9_measure_6 : decode cX9_measure 6 = .ok (.iload_n 3, 1) := by decide +kernel
theorem dX9_measure_7 : decode cX9_measure 7 = .ok (.bipush 6, 2) := by decide +kernel
theorem dX9_measure_9 : decode cX9_measure 9 = .ok (.if_icmp .lt 5, 3) := by decide +kernel
theorem dX9_measure_12 : decode cX9_measure 12 = .ok (.iconst (-1), 1) := by decide +kernel
theorem dX9_measure_13 : decode cX9_measure 13 = .ok (.ireturn, 1) := by decide +kernel
theorem dX9_measure_14 : decode cX9_measure 14 = .ok (.aload_n 0, 1) := by decide +kernel
theorem dX9_measure_15 : decode cX9_measure 15 = .ok (.iload_n 2, 1) := by decide +kernel
theorem dX9_measure_16 : decode cX9_measure 16 = .ok (.invokevirtual 164, 3) := by decide +kernel
theorem dX9_measure_19 : decode cX9_measure 19 = .ok (.invokestatic 100, 3) := by decide +kernel
theorem dX9_measure_22 : decode cX9_measure 22 = .ok (.istore 4, 2) := by decide +kernel
theorem dX9_measure_24 : decode cX9_measure 24 = .ok (.aload_n 0, 1) := by decide +kernel
theorem dX9_measure_25 : decode cX9_measure 25 = .ok (.iload_n 3, 1) := by decide +kernel
theorem dX9_measure_26 : decode cX9_measure 26 = .ok (.invokevirtual 164, 3) := by decide +kernel
theorem dX9_measure_29 : decode cX9_measure 29 = .ok (.invokestatic 100, 3) := by decide +kernel
theorem dX9_measure_32 : decode cX9_measure 32 = .ok (.istore 5, 2) := by decide +kernel
theorem dX9_measure_34 : decode cX9_measure 34 = .ok (.iconst (-1), 1) := by decide +kernel
theorem dX9_measure_35 : decode cX9_measure 35 = .ok (.istore 6, 2) := by decide +kernel
theorem dX9_measure_37 : decode cX9_measure 37 = .ok (.lconst 0, 1) := by decide +kernel
theorem dX9_measure_38 : decode cX9_measure 38 = .ok (.lstore 7, 2) := by decide +kernel
theorem dX9_measure_40 : decode cX9_measure 40 = .ok (.lconst 1, 1) := by decide +kernel
theorem dX9_measure_41 : decode cX9_measure 41 = .ok (.lstore 9, 2) := by decide +kernel
theorem dX9_measure_43 : decode cX9_measure 43 = .ok (.iconst 0, 1) := by decide +kernel
theorem dX9_measure_44 : decode cX9_measure 44 = .ok (.istore 11, 2) := by decide +kernel
theorem dX9_measure_46 : decode cX9_measure 46 = .ok (.iload 11, 2) := by decide +kernel
theorem dX9_measure_48 : decode cX9_measure 48 = .ok (.sipush 150, 3) := by decide +kernel
theorem dX9_measure_51 : decode cX9_measure 51 = .ok (.if_icmp .gt 221, 3) := by decide +kernel
theorem dX9_measure_54 : decode cX9_measure 54 = .ok (.lconst 0, 1) := by decide +kernel
theorem dX9_measure_55 : decode cX9_measure 55 = .ok (.lstore 12, 2) := by decide +kernel
theorem dX9_measure_57 : decode cX9_measure 57 = .ok (.iconst 0, 1) := by decide +kernel
theorem dX9_measure_58 : decode cX9_measure 58 = .ok (.istore 14, 2) := by decide +kernel
theorem dX9_measure_60 : decode cX9_measure 60 = .ok (.iconst 0, 1) := by decide +kernel
theorem dX9_measure_61 : decode cX9_measure 61 = .ok (.istore 15, 2) := by decide +kernel
theorem dX9_measure_63 : decode cX9_measure 63 = .ok (.iload 15, 2) := by decide +kernel
theorem dX9_measure_65 : decode cX9_measure 65 = .ok (.aload_n 0, 1) := by decide +kernel
theorem dX9_measure_66 : decode cX9_measure 66 = .ok (.getfield 118, 3) := by decide +kernel
theorem dX9_measure_69 : decode cX9_measure 69 = .ok (.if_icmp .ge 120, 3) := by decide +kernel
theorem dX9_measure_72 : decode cX9_measure 72 = .ok (.iload 15, 2) := by decide +kernel
theorem dX9_measure_74 : decode cX9_measure 74 = .ok (.istore 16, 2) := by decide +kernel
theorem dX9_measure_76 : decode cX9_measure 76 = .ok (.iload 16, 2) := by decide +kernel
theorem dX9_measure_78 : decode cX9_measure 78 = .ok (.aload_n 0, 1) := by decide +kernel
theorem dX9_measure_79 : decode cX9_measure 79 = .ok (.getfield 118, 3) := by decide +kernel
theorem dX9_measure_82 : decode cX9_measure 82 = .ok (.if_icmp .ge 101, 3) := by decide +kernel
theorem dX9_measure_85 : decode cX9_measure 85 = .ok (.aload_n 0, 1) := by decide +kernel
theorem dX9_measure_86 : decode cX9_measure 86 = .ok (.iload 15, 2) := by decide +kernel
theorem dX9_measure_88 : decode cX9_measure 88 = .ok (.iload_n 1, 1) := by decide +kernel
theorem dX9_measure_89 : decode cX9_measure 89 = .ok (.iload_n 2, 1) := by decide +kernel
theorem dX9_measure_90 : decode cX9_measure 90 = .ok (.invokevirtual 188, 3) := by decide +kernel
theorem dX9_measure_93 : decode cX9_measure 93 = .ok (.istore 17, 2) := by decide +kernel
theorem dX9_measure_95 : decode cX9_measure 95 = .ok (.aload_n 0, 1) := by decide +kernel
theorem dX9_measure_96 : decode cX9_measure 96 = .ok (.iload 16, 2) := by decide +kernel
theorem dX9_measure_98 : decode cX9_measure 98 = .ok (.iload_n 1, 1) := by decide +kernel
theorem dX9_measure_99 : decode cX9_measure 99 = .ok (.iload_n 3, 1) := by decide +kernel
theorem dX9_measure_100 : decode cX9_measure 100 = .ok (.invokevirtual 188, 3) := by decide +kernel
theorem dX9_measure_103 : decode cX9_measure 103 = .ok (.istore 18, 2) := by decide +kernel
theorem dX9_measure_105 : decode cX9_measure 105 = .ok (.aload_n 0, 1) := by decide +kernel
theorem dX9_measure_106 : decode cX9_measure 106 = .ok (.getfield 71, 3) := by decide +kernel
theorem dX9_measure_109 : decode cX9_measure 109 = .ok (.iload 16, 2) := by decide +kernel
theorem dX9_measure_111 : decode cX9_measure 111 = .ok (.iaload, 1) := by decide +kernel
theorem dX9_measure_112 : decode cX9_measure 112 = .ok (.aload_n 0, 1) := by decide +kernel
theorem dX9_measure_113 : decode cX9_measure 113 = .ok (.getfield 71, 3) := by decide +kernel
theorem dX9_measure_116 : decode cX9_measure 116 = .ok (.iload 15, 2) := by decide +kernel
theorem dX9_measure_118 : decode cX9_measure 118 = .ok (.iaload, 1) := by decide +kernel
theorem dX9_measure_119 : decode cX9_measure 119 = .ok (.isub, 1) := by decide +kernel
theorem dX9_measure_120 : decode cX9_measure 120 = .ok (.iload 11, 2) := by decide +kernel
theorem dX9_measure_122 : decode cX9_measure 122 = .ok (.if_icmp .ne 55, 3) := by decide +kernel
theorem dX9_measure_125 : decode cX9_measure 125 = .ok (.iload 17, 2) := by decide +kernel
theorem dX9_measure_127 : decode cX9_measure 127 = .ok (.iconst (-1), 1) := by decide +kernel
theorem dX9_measure_128 : decode cX9_measure 128 = .ok (.if_icmp .eq 49, 3) := by decide +kernel
theorem dX9_measure_131 : decode cX9_measure 131 = .ok (.iload 18, 2) := by decide +kernel
theorem dX9_measure_133 : decode cX9_measure 133 = .ok (.iconst (-1), 1) := by decide +kernel
theorem dX9_measure_134 : decode cX9_measure 134 = .ok (.if_icmp .eq 43, 3) := by decide +kernel
theorem dX9_measure_137 : decode cX9_measure 137 = .ok (.iload 17, 2) := by decide +kernel
theorem dX9_measure_139 : decode cX9_measure 139 = .ok (.i2l, 1) := by decide +kernel
theorem dX9_measure_140 : decode cX9_measure 140 = .ok (.iload 5, 2) := by decide +kernel
theorem dX9_measure_142 : decode cX9_measure 142 = .ok (.i2l, 1) := by decide +kernel
theorem dX9_measure_143 : decode cX9_measure 143 = .ok (.lmul, 1) := by decide +kernel
theorem dX9_measure_144 : decode cX9_measure 144 = .ok (.iload 18, 2) := by decide +kernel
theorem dX9_measure_146 : decode cX9_measure 146 = .ok (.i2l, 1) := by decide +kernel
theorem dX9_measure_147 : decode cX9_measure 147 = .ok (.iload 4, 2) := by decide +kernel
theorem dX9_measure_149 : decode cX9_measure 149 = .ok (.i2l, 1) := by decide +kernel
theorem dX9_measure_150 : decode cX9_measure 150 = .ok (.lmul, 1) := by decide +kernel
theorem dX9_measure_151 : decode cX9_measure 151 = .ok (.lsub, 1) := by decide +kernel
theorem dX9_measure_152 : decode cX9_measure 152 = .ok (.lstore 19, 2) := by decide +kernel
theorem dX9_measure_154 : decode cX9_measure 154 = .ok (.lload 12, 2) := by decide +kernel
theorem dX9_measure_156 : decode cX9_measure 156 = .ok (.lload 19, 2) := by decide +kernel
theorem dX9_measure_158 : decode cX9_measure 158 = .ok (.lconst 0, 1) := by decide +kernel
theorem dX9_measure_159 : decode cX9_measure 159 = .ok (.lcmp, 1) := by decide +kernel
theorem dX9_measure_160 : decode cX9_measure 160 = .ok (.ifCond .ge 9, 3) := by decide +kernel
theorem dX9_measure_163 : decode cX9_measure 163 = .ok (.lload 19, 2) := by decide +kernel
theorem dX9_measure_165 : decode cX9_measure 165 = .ok (.lneg, 1) := by decide +kernel
theorem dX9_measure_166 : decode cX9_measure 166 = .ok (.goto 5, 3) := by decide +kernel
theorem dX9_measure_169 : decode cX9_measure 169 = .ok (.lload 19, 2) := by decide +kernel
theorem dX9_measure_171 : decode cX9_measure 171 = .ok (.ladd, 1) := by decide +kernel
theorem dX9_measure_172 : decode cX9_measure 172 = .ok (.lstore 12, 2) := by decide +kernel
theorem dX9_measure_174 : decode cX9_measure 174 = .ok (.iinc 14 1, 3) := by decide +kernel
theorem dX9_measure_177 : decode cX9_measure 177 = .ok (.iinc 16 1, 3) := by decide +kernel
theorem dX9_measure_180 : decode cX9_measure 180 = .ok (.goto (-104), 3) := by decide +kernel
theorem dX9_measure_183 : decode cX9_measure 183 = .ok (.iinc 15 1, 3) := by decide +kernel
theorem dX9_measure_186 : decode cX9_measure 186 = .ok (.goto (-123), 3) := by decide +kernel
theorem dX9_measure_189 : decode cX9_measure 189 = .ok (.iload 14, 2) := by decide +kernel
theorem dX9_measure_191 : decode cX9_measure 191 = .ok (.iconst 3, 1) := by decide +kernel
theorem dX9_measure_192 : decode cX9_measure 192 = .ok (.if_icmp .lt 28, 3) := by decide +kernel
theorem dX9_measure_195 : decode cX9_measure 195 = .ok (.iload 6, 2) := by decide +kernel
theorem dX9_measure_197 : decode cX9_measure 197 = .ok (.iconst (-1), 1) := by decide +kernel
theorem dX9_measure_198 : decode cX9_measure 198 = .ok (.if_icmp .eq 18, 3) := by decide +kernel
theorem dX9_measure_201 : decode cX9_measure 201 = .ok (.lload 12, 2) := by decide +kernel
theorem dX9_measure_203 : decode cX9_measure 203 = .ok (.lload 9, 2) := by decide +kernel
theorem dX9_measure_205 : decode cX9_measure 205 = .ok (.lmul, 1) := by decide +kernel
theorem dX9_measure_206 : decode cX9_measure 206 = .ok (.lload 7, 2) := by decide +kernel
theorem dX9_measure_208 : decode cX9_measure 208 = .ok (.iload 14, 2) := by decide +kernel
theorem dX9_measure_210 : decode cX9_measure 210 = .ok (.i2l, 1) := by decide +kernel
theorem dX9_measure_211 : decode cX9_measure 211 = .ok (.lmul, 1) := by decide +kernel
theorem dX9_measure_212 : decode cX9_measure 212 = .ok (.lcmp, 1) := by decide +kernel
theorem dX9_measure_213 : decode cX9_measure 213 = .ok (.ifCond .ge 7, 3) := by decide +kernel
theorem dX9_measure_216 : decode cX9_measure 216 = .ok (.iconst 1, 1) := by decide +kernel
theorem dX9_measure_217 : decode cX9_measure 217 = .ok (.goto 4, 3) := by decide +kernel
theorem dX9_measure_220 : decode cX9_measure 220 = .ok (.iconst 0, 1) := by decide +kernel
theorem dX9_measure_221 : decode cX9_measure 221 = .ok (.istore 15, 2) := by decide +kernel
theorem dX9_measure_223 : decode cX9_measure 223 = .ok (.iload 15, 2) := by decide +kernel
theorem dX9_measure_225 : decode cX9_measure 225 = .ok (.ifCond .eq 8, 3) := by decide +kernel
theorem dX9_measure_228 : decode cX9_measure 228 = .ok (.iload 11, 2) := by decide +kernel
theorem dX9_measure_230 : decode cX9_measure 230 = .ok (.goto 5, 3) := by decide +kernel
theorem dX9_measure_233 : decode cX9_measure 233 = .ok (.iload 6, 2) := by decide +kernel
theorem dX9_measure_235 : decode cX9_measure 235 = .ok (.istore 6, 2) := by decide +kernel
theorem dX9_measure_237 : decode cX9_measure 237 = .ok (.iload 15, 2) := by decide +kernel
theorem dX9_measure_239 : decode cX9_measure 239 = .ok (.ifCond .eq 8, 3) := by decide +kernel
theorem dX9_measure_242 : decode cX9_measure 242 = .ok (.lload 12, 2) := by decide +kernel
theorem dX9_measure_244 : decode cX9_measure 244 = .ok (.goto 5, 3) := by decide +kernel
theorem dX9_measure_247 : decode cX9_measure 247 = .ok (.lload 7, 2) := by decide +kernel
theorem dX9_measure_249 : decode cX9_measure 249 = .ok (.lstore 7, 2) := by decide +kernel
theorem dX9_measure_251 : decode cX9_measure 251 = .ok (.iload 15, 2) := by decide +kernel
theorem dX9_measure_253 : decode cX9_measure 253 = .ok (.ifCond .eq 9, 3) := by decide +kernel
theorem dX9_measure_256 : decode cX9_measure 256 = .ok (.iload 14, 2) := by decide +kernel
theorem dX9_measure_258 : decode cX9_measure 258 = .ok (.i2l, 1) := by decide +kernel
theorem dX9_measure_259 : decode cX9_measure 259 = .ok (.goto 5, 3) := by decide +kernel
theorem dX9_measure_262 : decode cX9_measure 262 = .ok (.lload 9, 2) := by decide +kernel
theorem dX9_measure_264 : decode cX9_measure 264 = .ok (.lstore 9, 2) := by decide +kernel
theorem dX9_measure_266 : decode cX9_measure 266 = .ok (.iinc 11 1, 3) := by decide +kernel
theorem dX9_measure_269 : decode cX9_measure 269 = .ok (.goto (-223), 3) := by decide +kernel
theorem dX9_measure_272 : decode cX9_measure 272 = .ok (.iload 6, 2) := by decide +kernel
theorem dX9_measure_274 : decode cX9_measure 274 = .ok (.ireturn, 1) := by decide +kernel
set_option maxRecDepth 20000 in
theorem ggX9_book_X9_in : GoodIn wsX9_book wsX9_in := goodIn_r _ [10] (by decide +kernel) (by decide +kernel)
set_option maxRecDepth 20000 in
theorem gX9_book_X9_in : GoodIn wsX9_book (va_wsS RX9 96 yX9_in wsX9_in) := goodIn_app (goodIn_of _ (by decide +kernel)) ggX9_book_X9_in
