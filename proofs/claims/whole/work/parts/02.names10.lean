theorem dX9_isAhead_27 : decode cX9_isAhead 27 = .ok (.if_icmp .ge 7, 3) := by decide +kernel
theorem dX9_isAhead_30 : decode cX9_isAhead 30 = .ok (.iconst 1, 1) := by decide +kernel
theorem dX9_isAhead_31 : decode cX9_isAhead 31 = .ok (.goto 4, 3) := by decide +kernel
theorem dX9_isAhead_34 : decode cX9_isAhead 34 = .ok (.iconst 0, 1) := by decide +kernel
theorem dX9_isAhead_35 : decode cX9_isAhead 35 = .ok (.ireturn, 1) := by decide +kernel
theorem dX9_isAhead_36 : decode cX9_isAhead 36 = .ok (.iload_n 1, 1) := by decide +kernel
theorem dX9_isAhead_37 : decode cX9_isAhead 37 = .ok (.iload_n 2, 1) := by decide +kernel
theorem dX9_isAhead_38 : decode cX9_isAhead 38 = .ok (.if_icmp .ge 7, 3) := by decide +kernel
theorem dX9_isAhead_41 : decode cX9_isAhead 41 = .ok (.iconst 1, 1) := by decide +kernel
theorem dX9_isAhead_42 : decode cX9_isAhead 42 = .ok (.goto 4, 3) := by decide +kernel
theorem dX9_isAhead_45 : decode cX9_isAhead 45 = .ok (.iconst 0, 1) := by decide +kernel
theorem dX9_isAhead_46 : decode cX9_isAhead 46 = .ok (.ireturn, 1) := by decide +kernel
set_option maxRecDepth 20000 in
theorem ggX9_look_X9_cell : GoodIn wsX9_look wsX9_cell := goodIn_r _ [8] (by decide +kernel) (by decide +kernel)
set_option maxRecDepth 20000 in
theorem gX9_look_X9_cell : GoodIn wsX9_look (va_wsS RX9 111 yX9_cell wsX9_cell) := goodIn_app (goodIn_of _ (by decide +kernel)) ggX9_look_X9_cell
set_option maxRecDepth 20000 in
theorem ggX9_look_X9_columnFrom : GoodIn wsX9_look wsX9_columnFrom := goodIn_r _ [12, 13, 24, 25, 26, 27, 28, 29, 30, 31, 32, 33, 34, 35, 36, 37, 38, 39, 40, 41, 42, 43, 44, 45, 46, 47, 48, 49, 50, 51, 52, 53, 54, 55, 56, 57, 58, 59, 60, 61, 62] (by decide +kernel) (by decide +kernel)
set_option maxRecDepth 20000 in
theorem gX9_look_X9_columnFrom : GoodIn wsX9_look (wsV RX9 141 RX9 yX9_columnFrom wsX9_columnFrom) := goodIn_app (goodIn_of _ (by decide +kernel)) ggX9_look_X9_columnFrom
set_option maxRecDepth 20000 in
theorem ggX9_look_X9_rowFrom : GoodIn wsX9_look wsX9_rowFrom := goodIn_r _ [17, 18, 24, 25, 26, 27, 28, 29, 30, 31, 32, 33, 34, 35, 36, 37, 38, 39, 40, 41, 42, 43, 44, 45, 46, 47, 48, 49, 50, 51, 52, 53, 54, 55, 56, 57, 58, 59, 60, 61, 62] (by decide +kernel) (by decide +kernel)
set_option maxRecDepth 20000 in
theorem gX9_look_X9_rowFrom : GoodIn wsX9_look (wsV RX9 144 RX9 yX9_rowFrom wsX9_rowFrom) := goodIn_app (goodIn_of _ (by decide +kernel)) ggX9_look_X9_rowFrom
set_option maxRecDepth 20000 in
theorem ggX9_look_X9_isAhead : GoodIn wsX9_look wsX9_isAhead := goodIn_r _ [22, 23, 24, 25, 26, 27, 28, 29, 30, 31, 32, 33, 34, 35, 36, 37, 38, 39, 40, 41, 42, 43, 44, 45, 46, 47, 48, 49, 50, 51, 52, 53, 54, 55, 56, 57, 58, 59, 60, 61, 62] (by decide +kernel) (by decide +kernel)
set_option maxRecDepth 20000 in
theorem gX9_look_X9_isAhead : GoodIn wsX9_look (wsV RX9 147 RX9 yX9_isAhead wsX9_isAhead) := goodIn_app (goodIn_of _ (by decide +kernel)) ggX9_look_X9_isAhead
theorem dX9_look_0 : decode cX9_look 0 = .ok (.aload_n 0, 1) := by decide +kernel
theorem dX9_look_1 : decode cX9_look 1 = .ok (.iconst 0, 1) := by decide +kernel
theorem dX9_look_2 : decode cX9_look 2 = .ok (.putfield 138, 3) := by decide +kernel
theorem dX9_look_5 : decode cX9_look 5 = .ok (.bipush (-10), 2) := by decide +kernel
theorem dX9_look_7 : decode cX9_look 7 = .ok (.istore_n 2, 1) := by decide +kernel
theorem dX9_look_8 : decode cX9_look 8 = .ok (.iload_n 2, 1) := by decide +kernel
theorem dX9_look_9 : decode cX9_look 9 = .ok (.bipush 10, 2) := by decide +kernel
theorem dX9_look_11 : decode cX9_look 11 = .ok (.if_icmp .gt 131, 3) := by decide +kernel
theorem dX9_look_14 : decode cX9_look 14 = .ok (.bipush (-10), 2) := by decide +kernel
theorem dX9_look_16 : decode cX9_look 16 = .ok (.istore_n 3, 1) := by decide +kernel
theorem dX9_look_17 : decode cX9_look 17 = .ok (.iload_n 3, 1) := by decide +kernel
theorem dX9_look_18 : decode cX9_look 18 = .ok (.bipush 10, 2) := by decide +kernel
theorem dX9_look_20 : decode cX9_look 20 = .ok (.if_icmp .gt 116, 3) := by decide +kernel
theorem dX9_look_23 : decode cX9_look 23 = .ok (.iload_n 3, 1) := by decide +kernel
theorem dX9_look_24 : decode cX9_look 24 = .ok (.iload_n 2, 1) := by decide +kernel
theorem dX9_look_25 : decode cX9_look 25 = .ok (.invokestatic 111, 3) := by decide +kernel
theorem dX9_look_28 : decode cX9_look 28 = .ok (.istore 4, 2) := by decide +kernel
theorem dX9_look_30 : decode cX9_look 30 = .ok (.aload_n 0, 1) := by decide +kernel
theorem dX9_look_31 : decode cX9_look 31 = .ok (.iload 4, 2) := by decide +kernel
theorem dX9_look_33 : decode cX9_look 33 = .ok (.invokevirtual 141, 3) := by decide +kernel
theorem dX9_look_36 : decode cX9_look 36 = .ok (.aload_n 0, 1) := by decide +kernel
theorem dX9_look_37 : decode cX9_look 37 = .ok (.getfield 31, 3) := by decide +kernel
theorem dX9_look_40 : decode cX9_look 40 = .ok (.iload_n 1, 1) := by decide +kernel
theorem dX9_look_41 : decode cX9_look 41 = .ok (.iaload, 1) := by decide +kernel
theorem dX9_look_42 : decode cX9_look 42 = .ok (.if_icmp .ne 88, 3) := by decide +kernel
theorem dX9_look_45 : decode cX9_look 45 = .ok (.aload_n 0, 1) := by decide +kernel
theorem dX9_look_46 : decode cX9_look 46 = .ok (.iload 4, 2) := by decide +kernel
theorem dX9_look_48 : decode cX9_look 48 = .ok (.invokevirtual 144, 3) := by decide +kernel
theorem dX9_look_51 : decode cX9_look 51 = .ok (.aload_n 0, 1) := by decide +kernel
theorem dX9_look_52 : decode cX9_look 52 = .ok (.getfield 34, 3) := by decide +kernel
theorem dX9_look_55 : decode cX9_look 55 = .ok (.iload_n 1, 1) := by decide +kernel
theorem dX9_look_56 : decode cX9_look 56 = .ok (.iaload, 1) := by decide +kernel
theorem dX9_look_57 : decode cX9_look 57 = .ok (.if_icmp .ne 73, 3) := by decide +kernel
theorem dX9_look_60 : decode cX9_look 60 = .ok (.aload_n 0, 1) := by decide +kernel
theorem dX9_look_61 : decode cX9_look 61 = .ok (.getfield 138, 3) := by decide +kernel
theorem dX9_look_64 : decode cX9_look 64 = .ok (.istore 5, 2) := by decide +kernel
theorem dX9_look_66 : decode cX9_look 66 = .ok (.iload 5, 2) := by decide +kernel
theorem dX9_look_68 : decode cX9_look 68 = .ok (.ifCond .le 43, 3) := by decide +kernel
theorem dX9_look_71 : decode cX9_look 71 = .ok (.aload_n 0, 1) := by decide +kernel
theorem dX9_look_72 : decode cX9_look 72 = .ok (.iload 4, 2) := by decide +kernel
theorem dX9_look_74 : decode cX9_look 74 = .ok (.aload_n 0, 1) := by decide +kernel
theorem dX9_look_75 : decode cX9_look 75 = .ok (.getfield 87, 3) := by decide +kernel
theorem dX9_look_78 : decode cX9_look 78 = .ok (.iload 5, 2) := by decide +kernel
theorem dX9_look_80 : decode cX9_look 80 = .ok (.iconst 1, 1) := by decide +kernel
theorem dX9_look_81 : decode cX9_look 81 = .ok (.isub, 1) := by decide +kernel
theorem dX9_look_82 : decode cX9_look 82 = .ok (.iaload, 1) := by decide +kernel
theorem dX9_look_83 : decode cX9_look 83 = .ok (.invokevirtual 147, 3) := by decide +kernel
theorem dX9_look_86 : decode cX9_look 86 = .ok (.ifCond .eq 25, 3) := by decide +kernel
theorem dX9_look_89 : decode cX9_look 89 = .ok (.aload_n 0, 1) := by decide +kernel
theorem dX9_look_90 : decode cX9_look 90 = .ok (.getfield 87, 3) := by decide +kernel
theorem dX9_look_93 : decode cX9_look 93 = .ok (.iload 5, 2) := by decide +kernel
theorem dX9_look_95 : decode cX9_look 95 = .ok (.aload_n 0, 1) := by decide +kernel
theorem dX9_look_96 : decode cX9_look 96 = .ok (.getfield 87, 3) := by decide +kernel
theorem dX9_look_99 : decode cX9_look 99 = .ok (.iload 5, 2) := by decide +kernel
theorem dX9_look_101 : decode cX9_look 101 = .ok (.iconst 1, 1) := by decide +kernel
theorem dX9_look_102 : decode cX9_look 102 = .ok (.isub, 1) := by decide +kernel
theorem dX9_look_103 : decode cX9_look 103 = .ok (.iaload, 1) := by decide +kernel
theorem dX9_look_104 : decode cX9_look 104 = .ok (.iastore, 1) := by decide +kernel
theorem dX9_look_105 : decode cX9_look 105 = .ok (.iinc 5 (-1), 3) := by decide +kernel
theorem dX9_look_108 : decode cX9_look 108 = .ok (.goto (-42), 3) := by decide +kernel
theorem dX9_look_111 : decode cX9_look 111 = .ok (.aload_n 0, 1) := by decide +kernel
theorem dX9_look_112 : decode cX9_look 112 = .ok (.getfield 87, 3) := by decide +kernel
theorem dX9_look_115 : decode cX9_look 115 = .ok (.iload 5, 2) := by decide +kernel
theorem dX9_look_117 : decode cX9_look 117 = .ok (.iload 4, 2) := by decide +kernel
theorem dX9_look_119 : decode cX9_look 119 = .ok (.iastore, 1) := by decide +kernel
theorem dX9_look_120 : decode cX9_look 120 = .ok (.aload_n 0, 1) := by decide +kernel
theorem dX9_look_121 : decode cX9_look 121 = .ok (.dup, 1) := by decide +kernel
theorem dX9_look_122 : decode cX9_look 122 = .ok (.getfield 138, 3) := by decide +kernel
theorem dX9_look_125 : decode cX9_look 125 = .ok (.iconst 1, 1) := by decide +kernel
theorem dX9_look_126 : decode cX9_look 126 = .ok (.iadd, 1) := by decide +kernel
theorem dX9_look_127 : decode cX9_look 127 = .ok (.putfield 138, 3) := by decide +kernel
theorem dX9_look_130 : decode cX9_look 130 = .ok (.iinc 3 1, 3) := by decide +kernel
theorem dX9_look_133 : decode cX9_look 133 = .ok (.goto (-116), 3) := by decide +kernel
theorem dX9_look_136 : decode cX9_look 136 = .ok (.iinc 2 1, 3) := by decide +kernel
theorem dX9_look_139 : decode cX9_look 139 = .ok (.goto (-131), 3) := by decide +kernel
theorem dX9_look_142 : decode cX9_look 142 = .ok (.return_, 1) := by decide +kernel
set_option maxRecDepth 20000 in
theorem ggX9_isSource_X9_in : GoodIn wsX9_isSource wsX9_in := goodIn_r _ [5] (by decide +kernel) (by decide +kernel)
set_option maxRecDepth 20000 in
theorem gX9_isSource_X9_in : GoodIn wsX9_isSource (va_wsS RX9 96 yX9_in wsX9_in) := goodIn_app (goodIn_of _ (by decide +kernel)) ggX9_isSource_X9_in
theorem dX9_isSource_0 : decode cX9_isSource 0 = .ok (.iload_n 1, 1) := by decide +kernel
theorem dX9_isSource_1 : decode cX9_isSource 1 = .ok (.iconst 0, 1) := by decide +kernel
theorem dX9_isSource_2 : decode cX9_isSource 2 = .ok (.aload_n 0, 1) := by decide +kernel
theorem dX9_isSource_3 : decode cX9_isSource 3 = .ok (.getfield 151, 3) := by decide +kernel
theorem dX9_isSource_6 : decode cX9_isSource 6 = .ok (.iconst 1, 1) := by decide +kernel
theorem dX9_isSource_7 : decode cX9_isSource 7 = .ok (.isub, 1) := by decide +kernel
theorem dX9_isSource_8 : decode cX9_isSource 8 = .ok (.invokestatic 96, 3) := by decide +kernel
theorem dX9_isSource_11 : decode cX9_isSource 11 = .ok (.ireturn, 1) := by decide +kernel
set_option maxRecDepth 20000 in
theorem ggX9_isImage_X9_isSource : GoodIn wsX9_isImage wsX9_isSource := goodIn_r _ [6, 7, 8, 9, 5, 10, 36, 37, 38, 39, 40, 41, 42, 43, 44, 45, 46, 47, 48, 49, 50, 51, 52, 53, 54, 55, 56, 57, 58, 59, 60, 61, 62, 63, 64, 65, 66, 67, 68, 69, 70, 71, 72, 73, 74] (by decide +kernel) (by decide +kernel)
set_option maxRecDepth 20000 in
theorem gX9_isImage_X9_isSource : GoodIn wsX9_isImage (wsV RX9 154 RX9 yX9_isSource wsX9_isSource) := goodIn_app (goodIn_of _ (by decide +kernel)) ggX9_isImage_X9_isSource
set_option maxRecDepth 20000 in
theorem ggX9_isImage_X9_look : GoodIn wsX9_isImage wsX9_look := goodIn_r _ [14, 1, 15, 16, 17, 18, 19, 5, 20, 21, 22, 23, 24, 25, 26, 27, 28, 29, 30, 31, 32, 33, 34, 35, 36, 37, 38, 39, 40, 41, 42, 43, 44, 45, 46, 47, 48, 49, 50, 51, 52, 53, 54, 55, 56, 57, 58, 59, 60, 61, 62, 63, 64, 65, 66, 67, 68, 69, 70, 71, 72, 73, 74] (by decide +kernel) (by decide +kernel)
set_option maxRecDepth 20000 in
theorem gX9_isImage_X9_look : GoodIn wsX9_isImage (wsV RX9 157 RX9 yX9_look wsX9_look) := goodIn_app (goodIn_of _ (by decide +kernel)) ggX9_isImage_X9_look
set_option maxRecDepth 20000 in
theorem ggX9_isImage_X9_in : GoodIn wsX9_isImage wsX9_in := goodIn_r _ [10] (by decide +kernel) (by decide +kernel)
set_option maxRecDepth 20000 in
theorem gX9_isImage_X9_in : GoodIn wsX9_isImage (va_wsS RX9 96 yX9_in wsX9_in) := goodIn_app (goodIn_of _ (by decide +kernel)) ggX9_isImage_X9_in
theorem dX9_isImage_0 : decode cX9_isImage 0 = .ok (.aload_n 0, 1) := by decide +kernel
theorem dX9_isImage_1 : decode cX9_isImage 1 = .ok (.iload_n 1, 1) := by decide +kernel
theorem dX9_isImage_2 : decode cX9_isImage 2 = .ok (.invokevirtual 154, 3) := by decide +kernel
theorem dX9_isImage_5 : decode cX9_isImage 5 = .ok (.ifCond .ne 5, 3) := by decide +kernel
theorem dX9_isImage_8 : decode cX9_isImage 8 = .ok (.iconst 0, 1) := by decide +kernel
theorem dX9_isImage_9 : decode cX9_isImage 9 = .ok (.ireturn, 1) := by decide +kernel
theorem dX9_isImage_10 : decode cX9_isImage 10 = .ok (.aload_n 0, 1) := by decide +kernel
theorem dX9_isImage_11 : decode cX9_isImage 11 = .ok (.iload_n 1, 1) := by decide +kernel
theorem dX9_isImage_12 : decode cX9_isImage 12 = .ok (.invokevirtual 157, 3) := by decide +kernel
theorem dX9_isImage_15 : decode cX9_isImage 15 = .ok (.iload_n 2, 1) := by decide +kernel
theorem dX9_isImage_16 : decode cX9_isImage 16 = .ok (.iconst 0, 1) := by decide +kernel
theorem dX9_isImage_17 : decode cX9_isImage 17 = .ok (.aload_n 0, 1) := by decide +kernel
theorem dX9_isImage_18 : decode cX9_isImage 18 = .ok (.getfield 138, 3) := by decide +kernel
theorem dX9_isImage_21 : decode cX9_isImage 21 = .ok (.iconst 1, 1) := by decide +kernel
theorem dX9_isImage_22 : decode cX9_isImage 22 = .ok (.isub, 1) := by decide +kernel
theorem dX9_isImage_23 : decode cX9_isImage 23 = .ok (.invokestatic 96, 3) := by decide +kernel
theorem dX9_isImage_26 : decode cX9_isImage 26 = .ok (.ireturn, 1) := by decide +kernel
set_option maxRecDepth 20000 in
theorem ggX9_timesOf_X9_columnFrom : GoodIn wsX9_timesOf wsX9_columnFrom := goodIn_r _ [6, 7, 13, 14, 15, 16, 17, 18, 19, 20, 21, 22, 23, 24, 25, 26, 27, 28, 29, 30, 31, 32, 33, 34, 35, 36, 37, 38, 39, 40, 41, 42, 43, 44, 45, 46, 47, 48, 49, 50, 51] (by decide +kernel) (by decide +kernel)
set_option maxRecDepth 20000 in
theorem gX9_timesOf_X9_columnFrom : GoodIn wsX9_timesOf (wsV RX9 141 RX9 yX9_columnFrom wsX9_columnFrom) := goodIn_app (goodIn_of _ (by decide +kernel)) ggX9_timesOf_X9_columnFrom
set_option maxRecDepth 20000 in
theorem ggX9_timesOf_X9_rowFrom : GoodIn wsX9_timesOf wsX9_rowFrom := goodIn_r _ [11, 12, 13, 14, 15, 16, 17, 18, 19, 20, 21, 22, 23, 24, 25, 26, 27, 28, 29, 30, 31, 32, 33, 34, 35, 36, 37, 38, 39, 40, 41, 42, 43, 44, 45, 46, 47, 48, 49, 50, 51] (by decide +kernel) (by decide +kernel)
set_option maxRecDepth 20000 in
theorem gX9_timesOf_X9_rowFrom : GoodIn wsX9_timesOf (wsV RX9 144 RX9 yX9_rowFrom wsX9_rowFrom) := goodIn_app (goodIn_of _ (by decide +kernel)) ggX9_timesOf_X9_rowFrom
theorem dX9_timesOf_0 : decode cX9_timesOf 0 = .ok (.aload_n 0, 1) := by decide +kernel
theorem dX9_timesOf_1 : decode cX9_timesOf 1 = .ok (.getfield 87, 3) := by decide +kernel
theorem dX9_timesOf_4 : decode cX9_timesOf 4 = .ok (.iload_n 1, 1) := by decide +kernel
theorem dX9_timesOf_5 : decode cX9_timesOf 5 = .ok (.iaload, 1) := by decide +kernel
theorem dX9_timesOf_6 : decode cX9_timesOf 6 = .ok (.istore_n 2, 1) := by decide +kernel
theorem dX9_timesOf_7 : decode cX9_timesOf 7 = .ok (.iload_n 2, 1) := by decide +kernel
theorem dX9_timesOf_8 : decode cX9_timesOf 8 = .ok (.iconst 1, 1) := by decide +kernel
theorem dX9_timesOf_9 : decode cX9_timesOf 9 = .ok (.iadd, 1) := by decide +kernel
theorem dX9_timesOf_10 : decode cX9_timesOf 10 = .ok (.istore_n 3, 1) := by decide +kernel
theorem dX9_timesOf_11 : decode cX9_timesOf 11 = .ok (.iload_n 2, 1) := by decide +kernel
theorem dX9_timesOf_12 : decode cX9_timesOf 12 = .ok (.bipush 22, 2) := by decide +kernel
theorem dX9_timesOf_14 : decode cX9_timesOf 14 = .ok (.iadd, 1) := by decide +kernel
theorem dX9_timesOf_15 : decode cX9_timesOf 15 = .ok (.istore 4, 2) := by decide +kernel
theorem dX9_timesOf_17 : decode cX9_timesOf 17 = .ok (.aload_n 0, 1) := by decide +kernel
theorem dX9_timesOf_18 : decode cX9_timesOf 18 = .ok (.iload_n 3, 1) := by decide +kernel
theorem dX9_timesOf_19 : decode cX9_timesOf 19 = .ok (.invokevirtual 141, 3) := by decide +kernel
theorem dX9_timesOf_22 : decode cX9_timesOf 22 = .ok (.aload_n 0, 1) := by decide +kernel
theorem dX9_timesOf_23 : decode cX9_timesOf 23 = .ok (.iload_n 2, 1) := by decide +kernel
theorem dX9_timesOf_24 : decode cX9_timesOf 24 = .ok (.invokevirtual 141, 3) := by decide +kernel
theorem dX9_timesOf_27 : decode cX9_timesOf 27 = .ok (.isub, 1) := by decide +kernel
theorem dX9_timesOf_28 : decode cX9_timesOf 28 = .ok (.istore 5, 2) := by decide +kernel
theorem dX9_timesOf_30 : decode cX9_timesOf 30 = .ok (.aload_n 0, 1) := by decide +kernel
theorem dX9_timesOf_31 : decode cX9_timesOf 31 = .ok (.iload_n 3, 1) := by decide +kernel
theorem dX9_timesOf_32 : decode cX9_timesOf 32 = .ok (.invokevirtual 144, 3) := by decide +kernel
theorem dX9_timesOf_35 : decode cX9_timesOf 35 = .ok (.aload_n 0, 1) := by decide +kernel
theorem dX9_timesOf_36 : decode cX9_timesOf 36 = .ok (.iload_n 2, 1) := by decide +kernel
theorem dX9_timesOf_37 : decode cX9_timesOf 37 = .ok (.invokevirtual 144, 3) := by decide +kernel
theorem dX9_timesOf_40 : decode cX9_timesOf 40 = .ok (.isub, 1) := by decide +kernel
theorem dX9_timesOf_41 : decode cX9_timesOf 41 = .ok (.istore 6, 2) := by decide +kernel
theorem dX9_timesOf_43 : decode cX9_timesOf 43 = .ok (.aload_n 0, 1) := by decide +kernel
theorem dX9_timesOf_44 : decode cX9_timesOf 44 = .ok (.iload 4, 2) := by decide +kernel
theorem dX9_timesOf_46 : decode cX9_timesOf 46 = .ok (.invokevirtual 141, 3) := by decide +kernel
theorem dX9_timesOf_49 : decode cX9_timesOf 49 = .ok (.aload_n 0, 1) := by decide +kernel
theorem dX9_timesOf_50 : decode cX9_timesOf 50 = .ok (.iload_n 2, 1) := by decide +kernel
theorem dX9_timesOf_51 : decode cX9_timesOf 51 = .ok (.invokevirtual 141, 3) := by decide +kernel
theorem dX9_timesOf_54 : decode cX9_timesOf 54 = .ok (.isub, 1) := by decide +kernel
theorem dX9_timesOf_55 : decode cX9_timesOf 55 = .ok (.istore 7, 2) := by decide +kernel
theorem dX9_timesOf_57 : decode cX9_timesOf 57 = .ok (.aload_n 0, 1) := by decide +kernel
theorem dX9_timesOf_58 : decode cX9_timesOf 58 = .ok (.iload 4, 2) := by decide +kernel
theorem dX9_timesOf_60 : decode cX9_timesOf 60 = .ok (.invokevirtual 144, 3) := by decide +kernel
theorem dX9_timesOf_63 : decode cX9_timesOf 63 = .ok (.aload_n 0, 1) := by decide +kernel
theorem dX9_timesOf_64 : decode cX9_timesOf 64 = .ok (.iload_n 2, 1) := by decide +kernel
theorem dX9_timesOf_65 : decode cX9_timesOf 65 = .ok (.invokevirtual 144, 3) := by decide +kernel
theorem dX9_timesOf_68 : decode cX9_timesOf 68 = .ok (.isub, 1) := by decide +kernel
theorem dX9_timesOf_69 : decode cX9_timesOf 69 = .ok (.istore 8, 2) := by decide +kernel
theorem dX9_timesOf_71 : decode cX9_timesOf 71 = .ok (.iload 5, 2) := by decide +kernel
theorem dX9_timesOf_73 : decode cX9_timesOf 73 = .ok (.iload 8, 2) := by decide +kernel
theorem dX9_timesOf_75 : decode cX9_timesOf 75 = .ok (.imul, 1) := by decide +kernel
theorem dX9_timesOf_76 : decode cX9_timesOf 76 = .ok (.iload 6, 2) := by decide +kernel
theorem dX9_timesOf_78 : decode cX9_timesOf 78 = .ok (.iload 7, 2) := by decide +kernel
theorem dX9_timesOf_80 : decode cX9_timesOf 80 = .ok (.imul, 1) := by decide +kernel
theorem dX9_timesOf_81 : decode cX9_timesOf 81 = .ok (.isub, 1) := by decide +kernel
theorem dX9_timesOf_82 : decode cX9_timesOf 82 = .ok (.istore 9, 2) := by decide +kernel
theorem dX9_timesOf_84 : decode cX9_timesOf 84 = .ok (.iload 9, 2) := by decide +kernel
theorem dX9_timesOf_86 : decode cX9_timesOf 86 = .ok (.ifCond .ne 8, 3) := by decide +kernel
theorem dX9_timesOf_89 : decode cX9_timesOf 89 = .ok (.bipush 24, 2) := by decide +kernel
theorem dX9_timesOf_91 : decode cX9_timesOf 91 = .ok (.goto 8, 3) := by decide +kernel
theorem dX9_timesOf_94 : decode cX9_timesOf 94 = .ok (.bipush 24, 2) := by decide +kernel
theorem dX9_timesOf_96 : decode cX9_timesOf 96 = .ok (.iload 9, 2) := by decide +kernel
theorem dX9_timesOf_98 : decode cX9_timesOf 98 = .ok (.idiv, 1) := by decide +kernel
theorem dX9_timesOf_99 : decode cX9_timesOf 99 = .ok (.ireturn, 1) := by decide +kernel
theorem dX9_lateOf_0 : decode cX9_lateOf 0 = .ok (.aload_n 0, 1) := by decide +kernel
theorem dX9_lateOf_1 : decode cX9_lateOf 1 = .ok (.getfield 28, 3) := by decide +kernel
theorem dX9_lateOf_4 : decode cX9_lateOf 4 = .ok (.aload_n 0, 1) := by decide +kernel
theorem dX9_lateOf_5 : decode cX9_lateOf 5 = .ok (.getfield 87, 3) := by decide +kernel
theorem dX9_lateOf_8 : decode cX9_lateOf 8 = .ok (.iload_n 1, 1) := by decide +kernel
theorem dX9_lateOf_9 : decode cX9_lateOf 9 = .ok (.iaload, 1) := by decide +kernel
theorem dX9_lateOf_10 : decode cX9_lateOf 10 = .ok (.iaload, 1) := by decide +kernel
theorem dX9_lateOf_11 : decode cX9_lateOf 11 = .ok (.aload_n 0, 1) := by decide +kernel
theorem dX9_lateOf_12 : decode cX9_lateOf 12 = .ok (.getfield 28, 3) := by decide +kernel
theorem dX9_lateOf_15 : decode cX9_lateOf 15 = .ok (.aload_n 0, 1) := by decide +kernel
theorem dX9_lateOf_16 : decode cX9_lateOf 16 = .ok (.getfield 87, 3) := by decide +kernel
theorem dX9_lateOf_19 : decode cX9_lateOf 19 = .ok (.iconst 0, 1) := by decide +kernel
theorem dX9_lateOf_20 : decode cX9_lateOf 20 = .ok (.iaload, 1) := by decide +kernel
theorem dX9_lateOf_21 : decode cX9_lateOf 21 = .ok (.iaload, 1) := by decide +kernel
theorem dX9_lateOf_22 : decode cX9_lateOf 22 = .ok (.isub, 1) := by decide +kernel
theorem dX9_lateOf_23 : decode cX9_lateOf 23 = .ok (.bipush 20, 2) := by decide +kernel
theorem dX9_lateOf_25 : decode cX9_lateOf 25 = .ok (.imul, 1) := by decide +kernel
theorem dX9_lateOf_26 : decode cX9_lateOf 26 = .ok (.aload_n 0, 1) := by decide +kernel
theorem dX9_lateOf_27 : decode cX9_lateOf 27 = .ok (.getfield 68, 3) := by decide +kernel
theorem dX9_lateOf_30 : decode cX9_lateOf 30 = .ok (.idiv, 1) := by decide +kernel
theorem dX9_lateOf_31 : decode cX9_lateOf 31 = .ok (.ireturn, 1) := by decide +kernel
theorem dX9_sourceOn_0 : decode cX9_sourceOn 0 = .ok (.aload_n 0, 1) := by decide +kernel
theorem dX9_sourceOn_1 : decode cX9_sourceOn 1 = .ok (.getfield 37, 3) := by decide +kernel
theorem dX9_sourceOn_4 : decode cX9_sourceOn 4 = .ok (.iload_n 1, 1) := by decide +kernel
theorem dX9_sourceOn_5 : decode cX9_sourceOn 5 = .ok (.iaload, 1) := by decide +kernel
theorem dX9_sourceOn_6 : decode cX9_sourceOn 6 = .ok (.istore_n 3, 1) := by decide +kernel
theorem dX9_sourceOn_7 : decode cX9_sourceOn 7 = .ok (.iconst 0, 1) := by decide +kernel
theorem dX9_sourceOn_8 : decode cX9_sourceOn 8 = .ok (.istore 4, 2) := by decide +kernel
theorem dX9_sourceOn_10 : decode cX9_sourceOn 10 = .ok (.iload 4, 2) := by decide +kernel
theorem dX9_sourceOn_12 : decode cX9_sourceOn 12 = .ok (.aload_n 0, 1) := by decide +kernel
theorem dX9_sourceOn_13 : decode cX9_sourceOn 13 = .ok (.getfield 161, 3) := by decide +kernel
theorem dX9_sourceOn_16 : decode cX9_sourceOn 16 = .ok (.if_icmp .ge 45, 3) := by decide +kernel
theorem dX9_sourceOn_19 : decode cX9_sourceOn 19 = .ok (.iload_n 3, 1) := by decide +kernel
theorem dX9_sourceOn_20 : decode cX9_sourceOn 20 = .ok (.aload_n 0, 1) := by decide +kernel
theorem dX9_sourceOn_21 : decode cX9_sourceOn 21 = .ok (.getfield 40, 3) := by decide +kernel
theorem dX9_sourceOn_24 : decode cX9_sourceOn 24 = .ok (.iload 4, 2) := by decide +kernel
theorem dX9_sourceOn_26 : decode cX9_sourceOn 26 = .ok (.iaload, 1) := by decide +kernel
theorem dX9_sourceOn_27 : decode cX9_sourceOn 27 = .ok (.iload_n 1, 1) := by decide +kernel
theorem dX9_sourceOn_28 : decode cX9_sourceOn 28 = .ok (.if_icmp .ne 24, 3) := by decide +kernel
theorem dX9_sourceOn_31 : decode cX9_sourceOn 31 = .ok (.aload_n 0, 1) := by decide +kernel
theorem dX9_sourceOn_32 : decode cX9_sourceOn 32 = .ok (.getfield 43, 3) := by decide +kernel
theorem dX9_sourceOn_35 : decode cX9_sourceOn 35 = .ok (.iload 4, 2) := by decide +kernel
theorem dX9_sourceOn_37 : decode cX9_sourceOn 37 = .ok (.iaload, 1) := by decide +kernel
theorem dX9_sourceOn_38 : decode cX9_sourceOn 38 = .ok (.iload_n 2, 1) := by decide +kernel
theorem dX9_sourceOn_39 : decode cX9_sourceOn 39 = .ok (.if_icmp .gt 13, 3) := by decide +kernel
theorem dX9_sourceOn_42 : decode cX9_sourceOn 42 = .ok (.aload_n 0, 1) := by decide +kernel
theorem dX9_sourceOn_43 : decode cX9_sourceOn 43 = .ok (.getfield 46, 3) := by decide +kernel
theorem dX9_sourceOn_46 : decode cX9_sourceOn 46 = .ok (.iload 4, 2) := by decide +kernel
theorem dX9_sourceOn_48 : decode cX9_sourceOn 48 = .ok (.iaload, 1) := by decide +kernel
theorem dX9_sourceOn_49 : decode cX9_sourceOn 49 = .ok (.goto 4, 3) := by decide +kernel
theorem dX9_sourceOn_52 : decode cX9_sourceOn 52 = .ok (.iconst 0, 1) := by decide +kernel
theorem dX9_sourceOn_53 : decode cX9_sourceOn 53 = .ok (.iadd, 1) := by decide +kernel
theorem dX9_sourceOn_54 : decode cX9_sourceOn 54 = .ok (.istore_n 3, 1) := by decide +kernel
theorem dX9_sourceOn_55 : decode cX9_sourceOn 55 = .ok (.iinc 4 1, 3) := by decide +kernel
theorem dX9_sourceOn_58 : decode cX9_sourceOn 58 = .ok (.goto (-48), 3) := by decide +kernel
theorem dX9_sourceOn_61 : decode cX9_sourceOn 61 = .ok (.iload_n 3, 1) := by decide +kernel
theorem dX9_sourceOn_62 : decode cX9_sourceOn 62 = .ok (.ifCond .ge 7, 3) := by decide +kernel
theorem dX9_sourceOn_65 : decode cX9_sourceOn 65 = .ok (.iconst 0, 1) := by decide +kernel
theorem dX9_sourceOn_66 : decode cX9_sourceOn 66 = .ok (.goto 4, 3) := by decide +kernel
theorem dX9_sourceOn_69 : decode cX9_sourceOn 69 = .ok (.iload_n 3, 1) := by decide +kernel
theorem dX9_sourceOn_70 : decode cX9_sourceOn 70 = .ok (.ireturn, 1) := by decide +kernel
set_option maxRecDepth 20000 in
theorem ggX9_lightOf_X9_timesOf : GoodIn wsX9_lightOf wsX9_timesOf := goodIn_r _ [12, 13, 14, 15, 16, 11, 17, 18, 19, 20, 21, 22, 23, 42, 43, 44, 45, 46, 47, 48, 49, 50, 51, 52, 53, 54, 55, 56, 57, 58, 59, 60, 61, 62, 63, 64, 65, 66, 67, 68, 69, 70, 71, 72, 73, 74, 75, 76, 77, 78, 79, 80] (by decide +kernel) (by decide +kernel)
set_option maxRecDepth 20000 in
theorem gX9_lightOf_X9_timesOf : GoodIn wsX9_lightOf (wsV RX9 164 RX9 yX9_timesOf wsX9_timesOf) := goodIn_app (goodIn_of _ (by decide +kernel)) ggX9_lightOf_X9_timesOf
set_option maxRecDepth 20000 in
theorem ggX9_lightOf_X9_size : GoodIn wsX9_lightOf wsX9_size := goodIn_r _ [26] (by decide +kernel) (by decide +kernel)
set_option maxRecDepth 20000 in
theorem gX9_lightOf_X9_size : GoodIn wsX9_lightOf (va_wsS RX9 100 yX9_size wsX9_size) := goodIn_app (goodIn_of _ (by decide +kernel)) ggX9_lightOf_X9_size
set_option maxRecDepth 20000 in
theorem ggX9_lightOf_X9_lateOf : GoodIn wsX9_lightOf wsX9_lateOf := goodIn_r _ [30, 31, 13, 32, 42, 43, 44, 45, 46, 47, 48, 49, 50, 51, 52, 53, 54, 55, 56, 57, 58, 59, 60, 61, 62, 63, 64, 65, 66, 67, 68, 69, 70, 71, 72, 73, 74, 75, 76, 77, 78, 79, 80] (by decide +kernel) (by decide +kernel)
set_option maxRecDepth 20000 in
theorem gX9_lightOf_X9_lateOf : GoodIn wsX9_lightOf (wsV RX9 170 RX9 yX9_lateOf wsX9_lateOf) := goodIn_app (goodIn_of _ (by decide +kernel)) ggX9_lightOf_X9_lateOf
set_option maxRecDepth 20000 in
theorem ggX9_lightOf_X9_sourceOn : GoodIn wsX9_lightOf wsX9_sourceOn := goodIn_r _ [36, 37, 38, 39, 40, 41, 42, 43, 44, 45, 46, 47, 48, 49, 50, 51, 52, 53, 54, 55, 56, 57, 58, 59, 60, 61, 62, 63, 64, 65, 66, 67, 68, 69, 70, 71, 72, 73, 74, 75, 76, 77, 78, 79, 80] (by decide +kernel) (by decide +kernel)
set_option maxRecDepth 20000 in
theorem gX9_lightOf_X9_sourceOn : GoodIn wsX9_lightOf (wsV RX9 173 RX9 yX9_sourceOn wsX9_sourceOn) := goodIn_app (goodIn_of _ (by decide +kernel)) ggX9_lightOf_X9_sourceOn
theorem dX9_lightOf_0 : decode cX9_lightOf 0 = .ok (.aload_n 0, 1) := by decide +kernel
theorem dX9_lightOf_1 : decode cX9_lightOf 1 = .ok (.iload_n 2, 1) := by decide +kernel
theorem dX9_lightOf_2 : decode cX9_lightOf 2 = .ok (.invokevirtual 164, 3) := by decide +kernel
theorem dX9_lightOf_5 : decode cX9_lightOf 5 = .ok (.invokestatic 100, 3) := by decide +kernel
theorem dX9_lightOf_8 : decode cX9_lightOf 8 = .ok (.aload_n 0, 1) := by decide +kernel
theorem dX9_lightOf_9 : decode cX9_lightOf 9 = .ok (.iload_n 1, 1) := by decide +kernel
theorem dX9_lightOf_10 : decode cX9_lightOf 10 = .ok (.aload_n 0, 1) := by decide +kernel
theorem dX9_lightOf_11 : decode cX9_lightOf 11 = .ok (.getfield 167, 3) := by decide +kernel
theorem dX9_lightOf_14 : decode cX9_lightOf 14 = .ok (.aload_n 0, 1) := by decide +kernel
theorem dX9_lightOf_15 : decode cX9_lightOf 15 = .ok (.iload_n 2, 1) := by decide +kernel
theorem dX9_lightOf_16 : decode cX9_lightOf 16 = .ok (.invokevirtual 170, 3) := by decide +kernel
theorem dX9_lightOf_19 : decode cX9_lightOf 19 = .ok (.isub, 1) := by decide +kernel
theorem dX9_lightOf_20 : decode cX9_lightOf 20 = .ok (.invokevirtual 173, 3) := by decide +kernel
theorem dX9_lightOf_23 : decode cX9_lightOf 23 = .ok (.imul, 1) := by decide +kernel
theorem dX9_lightOf_24 : decode cX9_lightOf 24 = .ok (.istore_n 3, 1) := by decide +kernel
theorem dX9_lightOf_25 : decode cX9_lightOf 25 = .ok (.iconst 0, 1) := by decide +kernel
theorem dX9_lightOf_26 : decode cX9_lightOf 26 = .ok (.istore 4, 2) := by decide +kernel
theorem dX9_lightOf_28 : decode cX9_lightOf 28 = .ok (.iload 4, 2) := by decide +kernel
theorem dX9_lightOf_30 : decode cX9_lightOf 30 = .ok (.aload_n 0, 1) := by decide +kernel
theorem dX9_lightOf_31 : decode cX9_lightOf 31 = .ok (.getfield 121, 3) := by decide +kernel
theorem dX9_lightOf_34 : decode cX9_lightOf 34 = .ok (.if_icmp .ge 94, 3) := by decide +kernel
theorem dX9_lightOf_37 : decode cX9_lightOf 37 = .ok (.aload_n 0, 1) := by decide +kernel
theorem dX9_lightOf_38 : decode cX9_lightOf 38 = .ok (.getfield 58, 3) := by decide +kernel
theorem dX9_lightOf_41 : decode cX9_lightOf 41 = .ok (.iload 4, 2) := by decide +kernel
theorem dX9_lightOf_43 : decode cX9_lightOf 43 = .ok (.iaload, 1) := by decide +kernel
theorem dX9_lightOf_44 : decode cX9_lightOf 44 = .ok (.aload_n 0, 1) := by decide +kernel
theorem dX9_lightOf_45 : decode cX9_lightOf 45 = .ok (.getfield 167, 3) := by decide +kernel
theorem dX9_lightOf_48 : decode cX9_lightOf 48 = .ok (.aload_n 0, 1) := by decide +kernel
theorem dX9_lightOf_49 : decode cX9_lightOf 49 = .ok (.getfield 55, 3) := by decide +kernel
theorem dX9_lightOf_52 : decode cX9_lightOf 52 = .ok (.iload 4, 2) := by decide +kernel
theorem dX9_lightOf_54 : decode cX9_lightOf 54 = .ok (.iaload, 1) := by decide +kernel
theorem dX9_lightOf_55 : decode cX9_lightOf 55 = .ok (.isub, 1) := by decide +kernel
theorem dX9_lightOf_56 : decode cX9_lightOf 56 = .ok (.aload_n 0, 1) := by decide +kernel
theorem dX9_lightOf_57 : decode cX9_lightOf 57 = .ok (.getfield 58, 3) := by decide +kernel
theorem dX9_lightOf_60 : decode cX9_lightOf 60 = .ok (.iload 4, 2) := by decide +kernel
theorem dX9_lightOf_62 : decode cX9_lightOf 62 = .ok (.iaload, 1) := by decide +kernel
theorem dX9_lightOf_63 : decode cX9_lightOf 63 = .ok (.isub, 1) := by decide +kernel
theorem dX9_lightOf_64 : decode cX9_lightOf 64 = .ok (.invokestatic 100, 3) := by decide +kernel
theorem dX9_lightOf_67 : decode cX9_lightOf 67 = .ok (.isub, 1) := by decide +kernel
theorem dX9_lightOf_68 : decode cX9_lightOf 68 = .ok (.istore 5, 2) := by decide +kernel
theorem dX9_lightOf_70 : decode cX9_lightOf 70 = .ok (.iload_n 3, 1) := by decide +kernel
theorem dX9_lightOf_71 : decode cX9_lightOf 71 = .ok (.aload_n 0, 1) := by decide +kernel
theorem dX9_lightOf_72 : decode cX9_lightOf 72 = .ok (.getfield 49, 3) := by decide +kernel
theorem dX9_lightOf_75 : decode cX9_lightOf 75 = .ok (.iload 4, 2) := by decide +kernel
theorem dX9_lightOf_77 : decode cX9_lightOf 77 = .ok (.iaload, 1) := by decide +kernel
theorem dX9_lightOf_78 : decode cX9_lightOf 78 = .ok (.iload_n 1, 1) := by decide +kernel
theorem dX9_lightOf_79 : decode cX9_lightOf 79 = .ok (.if_icmp .ne 40, 3) := by decide +kernel
theorem dX9_lightOf_82 : decode cX9_lightOf 82 = .ok (.aload_n 0, 1) := by decide +kernel
theorem dX9_lightOf_83 : decode cX9_lightOf 83 = .ok (.getfield 52, 3) := by decide +kernel
theorem dX9_lightOf_86 : decode cX9_lightOf 86 = .ok (.iload 4, 2) := by decide +kernel
theorem dX9_lightOf_88 : decode cX9_lightOf 88 = .ok (.iaload, 1) := by decide +kernel
theorem dX9_lightOf_89 : decode cX9_lightOf 89 = .ok (.iload_n 2, 1) := by decide +kernel
theorem dX9_lightOf_90 : decode cX9_lightOf 90 = .ok (.if_icmp .ne 29, 3) := by decide +kernel
theorem dX9_lightOf_93 : decode cX9_lightOf 93 = .ok (.iload 5, 2) := by decide +kernel
theorem dX9_lightOf_95 : decode cX9_lightOf 95 = .ok (.ifCond .le 24, 3) := by decide +kernel
theorem dX9_lightOf_98 : decode cX9_lightOf 98 = .ok (.aload_n 0, 1) := by decide +kernel
theorem dX9_lightOf_99 : decode cX9_lightOf 99 = .ok (.getfield 61, 3) := by decide +kernel
theorem dX9_lightOf_102 : decode cX9_lightOf 102 = .ok (.iload 4, 2) := by decide +kernel
theorem dX9_lightOf_104 : decode cX9_lightOf 104 = .ok (.iaload, 1) := by decide +kernel
theorem dX9_lightOf_105 : decode cX9_lightOf 105 = .ok (.iload 5, 2) := by decide +kernel
theorem dX9_lightOf_107 : decode cX9_lightOf 107 = .ok (.imul, 1) := by decide +kernel
theorem dX9_lightOf_108 : decode cX9_lightOf 108 = .ok (.aload_n 0, 1) := by decide +kernel
theorem dX9_lightOf_109 : decode cX9_lightOf 109 = .ok (.getfield 58, 3) := by decide +kernel
theorem dX9_lightOf_112 : decode cX9_lightOf 112 = .ok (.iload 4, 2) := by decide +kernel
theorem dX9_lightOf_114 : decode cX9_lightOf 114 = .ok (.iaload, 1) := by decide +kernel
theorem dX9_lightOf_115 : decode cX9_lightOf 115 = .ok (.idiv, 1) := by decide +kernel
theorem dX9_lightOf_116 : decode cX9_lightOf 116 = .ok (.goto 4, 3) := by decide +kernel
theorem dX9_lightOf_119 : decode cX9_lightOf 119 = .ok (.iconst 0, 1) := by decide +kernel
theorem dX9_lightOf_120 : decode cX9_lightOf 120 = .ok (.iadd, 1) := by decide +kernel
theorem dX9_lightOf_121 : decode cX9_lightOf 121 = .ok (.istore_n 3, 1) := by decide +kernel
theorem dX9_lightOf_122 : decode cX9_lightOf 122 = .ok (.iinc 4 1, 3) := by decide +kernel
theorem dX9_lightOf_125 : decode cX9_lightOf 125 = .ok (.goto (-97), 3) := by decide +kernel
theorem dX9_lightOf_128 : decode cX9_lightOf 128 = .ok (.iload_n 3, 1) := by decide +kernel
theorem dX9_lightOf_129 : decode cX9_lightOf 129 = .ok (.ireturn, 1) := by decide +kernel
set_option maxRecDepth 20000 in
theorem ggX9_source_X9_isOn : GoodIn wsX9_source wsX9_isOn := goodIn_r _ [10, 11, 12, 9, 13] (by decide +kernel) (by decide +kernel)
set_option maxRecDepth 20000 in
theorem gX9_source_X9_isOn : GoodIn wsX9_source (va_wsS RX9 127 yX9_isOn wsX9_isOn) := goodIn_app (goodIn_of _ (by decide +kernel)) ggX9_source_X9_isOn
set_option maxRecDepth 20000 in
theorem ggX9_source_X9_in : GoodIn wsX9_source wsX9_in := goodIn_r _ [13] (by decide +kernel) (by decide +kernel)
set_option maxRecDepth 20000 in
theorem gX9_source_X9_in : GoodIn wsX9_source (va_wsS RX9 96 yX9_in wsX9_in) := goodIn_app (goodIn_of _ (by decide +kernel)) ggX9_source_X9_in
set_option maxRecDepth 20000 in
theorem ggX9_source_X9_refused : GoodIn wsX9_source wsX9_refused := goodIn_r _ [17, 18, 19, 20, 21, 22, 23, 24, 25, 26, 27, 28, 29, 30, 31, 32, 33, 34, 35, 36, 37, 38, 39, 40, 41, 42, 43, 44, 45, 46, 47, 48, 49, 50, 51, 52, 53, 54, 55, 56, 57] (by decide +kernel) (by decide +kernel)
set_option maxRecDepth 20000 in
theorem gX9_source_X9_refused : GoodIn wsX9_source (wsV RX9 131 RX9 yX9_refused wsX9_refused) := goodIn_app (goodIn_of _ (by decide +kernel)) ggX9_source_X9_refused
theorem dX9_source_0 : decode cX9_source 0 = .ok (.iload_n 1, 1) := by decide +kernel
theorem dX9_source_1 : decode cX9_source 1 = .ok (.invokestatic 127, 3) := by decide +kernel
theorem dX9_source_4 : decode cX9_source 4 = .ok (.ifCond .eq 24, 3) := by decide +kernel
theorem dX9_source_7 : decode cX9_source 7 = .ok (.iload_n 2, 1) := by decide +kernel
theorem dX9_source_8 : decode cX9_source 8 = .ok (.invokestatic 127, 3) := by decide +kernel
theorem dX9_source_11 : decode cX9_source 11 = .ok (.ifCond .eq 17, 3) := by decide +kernel
theorem dX9_source_14 : decode cX9_source 14 = .ok (.iload_n 3, 1) := by decide +kernel
theorem dX9_source_15 : decode cX9_source 15 = .ok (.iconst 1, 1) := by decide +kernel
theorem dX9_source_16 : decode cX9_source 16 = .ok (.bipush 100, 2) := by decide +kernel
theorem dX9_source_18 : decode cX9_source 18 = .ok (.invokestatic 96, 3) := by decide +kernel
theorem dX9_source_21 : decode cX9_source 21 = .ok (.ifCond .eq 7, 3) := by decide +kernel
theorem dX9_source_24 : decode cX9_source 24 = .ok (.iconst 1, 1) := by decide +kernel
theorem dX9_source_25 : decode cX9_source 25 = .ok (.goto 4, 3) := by decide +kernel
theorem dX9_source_28 : decode cX9_source 28 = .ok (.iconst 0, 1) := by decide +kernel
theorem dX9_source_29 : decode cX9_source 29 = .ok (.istore 4, 2) := by decide +kernel
theorem dX9_source_31 : decode cX9_source 31 = .ok (.aload_n 0, 1) := by decide +kernel
theorem dX9_source_32 : decode cX9_source 32 = .ok (.getfield 151, 3) := by decide +kernel
theorem dX9_source_35 : decode cX9_source 35 = .ok (.iconst 5, 1) := by decide +kernel
theorem dX9_source_36 : decode cX9_source 36 = .ok (.if_icmp .ne 7, 3) := by decide +kernel
theorem dX9_source_39 : decode cX9_source 39 = .ok (.iconst 1, 1) := by decide +kernel
theorem dX9_source_40 : decode cX9_source 40 = .ok (.goto 4, 3) := by decide +kernel
theorem dX9_source_43 : decode cX9_source 43 = .ok (.iconst 0, 1) := by decide +kernel
theorem dX9_source_44 : decode cX9_source 44 = .ok (.istore 5, 2) := by decide +kernel
theorem dX9_source_46 : decode cX9_source 46 = .ok (.iconst 0, 1) := by decide +kernel
theorem dX9_source_47 : decode cX9_source 47 = .ok (.istore 6, 2) := by decide +kernel
theorem dX9_source_49 : decode cX9_source 49 = .ok (.iload 6, 2) := by decide +kernel
theorem dX9_source_51 : decode cX9_source 51 = .ok (.aload_n 0, 1) := by decide +kernel
theorem dX9_source_52 : decode cX9_source 52 = .ok (.getfield 151, 3) := by decide +kernel
theorem dX9_source_55 : decode cX9_source 55 = .ok (.if_icmp .ge 43, 3) := by decide +kernel
theorem dX9_source_58 : decode cX9_source 58 = .ok (.iload 5, 2) := by decide +kernel
theorem dX9_source_60 : decode cX9_source 60 = .ok (.ifCond .ne 25, 3) := by decide +kernel
theorem dX9_source_63 : decode cX9_source 63 = .ok (.aload_n 0, 1) := by decide +kernel
theorem dX9_source_64 : decode cX9_source 64 = .ok (.getfield 31, 3) := by decide +kernel
theorem dX9_source_67 : decode cX9_source 67 = .ok (.iload 6, 2) := by decide +kernel
theorem dX9_source_69 : decode cX9_source 69 = .ok (.iaload, 1) := by decide +kernel
theorem dX9_source_70 : decode cX9_source 70 = .ok (.iload_n 1, 1) := by decide +kernel
theorem dX9_source_71 : decode cX9_source 71 = .ok (.if_icmp .ne 18, 3) := by decide +kernel
theorem dX9_source_74 : decode cX9_source 74 = .ok (.aload_n 0, 1) := by decide +kernel
theorem dX9_source_75 : decode cX9_source 75 = .ok (.getfield 34, 3) := by decide +kernel
theorem dX9_source_78 : decode cX9_source 78 = .ok (.iload 6, 2) := by decide +kernel
theorem dX9_source_80 : decode cX9_source 80 = .ok (.iaload, 1) := by decide +kernel
theorem dX9_source_81 : decode cX9_source 81 = .ok (.iload_n 2, 1) := by decide +kernel
theorem dX9_source_82 : decode cX9_source 82 = .ok (.if_icmp .ne 7, 3) := by decide +kernel
theorem dX9_source_85 : decode cX9_source 85 = .ok (.iconst 1, 1) := by decide +kernel
theorem dX9_source_86 : decode cX9_source 86 = .ok (.goto 4, 3) := by decide +kernel
theorem dX9_source_89 : decode cX9_source 89 = .ok (.iconst 0, 1) := by decide +kernel
theorem dX9_source_90 : decode cX9_source 90 = .ok (.istore 5, 2) := by decide +kernel
theorem dX9_source_92 : decode cX9_source 92 = .ok (.iinc 6 1, 3) := by decide +kernel
theorem dX9_source_95 : decode cX9_source 95 = .ok (.goto (-46), 3) := by decide +kernel
theorem dX9_source_98 : decode cX9_source 98 = .ok (.aload_n 0, 1) := by decide +kernel
theorem dX9_source_99 : decode cX9_source 99 = .ok (.iload 4, 2) := by decide +kernel
theorem dX9_source_101 : decode cX9_source 101 = .ok (.ifCond .ne 7, 3) := by decide +kernel
theorem dX9_source_104 : decode cX9_source 104 = .ok (.iconst 1, 1) := by decide +kernel
theorem dX9_source_105 : decode cX9_source 105 = .ok (.goto 13, 3) := by decide +kernel
theorem dX9_source_108 : decode cX9_source 108 = .ok (.iload 5, 2) := by decide +kernel
theorem dX9_source_110 : decode cX9_source 110 = .ok (.ifCond .eq 7, 3) := by decide +kernel
theorem dX9_source_113 : decode cX9_source 113 = .ok (.iconst 2, 1) := by decide +kernel
theorem dX9_source_114 : decode cX9_source 114 = .ok (.goto 4, 3) := by decide +kernel
theorem dX9_source_117 : decode cX9_source 117 = .ok (.iconst 0, 1) := by decide +kernel
theorem dX9_source_118 : decode cX9_source 118 = .ok (.invokevirtual 131, 3) := by decide +kernel
theorem dX9_source_121 : decode cX9_source 121 = .ok (.ifCond .eq 5, 3) := by decide +kernel
theorem dX9_source_124 : decode cX9_source 124 = .ok (.iconst 0, 1) := by decide +kernel
theorem dX9_source_125 : decode cX9_source 125 = .ok (.ireturn, 1) := by decide +kernel
theorem dX9_source_126 : decode cX9_source 126 = .ok (.aload_n 0, 1) := by decide +kernel
theorem dX9_source_127 : decode cX9_source 127 = .ok (.getfield 31, 3) := by decide +kernel
theorem dX9_source_130 : decode cX9_source 130 = .ok (.aload_n 0, 1) := by decide +kernel
theorem dX9_source_131 : decode cX9_source 131 = .ok (.getfield 151, 3) := by decide +kernel
theorem dX9_source_134 : decode cX9_source 134 = .ok (.iload_n 1, 1) := by decide +kernel
theorem dX9_source_135 : decode cX9_source 135 = .ok (.iastore, 1) := by decide +kernel
theorem dX9_source_136 : decode cX9_source 136 = .ok (.aload_n 0, 1) := by decide +kernel
theorem dX9_source_137 : decode cX9_source 137 = .ok (.getfield 34, 3) := by decide +kernel
theorem dX9_source_140 : decode cX9_source 140 = .ok (.aload_n 0, 1) := by decide +kernel
theorem dX9_source_141 : decode cX9_source 141 = .ok (.getfield 151, 3) := by decide +kernel
theorem dX9_source_144 : decode cX9_source 144 = .ok (.iload_n 2, 1) := by decide +kernel
theorem dX9_source_145 : decode cX9_source 145 = .ok (.iastore, 1) := by decide +kernel
theorem dX9_source_146 : decode cX9_source 146 = .ok (.aload_n 0, 1) := by decide +kernel
theorem dX9_source_147 : decode cX9_source 147 = .ok (.getfield 37, 3) := by decide +kernel
theorem dX9_source_150 : decode cX9_source 150 = .ok (.aload_n 0, 1) := by decide +kernel
theorem dX9_source_151 : decode cX9_source 151 = .ok (.getfield 151, 3) := by decide +kernel
theorem dX9_source_154 : decode cX9_source 154 = .ok (.iload_n 3, 1) := by decide +kernel
theorem dX9_source_155 : decode cX9_source 155 = .ok (.iastore, 1) := by decide +kernel
theorem dX9_source_156 : decode cX9_source 156 = .ok (.iconst 0, 1) := by decide +kernel
theorem dX9_source_157 : decode cX9_source 157 = .ok (.istore 6, 2) := by decide +kernel
theorem dX9_source_159 : decode cX9_source 159 = .ok (.iload 6, 2) := by decide +kernel
theorem dX9_source_161 : decode cX9_source 161 = .ok (.aload_n 0, 1) := by decide +kernel
theorem dX9_source_162 : decode cX9_source 162 = .ok (.getfield 118, 3) := by decide +kernel
theorem dX9_source_165 : decode cX9_source 165 = .ok (.if_icmp .ge 46, 3) := by decide +kernel
theorem dX9_source_168 : decode cX9_source 168 = .ok (.iconst 0, 1) := by decide +kernel
theorem dX9_source_169 : decode cX9_source 169 = .ok (.istore 7, 2) := by decide +kernel
theorem dX9_source_171 : decode cX9_source 171 = .ok (.iload 7, 2) := by decide +kernel
theorem dX9_source_173 : decode cX9_source 173 = .ok (.bipush 6, 2) := by decide +kernel
theorem dX9_source_175 : decode cX9_source 175 = .ok (.if_icmp .ge 30, 3) := by decide +kernel
theorem dX9_source_178 : decode cX9_source 178 = .ok (.aload_n 0, 1) := by decide +kernel
theorem dX9_source_179 : decode cX9_source 179 = .ok (.getfield 74, 3) := by decide +kernel
theorem dX9_source_182 : decode cX9_source 182 = .ok (.bipush 6, 2) := by decide +kernel
theorem dX9_source_184 : decode cX9_source 184 = .ok (.iconst 5, 1) := by decide +kernel
theorem dX9_source_185 : decode cX9_source 185 = .ok (.iload 6, 2) := by decide +kernel
theorem dX9_source_187 : decode cX9_source 187 = .ok (.imul, 1) := by decide +kernel
theorem dX9_source_188 : decode cX9_source 188 = .ok (.aload_n 0, 1) := by decide +kernel
theorem dX9_source_189 : decode cX9_source 189 = .ok (.getfield 151, 3) := by decide +kernel
theorem dX9_source_192 : decode cX9_source 192 = .ok (.iadd, 1) := by decide +kernel
theorem dX9_source_193 : decode cX9_source 193 = .ok (.imul, 1) := by decide +kernel
theorem dX9_source_194 : decode cX9_source 194 = .ok (.iload 7, 2) := by decide +kernel
theorem dX9_source_196 : decode cX9_source 196 = .ok (.iadd, 1) := by decide +kernel
theorem dX9_source_197 : decode cX9_source 197 = .ok (.iconst (-1), 1) := by decide +kernel
theorem dX9_source_198 : decode cX9_source 198 = .ok (.iastore, 1) := by decide +kernel
theorem dX9_source_199 : decode cX9_source 199 = .ok (.iinc 7 1, 3) := by decide +kernel
theorem dX9_source_202 : decode cX9_source 202 = .ok (.goto (-31), 3) := by decide +kernel
theorem dX9_source_205 : decode cX9_source 205 = .ok (.iinc 6 1, 3) := by decide +kernel
theorem dX9_source_208 : decode cX9_source 208 = .ok (.goto (-49), 3) := by decide +kernel
theorem dX9_source_211 : decode cX9_source 211 = .ok (.aload_n 0, 1) := by decide +kernel
theorem dX9_source_212 : decode cX9_source 212 = .ok (.dup, 1) := by decide +kernel
theorem dX9_source_213 : decode cX9_source 213 = .ok (.getfield 151, 3) := by decide +kernel
theorem dX9_source_216 : decode cX9_source 216 = .ok (.iconst 1, 1) := by decide +kernel
theorem dX9_source_217 : decode cX9_source 217 = .ok (.iadd, 1) := by decide +kernel
theorem dX9_source_218 : decode cX9_source 218 = .ok (.putfield 151, 3) := by decide +kernel
theorem dX9_source_221 : decode cX9_source 221 = .ok (.aload_n 0, 1) := by decide +kernel
theorem dX9_source_222 : decode cX9_source 222 = .ok (.getfield 151, 3) := by decide +kernel
theorem dX9_source_225 : decode cX9_source 225 = .ok (.iconst 1, 1) := by decide +kernel
theorem dX9_source_226 : decode cX9_source 226 = .ok (.isub, 1) := by decide +kernel
theorem dX9_source_227 : decode cX9_source 227 = .ok (.ireturn, 1) := by decide +kernel
set_option maxRecDepth 20000 in
theorem ggX9_flare_X9_isSource : GoodIn wsX9_flare wsX9_isSource := goodIn_r _ [10, 11, 12, 13, 9, 14, 25, 26, 27, 28, 29, 30, 31, 32, 33, 34, 35, 36, 37, 38, 39, 40, 41, 42, 43, 44, 45, 46, 47, 48, 49, 50, 51, 52, 53, 54, 55, 56, 57, 58, 59, 60, 61, 62, 63] (by decide +kernel) (by decide +kernel)
set_option maxRecDepth 20000 in
theorem gX9_flare_X9_isSource : GoodIn wsX9_flare (wsV RX9 154 RX9 yX9_isSource wsX9_isSource) := goodIn_app (goodIn_of _ (by decide +kernel)) ggX9_flare_X9_isSource
set_option maxRecDepth 20000 in
theorem ggX9_flare_X9_in : GoodIn wsX9_flare wsX9_in := goodIn_r _ [14] (by decide +kernel) (by decide +kernel)
set_option maxRecDepth 20000 in
theorem gX9_flare_X9_in : GoodIn wsX9_flare (va_wsS RX9 96 yX9_in wsX9_in) := goodIn_app (goodIn_of _ (by decide +kernel)) ggX9_flare_X9_in
set_option maxRecDepth 20000 in
theorem ggX9_flare_X9_refused : GoodIn wsX9_flare wsX9_refused := goodIn_r _ [18, 19, 25, 26, 27, 28, 29, 30, 31, 32, 33, 34, 35, 36, 37, 38, 39, 40, 41, 42, 43, 44, 45, 46, 47, 48, 49, 50, 51, 52, 53, 54, 55, 56, 57, 58, 59, 60, 61, 62, 63] (by decide +kernel) (by decide +kernel)
set_option maxRecDepth 20000 in
theorem gX9_flare_X9_refused : GoodIn wsX9_flare (wsV RX9 131 RX9 yX9_refused wsX9_refused) := goodIn_app (goodIn_of _ (by decide +kernel)) ggX9_flare_X9_refused
set_option maxRecDepth 20000 in
theorem ggX9_flare_X9_sourceOn : GoodIn wsX9_flare wsX9_sourceOn := goodIn_r _ [23, 24, 1, 2, 3, 5, 25, 26, 27, 28, 29, 30, 31, 32, 33, 34, 35, 36, 37, 38, 39, 40, 41, 42, 43, 44, 45, 46, 47, 48, 49, 50, 51, 52, 53, 54, 55, 56, 57, 58, 59, 60, 61, 62, 63] (by decide +kernel) (by decide +kernel)
set_option maxRecDepth 20000 in
theorem gX9_flare_X9_sourceOn : GoodIn wsX9_flare (wsV RX9 173 RX9 yX9_sourceOn wsX9_sourceOn) := goodIn_app (goodIn_of _ (by decide +kernel)) ggX9_flare_X9_sourceOn
theorem dX9_flare_0 : decode cX9_flare 0 = .ok (.aload_n 0, 1) := by decide +kernel
theorem dX9_flare_1 : decode cX9_flare 1 = .ok (.aload_n 0, 1) := by decide +kernel
theorem dX9_flare_2 : decode cX9_flare 2 = .ok (.iload_n 1, 1) := by decide +kernel
theorem dX9_flare_3 : decode cX9_flare 3 = .ok (.invokevirtual 154, 3) := by decide +kernel
theorem dX9_flare_6 : decode cX9_flare 6 = .ok (.ifCond .ne 7, 3) := by decide +kernel
theorem dX9_flare_9 : decode cX9_flare 9 = .ok (.iconst 1, 1) := by decide +kernel
theorem dX9_flare_10 : decode cX9_flare 10 = .ok (.goto 32, 3) := by decide +kernel
theorem dX9_flare_13 : decode cX9_flare 13 = .ok (.iload_n 2, 1) := by decide +kernel
theorem dX9_flare_14 : decode cX9_flare 14 = .ok (.bipush (-100), 2) := by decide +kernel
theorem dX9_flare_16 : decode cX9_flare 16 = .ok (.bipush 100, 2) := by decide +kernel
theorem dX9_flare_18 : decode cX9_flare 18 = .ok (.invokestatic 96, 3) := by decide +kernel
theorem dX9_flare_21 : decode cX9_flare 21 = .ok (.ifCond .ne 7, 3) := by decide +kernel
theorem dX9_flare_24 : decode cX9_flare 24 = .ok (.iconst 2, 1) := by decide +kernel
theorem dX9_flare_25 : decode cX9_flare 25 = .ok (.goto 17, 3) := by decide +kernel
theorem dX9_flare_28 : decode cX9_flare 28 = .ok (.aload_n 0, 1) := by decide +kernel
theorem dX9_flare_29 : decode cX9_flare 29 = .ok (.getfield 161, 3) := by decide +kernel
theorem dX9_flare_32 : decode cX9_flare 32 = .ok (.bipush 40, 2) := by decide +kernel
theorem dX9_flare_34 : decode cX9_flare 34 = .ok (.if_icmp .ne 7, 3) := by decide +kernel
theorem dX9_flare_37 : decode cX9_flare 37 = .ok (.iconst 3, 1) := by decide +kernel
theorem dX9_flare_38 : decode cX9_flare 38 = .ok (.goto 4, 3) := by decide +kernel
theorem dX9_flare_41 : decode cX9_flare 41 = .ok (.iconst 0, 1) := by decide +kernel
theorem dX9_flare_42 : decode cX9_flare 42 = .ok (.invokevirtual 131, 3) := by decide +kernel
theorem dX9_flare_45 : decode cX9_flare 45 = .ok (.ifCond .eq 5, 3) := by decide +kernel
theorem dX9_flare_48 : decode cX9_flare 48 = .ok (.iconst 0, 1) := by decide +kernel
theorem dX9_flare_49 : decode cX9_flare 49 = .ok (.ireturn, 1) := by decide +kernel
