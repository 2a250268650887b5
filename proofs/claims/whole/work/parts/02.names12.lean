set_option maxRecDepth 20000 in
theorem ggX9_book_X9_isImage : GoodIn wsX9_book wsX9_isImage := goodIn_r _ [14, 15, 16, 17, 18, 9, 19, 20, 7, 8, 10, 21, 22, 23, 24, 25, 26, 2, 27, 28, 29, 30, 31, 32, 33, 34, 35, 36, 37, 38, 39, 40, 41, 42, 43, 1, 67, 68, 69, 70, 71, 72, 73, 74, 75, 76, 77, 78, 79, 80, 81, 82, 83, 84, 85, 86, 87, 88, 89, 90, 91, 92, 93, 94, 95, 96, 97, 98, 99, 100, 101, 102, 103, 104, 105] (by decide +kernel) (by decide +kernel)
set_option maxRecDepth 20000 in
theorem gX9_book_X9_isImage : GoodIn wsX9_book (wsV RX9 176 RX9 yX9_isImage wsX9_isImage) := goodIn_app (goodIn_of _ (by decide +kernel)) ggX9_book_X9_isImage
set_option maxRecDepth 20000 in
theorem ggX9_book_X9_refused : GoodIn wsX9_book wsX9_refused := goodIn_r _ [47, 48, 67, 68, 69, 70, 71, 72, 73, 74, 75, 76, 77, 78, 79, 80, 81, 82, 83, 84, 85, 86, 87, 88, 89, 90, 91, 92, 93, 94, 95, 96, 97, 98, 99, 100, 101, 102, 103, 104, 105] (by decide +kernel) (by decide +kernel)
set_option maxRecDepth 20000 in
theorem gX9_book_X9_refused : GoodIn wsX9_book (wsV RX9 131 RX9 yX9_refused wsX9_refused) := goodIn_app (goodIn_of _ (by decide +kernel)) ggX9_book_X9_refused
set_option maxRecDepth 20000 in
theorem ggX9_book_X9_measure : GoodIn wsX9_book wsX9_measure := goodIn_r _ [52, 53, 54, 55, 56, 57, 9, 58, 2, 30, 31, 32, 33, 34, 35, 36, 37, 38, 39, 59, 60, 61, 62, 63, 64, 65, 66, 67, 68, 69, 70, 71, 72, 73, 74, 75, 76, 77, 78, 79, 80, 81, 82, 83, 84, 85, 86, 87, 88, 89, 90, 91, 92, 93, 94, 95, 96, 97, 98, 99, 100, 101, 102, 103, 104, 105] (by decide +kernel) (by decide +kernel)
set_option maxRecDepth 20000 in
theorem gX9_book_X9_measure : GoodIn wsX9_book (wsV RX9 192 RX9 yX9_measure wsX9_measure) := goodIn_app (goodIn_of _ (by decide +kernel)) ggX9_book_X9_measure
theorem dX9_book_0 : decode cX9_book 0 = .ok (.iload_n 1, 1) := by decide +kernel
theorem dX9_book_1 : decode cX9_book 1 = .ok (.iconst 0, 1) := by decide +kernel
theorem dX9_book_2 : decode cX9_book 2 = .ok (.iconst 1, 1) := by decide +kernel
theorem dX9_book_3 : decode cX9_book 3 = .ok (.invokestatic 96, 3) := by decide +kernel
theorem dX9_book_6 : decode cX9_book 6 = .ok (.ifCond .eq 26, 3) := by decide +kernel
theorem dX9_book_9 : decode cX9_book 9 = .ok (.aload_n 0, 1) := by decide +kernel
theorem dX9_book_10 : decode cX9_book 10 = .ok (.iload_n 2, 1) := by decide +kernel
theorem dX9_book_11 : decode cX9_book 11 = .ok (.iload_n 3, 1) := by decide +kernel
theorem dX9_book_12 : decode cX9_book 12 = .ok (.invokevirtual 176, 3) := by decide +kernel
theorem dX9_book_15 : decode cX9_book 15 = .ok (.ifCond .eq 17, 3) := by decide +kernel
theorem dX9_book_18 : decode cX9_book 18 = .ok (.aload_n 0, 1) := by decide +kernel
theorem dX9_book_19 : decode cX9_book 19 = .ok (.iload_n 2, 1) := by decide +kernel
theorem dX9_book_20 : decode cX9_book 20 = .ok (.iload 4, 2) := by decide +kernel
theorem dX9_book_22 : decode cX9_book 22 = .ok (.invokevirtual 176, 3) := by decide +kernel
theorem dX9_book_25 : decode cX9_book 25 = .ok (.ifCond .eq 7, 3) := by decide +kernel
theorem dX9_book_28 : decode cX9_book 28 = .ok (.iconst 1, 1) := by decide +kernel
theorem dX9_book_29 : decode cX9_book 29 = .ok (.goto 4, 3) := by decide +kernel
theorem dX9_book_32 : decode cX9_book 32 = .ok (.iconst 0, 1) := by decide +kernel
theorem dX9_book_33 : decode cX9_book 33 = .ok (.istore 5, 2) := by decide +kernel
theorem dX9_book_35 : decode cX9_book 35 = .ok (.aload_n 0, 1) := by decide +kernel
theorem dX9_book_36 : decode cX9_book 36 = .ok (.iload 5, 2) := by decide +kernel
theorem dX9_book_38 : decode cX9_book 38 = .ok (.ifCond .ne 7, 3) := by decide +kernel
theorem dX9_book_41 : decode cX9_book 41 = .ok (.iconst 1, 1) := by decide +kernel
theorem dX9_book_42 : decode cX9_book 42 = .ok (.goto 14, 3) := by decide +kernel
theorem dX9_book_45 : decode cX9_book 45 = .ok (.iload_n 3, 1) := by decide +kernel
theorem dX9_book_46 : decode cX9_book 46 = .ok (.iload 4, 2) := by decide +kernel
theorem dX9_book_48 : decode cX9_book 48 = .ok (.if_icmp .ne 7, 3) := by decide +kernel
theorem dX9_book_51 : decode cX9_book 51 = .ok (.iconst 2, 1) := by decide +kernel
theorem dX9_book_52 : decode cX9_book 52 = .ok (.goto 4, 3) := by decide +kernel
theorem dX9_book_55 : decode cX9_book 55 = .ok (.iconst 0, 1) := by decide +kernel
theorem dX9_book_56 : decode cX9_book 56 = .ok (.invokevirtual 131, 3) := by decide +kernel
theorem dX9_book_59 : decode cX9_book 59 = .ok (.ifCond .eq 5, 3) := by decide +kernel
theorem dX9_book_62 : decode cX9_book 62 = .ok (.iconst 0, 1) := by decide +kernel
theorem dX9_book_63 : decode cX9_book 63 = .ok (.ireturn, 1) := by decide +kernel
theorem dX9_book_64 : decode cX9_book 64 = .ok (.aload_n 0, 1) := by decide +kernel
theorem dX9_book_65 : decode cX9_book 65 = .ok (.iload_n 2, 1) := by decide +kernel
theorem dX9_book_66 : decode cX9_book 66 = .ok (.iload_n 3, 1) := by decide +kernel
theorem dX9_book_67 : decode cX9_book 67 = .ok (.iload 4, 2) := by decide +kernel
theorem dX9_book_69 : decode cX9_book 69 = .ok (.invokevirtual 192, 3) := by decide +kernel
theorem dX9_book_72 : decode cX9_book 72 = .ok (.istore 6, 2) := by decide +kernel
theorem dX9_book_74 : decode cX9_book 74 = .ok (.aload_n 0, 1) := by decide +kernel
theorem dX9_book_75 : decode cX9_book 75 = .ok (.getfield 28, 3) := by decide +kernel
theorem dX9_book_78 : decode cX9_book 78 = .ok (.aload_n 0, 1) := by decide +kernel
theorem dX9_book_79 : decode cX9_book 79 = .ok (.getfield 87, 3) := by decide +kernel
theorem dX9_book_82 : decode cX9_book 82 = .ok (.iload 4, 2) := by decide +kernel
theorem dX9_book_84 : decode cX9_book 84 = .ok (.iaload, 1) := by decide +kernel
theorem dX9_book_85 : decode cX9_book 85 = .ok (.iaload, 1) := by decide +kernel
theorem dX9_book_86 : decode cX9_book 86 = .ok (.aload_n 0, 1) := by decide +kernel
theorem dX9_book_87 : decode cX9_book 87 = .ok (.getfield 28, 3) := by decide +kernel
theorem dX9_book_90 : decode cX9_book 90 = .ok (.aload_n 0, 1) := by decide +kernel
theorem dX9_book_91 : decode cX9_book 91 = .ok (.getfield 87, 3) := by decide +kernel
theorem dX9_book_94 : decode cX9_book 94 = .ok (.iload_n 3, 1) := by decide +kernel
theorem dX9_book_95 : decode cX9_book 95 = .ok (.iaload, 1) := by decide +kernel
theorem dX9_book_96 : decode cX9_book 96 = .ok (.iaload, 1) := by decide +kernel
theorem dX9_book_97 : decode cX9_book 97 = .ok (.isub, 1) := by decide +kernel
theorem dX9_book_98 : decode cX9_book 98 = .ok (.istore 7, 2) := by decide +kernel
theorem dX9_book_100 : decode cX9_book 100 = .ok (.aload_n 0, 1) := by decide +kernel
theorem dX9_book_101 : decode cX9_book 101 = .ok (.getfield 77, 3) := by decide +kernel
theorem dX9_book_104 : decode cX9_book 104 = .ok (.iload_n 1, 1) := by decide +kernel
theorem dX9_book_105 : decode cX9_book 105 = .ok (.iload 6, 2) := by decide +kernel
theorem dX9_book_107 : decode cX9_book 107 = .ok (.ifCond .le 8, 3) := by decide +kernel
theorem dX9_book_110 : decode cX9_book 110 = .ok (.iload 7, 2) := by decide +kernel
theorem dX9_book_112 : decode cX9_book 112 = .ok (.ifCond .gt 7, 3) := by decide +kernel
theorem dX9_book_115 : decode cX9_book 115 = .ok (.iconst (-1), 1) := by decide +kernel
theorem dX9_book_116 : decode cX9_book 116 = .ok (.goto 11, 3) := by decide +kernel
theorem dX9_book_119 : decode cX9_book 119 = .ok (.iload 7, 2) := by decide +kernel
theorem dX9_book_121 : decode cX9_book 121 = .ok (.bipush 20, 2) := by decide +kernel
theorem dX9_book_123 : decode cX9_book 123 = .ok (.imul, 1) := by decide +kernel
theorem dX9_book_124 : decode cX9_book 124 = .ok (.iload 6, 2) := by decide +kernel
theorem dX9_book_126 : decode cX9_book 126 = .ok (.idiv, 1) := by decide +kernel
theorem dX9_book_127 : decode cX9_book 127 = .ok (.iastore, 1) := by decide +kernel
theorem dX9_book_128 : decode cX9_book 128 = .ok (.aload_n 0, 1) := by decide +kernel
theorem dX9_book_129 : decode cX9_book 129 = .ok (.getfield 80, 3) := by decide +kernel
theorem dX9_book_132 : decode cX9_book 132 = .ok (.iload_n 1, 1) := by decide +kernel
theorem dX9_book_133 : decode cX9_book 133 = .ok (.aload_n 0, 1) := by decide +kernel
theorem dX9_book_134 : decode cX9_book 134 = .ok (.getfield 115, 3) := by decide +kernel
theorem dX9_book_137 : decode cX9_book 137 = .ok (.iastore, 1) := by decide +kernel
theorem dX9_book_138 : decode cX9_book 138 = .ok (.aload_n 0, 1) := by decide +kernel
theorem dX9_book_139 : decode cX9_book 139 = .ok (.dup, 1) := by decide +kernel
theorem dX9_book_140 : decode cX9_book 140 = .ok (.getfield 195, 3) := by decide +kernel
theorem dX9_book_143 : decode cX9_book 143 = .ok (.iconst 1, 1) := by decide +kernel
theorem dX9_book_144 : decode cX9_book 144 = .ok (.iadd, 1) := by decide +kernel
theorem dX9_book_145 : decode cX9_book 145 = .ok (.putfield 195, 3) := by decide +kernel
theorem dX9_book_148 : decode cX9_book 148 = .ok (.aload_n 0, 1) := by decide +kernel
theorem dX9_book_149 : decode cX9_book 149 = .ok (.getfield 195, 3) := by decide +kernel
theorem dX9_book_152 : decode cX9_book 152 = .ok (.ireturn, 1) := by decide +kernel
set_option maxRecDepth 20000 in
theorem ggX9_vote_X9_in : GoodIn wsX9_vote wsX9_in := goodIn_r _ [6] (by decide +kernel) (by decide +kernel)
set_option maxRecDepth 20000 in
theorem gX9_vote_X9_in : GoodIn wsX9_vote (va_wsS RX9 96 yX9_in wsX9_in) := goodIn_app (goodIn_of _ (by decide +kernel)) ggX9_vote_X9_in
set_option maxRecDepth 20000 in
theorem ggX9_vote_X9_refused : GoodIn wsX9_vote wsX9_refused := goodIn_r _ [10, 11, 12, 13, 14, 15, 16, 17, 18, 19, 20, 21, 22, 23, 24, 25, 26, 27, 28, 29, 30, 31, 32, 33, 34, 35, 36, 37, 38, 39, 40, 41, 42, 43, 44, 45, 46, 47, 48, 49, 50] (by decide +kernel) (by decide +kernel)
set_option maxRecDepth 20000 in
theorem gX9_vote_X9_refused : GoodIn wsX9_vote (wsV RX9 131 RX9 yX9_refused wsX9_refused) := goodIn_app (goodIn_of _ (by decide +kernel)) ggX9_vote_X9_refused
theorem dX9_vote_0 : decode cX9_vote 0 = .ok (.aload_n 0, 1) := by decide +kernel
theorem dX9_vote_1 : decode cX9_vote 1 = .ok (.iload_n 1, 1) := by decide +kernel
theorem dX9_vote_2 : decode cX9_vote 2 = .ok (.iconst 0, 1) := by decide +kernel
theorem dX9_vote_3 : decode cX9_vote 3 = .ok (.iconst 4, 1) := by decide +kernel
theorem dX9_vote_4 : decode cX9_vote 4 = .ok (.invokestatic 96, 3) := by decide +kernel
theorem dX9_vote_7 : decode cX9_vote 7 = .ok (.ifCond .eq 7, 3) := by decide +kernel
theorem dX9_vote_10 : decode cX9_vote 10 = .ok (.iconst 0, 1) := by decide +kernel
theorem dX9_vote_11 : decode cX9_vote 11 = .ok (.goto 4, 3) := by decide +kernel
theorem dX9_vote_14 : decode cX9_vote 14 = .ok (.iconst 1, 1) := by decide +kernel
theorem dX9_vote_15 : decode cX9_vote 15 = .ok (.invokevirtual 131, 3) := by decide +kernel
theorem dX9_vote_18 : decode cX9_vote 18 = .ok (.ifCond .eq 5, 3) := by decide +kernel
theorem dX9_vote_21 : decode cX9_vote 21 = .ok (.iconst 0, 1) := by decide +kernel
theorem dX9_vote_22 : decode cX9_vote 22 = .ok (.ireturn, 1) := by decide +kernel
theorem dX9_vote_23 : decode cX9_vote 23 = .ok (.aload_n 0, 1) := by decide +kernel
theorem dX9_vote_24 : decode cX9_vote 24 = .ok (.getfield 83, 3) := by decide +kernel
theorem dX9_vote_27 : decode cX9_vote 27 = .ok (.iload_n 1, 1) := by decide +kernel
theorem dX9_vote_28 : decode cX9_vote 28 = .ok (.iload_n 2, 1) := by decide +kernel
theorem dX9_vote_29 : decode cX9_vote 29 = .ok (.bastore, 1) := by decide +kernel
theorem dX9_vote_30 : decode cX9_vote 30 = .ok (.iconst 0, 1) := by decide +kernel
theorem dX9_vote_31 : decode cX9_vote 31 = .ok (.istore_n 3, 1) := by decide +kernel
theorem dX9_vote_32 : decode cX9_vote 32 = .ok (.iconst 0, 1) := by decide +kernel
theorem dX9_vote_33 : decode cX9_vote 33 = .ok (.istore 4, 2) := by decide +kernel
theorem dX9_vote_35 : decode cX9_vote 35 = .ok (.iload 4, 2) := by decide +kernel
theorem dX9_vote_37 : decode cX9_vote 37 = .ok (.iconst 5, 1) := by decide +kernel
theorem dX9_vote_38 : decode cX9_vote 38 = .ok (.if_icmp .ge 27, 3) := by decide +kernel
theorem dX9_vote_41 : decode cX9_vote 41 = .ok (.iload_n 3, 1) := by decide +kernel
theorem dX9_vote_42 : decode cX9_vote 42 = .ok (.aload_n 0, 1) := by decide +kernel
theorem dX9_vote_43 : decode cX9_vote 43 = .ok (.getfield 83, 3) := by decide +kernel
theorem dX9_vote_46 : decode cX9_vote 46 = .ok (.iload 4, 2) := by decide +kernel
theorem dX9_vote_48 : decode cX9_vote 48 = .ok (.baload, 1) := by decide +kernel
theorem dX9_vote_49 : decode cX9_vote 49 = .ok (.ifCond .eq 7, 3) := by decide +kernel
theorem dX9_vote_52 : decode cX9_vote 52 = .ok (.iconst 1, 1) := by decide +kernel
theorem dX9_vote_53 : decode cX9_vote 53 = .ok (.goto 4, 3) := by decide +kernel
theorem dX9_vote_56 : decode cX9_vote 56 = .ok (.iconst 0, 1) := by decide +kernel
theorem dX9_vote_57 : decode cX9_vote 57 = .ok (.iadd, 1) := by decide +kernel
theorem dX9_vote_58 : decode cX9_vote 58 = .ok (.istore_n 3, 1) := by decide +kernel
theorem dX9_vote_59 : decode cX9_vote 59 = .ok (.iinc 4 1, 3) := by decide +kernel
theorem dX9_vote_62 : decode cX9_vote 62 = .ok (.goto (-27), 3) := by decide +kernel
theorem dX9_vote_65 : decode cX9_vote 65 = .ok (.aload_n 0, 1) := by decide +kernel
theorem dX9_vote_66 : decode cX9_vote 66 = .ok (.aload_n 0, 1) := by decide +kernel
theorem dX9_vote_67 : decode cX9_vote 67 = .ok (.getfield 198, 3) := by decide +kernel
theorem dX9_vote_70 : decode cX9_vote 70 = .ok (.ifCond .ne 8, 3) := by decide +kernel
theorem dX9_vote_73 : decode cX9_vote 73 = .ok (.iload_n 3, 1) := by decide +kernel
theorem dX9_vote_74 : decode cX9_vote 74 = .ok (.iconst 3, 1) := by decide +kernel
theorem dX9_vote_75 : decode cX9_vote 75 = .ok (.if_icmp .lt 7, 3) := by decide +kernel
theorem dX9_vote_78 : decode cX9_vote 78 = .ok (.iconst 1, 1) := by decide +kernel
theorem dX9_vote_79 : decode cX9_vote 79 = .ok (.goto 4, 3) := by decide +kernel
theorem dX9_vote_82 : decode cX9_vote 82 = .ok (.iconst 0, 1) := by decide +kernel
theorem dX9_vote_83 : decode cX9_vote 83 = .ok (.putfield 198, 3) := by decide +kernel
theorem dX9_vote_86 : decode cX9_vote 86 = .ok (.aload_n 0, 1) := by decide +kernel
theorem dX9_vote_87 : decode cX9_vote 87 = .ok (.getfield 198, 3) := by decide +kernel
theorem dX9_vote_90 : decode cX9_vote 90 = .ok (.ireturn, 1) := by decide +kernel
theorem dX9_day_0 : decode cX9_day 0 = .ok (.aload_n 0, 1) := by decide +kernel
theorem dX9_day_1 : decode cX9_day 1 = .ok (.iconst 0, 1) := by decide +kernel
theorem dX9_day_2 : decode cX9_day 2 = .ok (.putfield 93, 3) := by decide +kernel
theorem dX9_day_5 : decode cX9_day 5 = .ok (.aload_n 0, 1) := by decide +kernel
theorem dX9_day_6 : decode cX9_day 6 = .ok (.getfield 167, 3) := by decide +kernel
theorem dX9_day_9 : decode cX9_day 9 = .ok (.ireturn, 1) := by decide +kernel
set_option maxRecDepth 20000 in
theorem ggX9_from_X9_isOn : GoodIn wsX9_from wsX9_isOn := goodIn_r _ [4, 5, 6, 3, 7] (by decide +kernel) (by decide +kernel)
set_option maxRecDepth 20000 in
theorem gX9_from_X9_isOn : GoodIn wsX9_from (va_wsS RX9 127 yX9_isOn wsX9_isOn) := goodIn_app (goodIn_of _ (by decide +kernel)) ggX9_from_X9_isOn
set_option maxRecDepth 20000 in
theorem ggX9_from_X9_refused : GoodIn wsX9_from wsX9_refused := goodIn_r _ [11, 12, 26, 27, 28, 29, 30, 31, 32, 33, 34, 35, 36, 37, 38, 39, 40, 41, 42, 43, 44, 45, 46, 47, 48, 49, 50, 51, 52, 53, 54, 55, 56, 57, 58, 59, 60, 61, 62, 63, 64] (by decide +kernel) (by decide +kernel)
set_option maxRecDepth 20000 in
theorem gX9_from_X9_refused : GoodIn wsX9_from (wsV RX9 131 RX9 yX9_refused wsX9_refused) := goodIn_app (goodIn_of _ (by decide +kernel)) ggX9_from_X9_refused
set_option maxRecDepth 20000 in
theorem ggX9_from_X9_cell : GoodIn wsX9_from wsX9_cell := goodIn_r _ [15] (by decide +kernel) (by decide +kernel)
set_option maxRecDepth 20000 in
theorem gX9_from_X9_cell : GoodIn wsX9_from (va_wsS RX9 111 yX9_cell wsX9_cell) := goodIn_app (goodIn_of _ (by decide +kernel)) ggX9_from_X9_cell
set_option maxRecDepth 20000 in
theorem ggX9_from_X9_rowFrom : GoodIn wsX9_from wsX9_rowFrom := goodIn_r _ [19, 20, 26, 27, 28, 29, 30, 31, 32, 33, 34, 35, 36, 37, 38, 39, 40, 41, 42, 43, 44, 45, 46, 47, 48, 49, 50, 51, 52, 53, 54, 55, 56, 57, 58, 59, 60, 61, 62, 63, 64] (by decide +kernel) (by decide +kernel)
set_option maxRecDepth 20000 in
theorem gX9_from_X9_rowFrom : GoodIn wsX9_from (wsV RX9 144 RX9 yX9_rowFrom wsX9_rowFrom) := goodIn_app (goodIn_of _ (by decide +kernel)) ggX9_from_X9_rowFrom
set_option maxRecDepth 20000 in
theorem ggX9_from_X9_columnFrom : GoodIn wsX9_from wsX9_columnFrom := goodIn_r _ [24, 25, 26, 27, 28, 29, 30, 31, 32, 33, 34, 35, 36, 37, 38, 39, 40, 41, 42, 43, 44, 45, 46, 47, 48, 49, 50, 51, 52, 53, 54, 55, 56, 57, 58, 59, 60, 61, 62, 63, 64] (by decide +kernel) (by decide +kernel)
set_option maxRecDepth 20000 in
theorem gX9_from_X9_columnFrom : GoodIn wsX9_from (wsV RX9 141 RX9 yX9_columnFrom wsX9_columnFrom) := goodIn_app (goodIn_of _ (by decide +kernel)) ggX9_from_X9_columnFrom
theorem dX9_from_0 : decode cX9_from 0 = .ok (.aload_n 0, 1) := by decide +kernel
theorem dX9_from_1 : decode cX9_from 1 = .ok (.iload_n 1, 1) := by decide +kernel
theorem dX9_from_2 : decode cX9_from 2 = .ok (.invokestatic 127, 3) := by decide +kernel
theorem dX9_from_5 : decode cX9_from 5 = .ok (.ifCond .eq 14, 3) := by decide +kernel
theorem dX9_from_8 : decode cX9_from 8 = .ok (.iload_n 2, 1) := by decide +kernel
theorem dX9_from_9 : decode cX9_from 9 = .ok (.invokestatic 127, 3) := by decide +kernel
theorem dX9_from_12 : decode cX9_from 12 = .ok (.ifCond .eq 7, 3) := by decide +kernel
theorem dX9_from_15 : decode cX9_from 15 = .ok (.iconst 0, 1) := by decide +kernel
theorem dX9_from_16 : decode cX9_from 16 = .ok (.goto 4, 3) := by decide +kernel
theorem dX9_from_19 : decode cX9_from 19 = .ok (.iconst 1, 1) := by decide +kernel
theorem dX9_from_20 : decode cX9_from 20 = .ok (.invokevirtual 131, 3) := by decide +kernel
theorem dX9_from_23 : decode cX9_from 23 = .ok (.ifCond .eq 5, 3) := by decide +kernel
theorem dX9_from_26 : decode cX9_from 26 = .ok (.iconst 0, 1) := by decide +kernel
theorem dX9_from_27 : decode cX9_from 27 = .ok (.ireturn, 1) := by decide +kernel
theorem dX9_from_28 : decode cX9_from 28 = .ok (.iload_n 1, 1) := by decide +kernel
theorem dX9_from_29 : decode cX9_from 29 = .ok (.iload_n 2, 1) := by decide +kernel
theorem dX9_from_30 : decode cX9_from 30 = .ok (.invokestatic 111, 3) := by decide +kernel
theorem dX9_from_33 : decode cX9_from 33 = .ok (.istore 4, 2) := by decide +kernel
theorem dX9_from_35 : decode cX9_from 35 = .ok (.iload_n 3, 1) := by decide +kernel
theorem dX9_from_36 : decode cX9_from 36 = .ok (.ifCond .eq 12, 3) := by decide +kernel
theorem dX9_from_39 : decode cX9_from 39 = .ok (.aload_n 0, 1) := by decide +kernel
theorem dX9_from_40 : decode cX9_from 40 = .ok (.iload 4, 2) := by decide +kernel
theorem dX9_from_42 : decode cX9_from 42 = .ok (.invokevirtual 144, 3) := by decide +kernel
theorem dX9_from_45 : decode cX9_from 45 = .ok (.goto 9, 3) := by decide +kernel
theorem dX9_from_48 : decode cX9_from 48 = .ok (.aload_n 0, 1) := by decide +kernel
theorem dX9_from_49 : decode cX9_from 49 = .ok (.iload 4, 2) := by decide +kernel
theorem dX9_from_51 : decode cX9_from 51 = .ok (.invokevirtual 141, 3) := by decide +kernel
theorem dX9_from_54 : decode cX9_from 54 = .ok (.ireturn, 1) := by decide +kernel
set_option maxRecDepth 20000 in
theorem ggX9_images_X9_isSource : GoodIn wsX9_images wsX9_isSource := goodIn_r _ [6, 7, 8, 9, 5, 10, 41, 42, 43, 44, 45, 46, 47, 48, 49, 50, 51, 52, 53, 54, 55, 56, 57, 58, 59, 60, 61, 62, 63, 64, 65, 66, 67, 68, 69, 70, 71, 72, 73, 74, 75, 76, 77, 78, 79] (by decide +kernel) (by decide +kernel)
set_option maxRecDepth 20000 in
theorem gX9_images_X9_isSource : GoodIn wsX9_images (wsV RX9 154 RX9 yX9_isSource wsX9_isSource) := goodIn_app (goodIn_of _ (by decide +kernel)) ggX9_images_X9_isSource
set_option maxRecDepth 20000 in
theorem ggX9_images_X9_refused : GoodIn wsX9_images wsX9_refused := goodIn_r _ [14, 15, 41, 42, 43, 44, 45, 46, 47, 48, 49, 50, 51, 52, 53, 54, 55, 56, 57, 58, 59, 60, 61, 62, 63, 64, 65, 66, 67, 68, 69, 70, 71, 72, 73, 74, 75, 76, 77, 78, 79] (by decide +kernel) (by decide +kernel)
set_option maxRecDepth 20000 in
theorem gX9_images_X9_refused : GoodIn wsX9_images (wsV RX9 131 RX9 yX9_refused wsX9_refused) := goodIn_app (goodIn_of _ (by decide +kernel)) ggX9_images_X9_refused
set_option maxRecDepth 20000 in
theorem ggX9_images_X9_look : GoodIn wsX9_images wsX9_look := goodIn_r _ [19, 1, 20, 21, 22, 23, 24, 5, 25, 26, 27, 28, 29, 30, 31, 32, 33, 34, 35, 36, 37, 38, 39, 40, 41, 42, 43, 44, 45, 46, 47, 48, 49, 50, 51, 52, 53, 54, 55, 56, 57, 58, 59, 60, 61, 62, 63, 64, 65, 66, 67, 68, 69, 70, 71, 72, 73, 74, 75, 76, 77, 78, 79] (by decide +kernel) (by decide +kernel)
set_option maxRecDepth 20000 in
theorem gX9_images_X9_look : GoodIn wsX9_images (wsV RX9 157 RX9 yX9_look wsX9_look) := goodIn_app (goodIn_of _ (by decide +kernel)) ggX9_images_X9_look
theorem dX9_images_0 : decode cX9_images 0 = .ok (.aload_n 0, 1) := by decide +kernel
theorem dX9_images_1 : decode cX9_images 1 = .ok (.aload_n 0, 1) := by decide +kernel
theorem dX9_images_2 : decode cX9_images 2 = .ok (.iload_n 1, 1) := by decide +kernel
theorem dX9_images_3 : decode cX9_images 3 = .ok (.invokevirtual 154, 3) := by decide +kernel
theorem dX9_images_6 : decode cX9_images 6 = .ok (.ifCond .eq 7, 3) := by decide +kernel
theorem dX9_images_9 : decode cX9_images 9 = .ok (.iconst 0, 1) := by decide +kernel
theorem dX9_images_10 : decode cX9_images 10 = .ok (.goto 4, 3) := by decide +kernel
theorem dX9_images_13 : decode cX9_images 13 = .ok (.iconst 1, 1) := by decide +kernel
theorem dX9_images_14 : decode cX9_images 14 = .ok (.invokevirtual 131, 3) := by decide +kernel
theorem dX9_images_17 : decode cX9_images 17 = .ok (.ifCond .eq 5, 3) := by decide +kernel
theorem dX9_images_20 : decode cX9_images 20 = .ok (.iconst 0, 1) := by decide +kernel
theorem dX9_images_21 : decode cX9_images 21 = .ok (.ireturn, 1) := by decide +kernel
theorem dX9_images_22 : decode cX9_images 22 = .ok (.aload_n 0, 1) := by decide +kernel
theorem dX9_images_23 : decode cX9_images 23 = .ok (.iload_n 1, 1) := by decide +kernel
theorem dX9_images_24 : decode cX9_images 24 = .ok (.invokevirtual 157, 3) := by decide +kernel
theorem dX9_images_27 : decode cX9_images 27 = .ok (.aload_n 0, 1) := by decide +kernel
theorem dX9_images_28 : decode cX9_images 28 = .ok (.getfield 138, 3) := by decide +kernel
theorem dX9_images_31 : decode cX9_images 31 = .ok (.ireturn, 1) := by decide +kernel
set_option maxRecDepth 20000 in
theorem ggX9_imagesAnew_X9_images : GoodIn wsX9_imagesAnew wsX9_images := goodIn_r _ [5, 6, 7, 8, 9, 4, 10, 11, 12, 13, 14, 15, 16, 17, 18, 19, 20, 21, 22, 23, 24, 25, 26, 27, 28, 29, 30, 31, 32, 33, 34, 35, 36, 37, 38, 39, 40, 41, 42, 43, 44, 45, 46, 47, 48, 49, 50, 51, 52, 53, 54, 55, 56, 57, 58, 59, 60, 61, 62, 63, 64, 65, 66, 67, 68, 69, 70, 71, 72, 73, 74, 75, 76, 77, 78, 79, 80, 81, 82, 83] (by decide +kernel) (by decide +kernel)
set_option maxRecDepth 20000 in
theorem gX9_imagesAnew_X9_images : GoodIn wsX9_imagesAnew (wsV RX9 202 RX9 yX9_images wsX9_images) := goodIn_app (goodIn_of _ (by decide +kernel)) ggX9_imagesAnew_X9_images
theorem dX9_imagesAnew_0 : decode cX9_imagesAnew 0 = .ok (.aload_n 0, 1) := by decide +kernel
theorem dX9_imagesAnew_1 : decode cX9_imagesAnew 1 = .ok (.iload_n 1, 1) := by decide +kernel
theorem dX9_imagesAnew_2 : decode cX9_imagesAnew 2 = .ok (.invokevirtual 202, 3) := by decide +kernel
theorem dX9_imagesAnew_5 : decode cX9_imagesAnew 5 = .ok (.ireturn, 1) := by decide +kernel
set_option maxRecDepth 20000 in
theorem ggX9_imageOf_X9_isImage : GoodIn wsX9_imageOf wsX9_isImage := goodIn_r _ [7, 8, 9, 10, 11, 6, 12, 13, 14, 15, 16, 17, 18, 19, 20, 21, 22, 1, 23, 24, 25, 26, 27, 28, 29, 30, 31, 32, 33, 34, 35, 36, 37, 38, 39, 2, 54, 55, 56, 57, 58, 59, 60, 61, 62, 63, 64, 65, 66, 67, 68, 69, 70, 71, 72, 73, 74, 75, 76, 77, 78, 79, 80, 81, 82, 83, 84, 85, 86, 87, 88, 89, 90, 91, 92] (by decide +kernel) (by decide +kernel)
set_option maxRecDepth 20000 in
theorem gX9_imageOf_X9_isImage : GoodIn wsX9_imageOf (wsV RX9 176 RX9 yX9_isImage wsX9_isImage) := goodIn_app (goodIn_of _ (by decide +kernel)) ggX9_imageOf_X9_isImage
set_option maxRecDepth 20000 in
theorem ggX9_imageOf_X9_in : GoodIn wsX9_imageOf wsX9_in := goodIn_r _ [16] (by decide +kernel) (by decide +kernel)
set_option maxRecDepth 20000 in
theorem gX9_imageOf_X9_in : GoodIn wsX9_imageOf (va_wsS RX9 96 yX9_in wsX9_in) := goodIn_app (goodIn_of _ (by decide +kernel)) ggX9_imageOf_X9_in
set_option maxRecDepth 20000 in
theorem ggX9_imageOf_X9_refused : GoodIn wsX9_imageOf wsX9_refused := goodIn_r _ [43, 44, 54, 55, 56, 57, 58, 59, 60, 61, 62, 63, 64, 65, 66, 67, 68, 69, 70, 71, 72, 73, 74, 75, 76, 77, 78, 79, 80, 81, 82, 83, 84, 85, 86, 87, 88, 89, 90, 91, 92] (by decide +kernel) (by decide +kernel)
set_option maxRecDepth 20000 in
theorem gX9_imageOf_X9_refused : GoodIn wsX9_imageOf (wsV RX9 131 RX9 yX9_refused wsX9_refused) := goodIn_app (goodIn_of _ (by decide +kernel)) ggX9_imageOf_X9_refused
set_option maxRecDepth 20000 in
theorem ggX9_imageOf_X9_timesOf : GoodIn wsX9_imageOf wsX9_timesOf := goodIn_r _ [48, 1, 26, 27, 28, 6, 29, 30, 31, 32, 33, 34, 35, 54, 55, 56, 57, 58, 59, 60, 61, 62, 63, 64, 65, 66, 67, 68, 69, 70, 71, 72, 73, 74, 75, 76, 77, 78, 79, 80, 81, 82, 83, 84, 85, 86, 87, 88, 89, 90, 91, 92] (by decide +kernel) (by decide +kernel)
set_option maxRecDepth 20000 in
theorem gX9_imageOf_X9_timesOf : GoodIn wsX9_imageOf (wsV RX9 164 RX9 yX9_timesOf wsX9_timesOf) := goodIn_app (goodIn_of _ (by decide +kernel)) ggX9_imageOf_X9_timesOf
set_option maxRecDepth 20000 in
theorem ggX9_imageOf_X9_lateOf : GoodIn wsX9_imageOf wsX9_lateOf := goodIn_r _ [52, 2, 1, 53, 54, 55, 56, 57, 58, 59, 60, 61, 62, 63, 64, 65, 66, 67, 68, 69, 70, 71, 72, 73, 74, 75, 76, 77, 78, 79, 80, 81, 82, 83, 84, 85, 86, 87, 88, 89, 90, 91, 92] (by decide +kernel) (by decide +kernel)
set_option maxRecDepth 20000 in
theorem gX9_imageOf_X9_lateOf : GoodIn wsX9_imageOf (wsV RX9 170 RX9 yX9_lateOf wsX9_lateOf) := goodIn_app (goodIn_of _ (by decide +kernel)) ggX9_imageOf_X9_lateOf
theorem dX9_imageOf_0 : decode cX9_imageOf 0 = .ok (.aload_n 0, 1) := by decide +kernel
theorem dX9_imageOf_1 : decode cX9_imageOf 1 = .ok (.iload_n 1, 1) := by decide +kernel
theorem dX9_imageOf_2 : decode cX9_imageOf 2 = .ok (.iload_n 2, 1) := by decide +kernel
theorem dX9_imageOf_3 : decode cX9_imageOf 3 = .ok (.invokevirtual 176, 3) := by decide +kernel
theorem dX9_imageOf_6 : decode cX9_imageOf 6 = .ok (.istore 4, 2) := by decide +kernel
theorem dX9_imageOf_8 : decode cX9_imageOf 8 = .ok (.aload_n 0, 1) := by decide +kernel
theorem dX9_imageOf_9 : decode cX9_imageOf 9 = .ok (.iload 4, 2) := by decide +kernel
theorem dX9_imageOf_11 : decode cX9_imageOf 11 = .ok (.ifCond .ne 7, 3) := by decide +kernel
theorem dX9_imageOf_14 : decode cX9_imageOf 14 = .ok (.iconst 1, 1) := by decide +kernel
theorem dX9_imageOf_15 : decode cX9_imageOf 15 = .ok (.goto 17, 3) := by decide +kernel
theorem dX9_imageOf_18 : decode cX9_imageOf 18 = .ok (.iload_n 3, 1) := by decide +kernel
theorem dX9_imageOf_19 : decode cX9_imageOf 19 = .ok (.iconst 0, 1) := by decide +kernel
theorem dX9_imageOf_20 : decode cX9_imageOf 20 = .ok (.iconst 4, 1) := by decide +kernel
theorem dX9_imageOf_21 : decode cX9_imageOf 21 = .ok (.invokestatic 96, 3) := by decide +kernel
theorem dX9_imageOf_24 : decode cX9_imageOf 24 = .ok (.ifCond .ne 7, 3) := by decide +kernel
theorem dX9_imageOf_27 : decode cX9_imageOf 27 = .ok (.iconst 2, 1) := by decide +kernel
theorem dX9_imageOf_28 : decode cX9_imageOf 28 = .ok (.goto 4, 3) := by decide +kernel
theorem dX9_imageOf_31 : decode cX9_imageOf 31 = .ok (.iconst 0, 1) := by decide +kernel
theorem dX9_imageOf_32 : decode cX9_imageOf 32 = .ok (.invokevirtual 131, 3) := by decide +kernel
theorem dX9_imageOf_35 : decode cX9_imageOf 35 = .ok (.ifCond .eq 5, 3) := by decide +kernel
theorem dX9_imageOf_38 : decode cX9_imageOf 38 = .ok (.iconst 0, 1) := by decide +kernel
theorem dX9_imageOf_39 : decode cX9_imageOf 39 = .ok (.ireturn, 1) := by decide +kernel
theorem dX9_imageOf_40 : decode cX9_imageOf 40 = .ok (.aload_n 0, 1) := by decide +kernel
theorem dX9_imageOf_41 : decode cX9_imageOf 41 = .ok (.getfield 87, 3) := by decide +kernel
theorem dX9_imageOf_44 : decode cX9_imageOf 44 = .ok (.iload_n 2, 1) := by decide +kernel
theorem dX9_imageOf_45 : decode cX9_imageOf 45 = .ok (.iaload, 1) := by decide +kernel
theorem dX9_imageOf_46 : decode cX9_imageOf 46 = .ok (.istore 5, 2) := by decide +kernel
theorem dX9_imageOf_48 : decode cX9_imageOf 48 = .ok (.iload_n 3, 1) := by decide +kernel
theorem dX9_imageOf_49 : decode cX9_imageOf 49 = .ok (.tableswitch 63 0 3 #[31, 40, 49, 55], 31) := by decide +kernel
theorem dX9_imageOf_80 : decode cX9_imageOf 80 = .ok (.iload 5, 2) := by decide +kernel
theorem dX9_imageOf_82 : decode cX9_imageOf 82 = .ok (.bipush 22, 2) := by decide +kernel
theorem dX9_imageOf_84 : decode cX9_imageOf 84 = .ok (.irem, 1) := by decide +kernel
theorem dX9_imageOf_85 : decode cX9_imageOf 85 = .ok (.bipush 10, 2) := by decide +kernel
theorem dX9_imageOf_87 : decode cX9_imageOf 87 = .ok (.isub, 1) := by decide +kernel
theorem dX9_imageOf_88 : decode cX9_imageOf 88 = .ok (.ireturn, 1) := by decide +kernel
theorem dX9_imageOf_89 : decode cX9_imageOf 89 = .ok (.iload 5, 2) := by decide +kernel
theorem dX9_imageOf_91 : decode cX9_imageOf 91 = .ok (.bipush 22, 2) := by decide +kernel
theorem dX9_imageOf_93 : decode cX9_imageOf 93 = .ok (.idiv, 1) := by decide +kernel
theorem dX9_imageOf_94 : decode cX9_imageOf 94 = .ok (.bipush 10, 2) := by decide +kernel
theorem dX9_imageOf_96 : decode cX9_imageOf 96 = .ok (.isub, 1) := by decide +kernel
theorem dX9_imageOf_97 : decode cX9_imageOf 97 = .ok (.ireturn, 1) := by decide +kernel
theorem dX9_imageOf_98 : decode cX9_imageOf 98 = .ok (.aload_n 0, 1) := by decide +kernel
theorem dX9_imageOf_99 : decode cX9_imageOf 99 = .ok (.iload_n 2, 1) := by decide +kernel
theorem dX9_imageOf_100 : decode cX9_imageOf 100 = .ok (.invokevirtual 164, 3) := by decide +kernel
theorem dX9_imageOf_103 : decode cX9_imageOf 103 = .ok (.ireturn, 1) := by decide +kernel
theorem dX9_imageOf_104 : decode cX9_imageOf 104 = .ok (.aload_n 0, 1) := by decide +kernel
theorem dX9_imageOf_105 : decode cX9_imageOf 105 = .ok (.getfield 28, 3) := by decide +kernel
theorem dX9_imageOf_108 : decode cX9_imageOf 108 = .ok (.iload 5, 2) := by decide +kernel
theorem dX9_imageOf_110 : decode cX9_imageOf 110 = .ok (.iaload, 1) := by decide +kernel
theorem dX9_imageOf_111 : decode cX9_imageOf 111 = .ok (.ireturn, 1) := by decide +kernel
theorem dX9_imageOf_112 : decode cX9_imageOf 112 = .ok (.aload_n 0, 1) := by decide +kernel
theorem dX9_imageOf_113 : decode cX9_imageOf 113 = .ok (.iload_n 2, 1) := by decide +kernel
theorem dX9_imageOf_114 : decode cX9_imageOf 114 = .ok (.invokevirtual 170, 3) := by decide +kernel
theorem dX9_imageOf_117 : decode cX9_imageOf 117 = .ok (.ireturn, 1) := by decide +kernel
set_option maxRecDepth 20000 in
theorem ggX9_hitsOf_X9_cell : GoodIn wsX9_hitsOf wsX9_cell := goodIn_r _ [4] (by decide +kernel) (by decide +kernel)
set_option maxRecDepth 20000 in
theorem gX9_hitsOf_X9_cell : GoodIn wsX9_hitsOf (va_wsS RX9 111 yX9_cell wsX9_cell) := goodIn_app (goodIn_of _ (by decide +kernel)) ggX9_hitsOf_X9_cell
set_option maxRecDepth 20000 in
theorem ggX9_hitsOf_X9_columnFrom : GoodIn wsX9_hitsOf wsX9_columnFrom := goodIn_r _ [8, 9, 15, 16, 17, 18, 19, 20, 21, 22, 23, 24, 25, 26, 27, 28, 29, 30, 31, 32, 33, 34, 35, 36, 37, 38, 39, 40, 41, 42, 43, 44, 45, 46, 47, 48, 49, 50, 51, 52, 53] (by decide +kernel) (by decide +kernel)
set_option maxRecDepth 20000 in
theorem gX9_hitsOf_X9_columnFrom : GoodIn wsX9_hitsOf (wsV RX9 141 RX9 yX9_columnFrom wsX9_columnFrom) := goodIn_app (goodIn_of _ (by decide +kernel)) ggX9_hitsOf_X9_columnFrom
set_option maxRecDepth 20000 in
theorem ggX9_hitsOf_X9_rowFrom : GoodIn wsX9_hitsOf wsX9_rowFrom := goodIn_r _ [13, 14, 15, 16, 17, 18, 19, 20, 21, 22, 23, 24, 25, 26, 27, 28, 29, 30, 31, 32, 33, 34, 35, 36, 37, 38, 39, 40, 41, 42, 43, 44, 45, 46, 47, 48, 49, 50, 51, 52, 53] (by decide +kernel) (by decide +kernel)
set_option maxRecDepth 20000 in
theorem gX9_hitsOf_X9_rowFrom : GoodIn wsX9_hitsOf (wsV RX9 144 RX9 yX9_rowFrom wsX9_rowFrom) := goodIn_app (goodIn_of _ (by decide +kernel)) ggX9_hitsOf_X9_rowFrom
theorem dX9_hitsOf_0 : decode cX9_hitsOf 0 = .ok (.iconst 0, 1) := by decide +kernel
theorem dX9_hitsOf_1 : decode cX9_hitsOf 1 = .ok (.istore_n 3, 1) := by decide +kernel
theorem dX9_hitsOf_2 : decode cX9_hitsOf 2 = .ok (.iconst 0, 1) := by decide +kernel
theorem dX9_hitsOf_3 : decode cX9_hitsOf 3 = .ok (.istore 4, 2) := by decide +kernel
theorem dX9_hitsOf_5 : decode cX9_hitsOf 5 = .ok (.iload 4, 2) := by decide +kernel
theorem dX9_hitsOf_7 : decode cX9_hitsOf 7 = .ok (.sipush 441, 3) := by decide +kernel
theorem dX9_hitsOf_10 : decode cX9_hitsOf 10 = .ok (.if_icmp .ge 58, 3) := by decide +kernel
theorem dX9_hitsOf_13 : decode cX9_hitsOf 13 = .ok (.iload 4, 2) := by decide +kernel
theorem dX9_hitsOf_15 : decode cX9_hitsOf 15 = .ok (.bipush 21, 2) := by decide +kernel
theorem dX9_hitsOf_17 : decode cX9_hitsOf 17 = .ok (.irem, 1) := by decide +kernel
theorem dX9_hitsOf_18 : decode cX9_hitsOf 18 = .ok (.bipush 10, 2) := by decide +kernel
theorem dX9_hitsOf_20 : decode cX9_hitsOf 20 = .ok (.isub, 1) := by decide +kernel
theorem dX9_hitsOf_21 : decode cX9_hitsOf 21 = .ok (.iload 4, 2) := by decide +kernel
theorem dX9_hitsOf_23 : decode cX9_hitsOf 23 = .ok (.bipush 21, 2) := by decide +kernel
theorem dX9_hitsOf_25 : decode cX9_hitsOf 25 = .ok (.idiv, 1) := by decide +kernel
theorem dX9_hitsOf_26 : decode cX9_hitsOf 26 = .ok (.bipush 10, 2) := by decide +kernel
theorem dX9_hitsOf_28 : decode cX9_hitsOf 28 = .ok (.isub, 1) := by decide +kernel
theorem dX9_hitsOf_29 : decode cX9_hitsOf 29 = .ok (.invokestatic 111, 3) := by decide +kernel
theorem dX9_hitsOf_32 : decode cX9_hitsOf 32 = .ok (.istore 5, 2) := by decide +kernel
theorem dX9_hitsOf_34 : decode cX9_hitsOf 34 = .ok (.iload_n 3, 1) := by decide +kernel
theorem dX9_hitsOf_35 : decode cX9_hitsOf 35 = .ok (.aload_n 0, 1) := by decide +kernel
theorem dX9_hitsOf_36 : decode cX9_hitsOf 36 = .ok (.iload 5, 2) := by decide +kernel
theorem dX9_hitsOf_38 : decode cX9_hitsOf 38 = .ok (.invokevirtual 141, 3) := by decide +kernel
theorem dX9_hitsOf_41 : decode cX9_hitsOf 41 = .ok (.iload_n 1, 1) := by decide +kernel
theorem dX9_hitsOf_42 : decode cX9_hitsOf 42 = .ok (.if_icmp .ne 17, 3) := by decide +kernel
theorem dX9_hitsOf_45 : decode cX9_hitsOf 45 = .ok (.aload_n 0, 1) := by decide +kernel
theorem dX9_hitsOf_46 : decode cX9_hitsOf 46 = .ok (.iload 5, 2) := by decide +kernel
theorem dX9_hitsOf_48 : decode cX9_hitsOf 48 = .ok (.invokevirtual 144, 3) := by decide +kernel
theorem dX9_hitsOf_51 : decode cX9_hitsOf 51 = .ok (.iload_n 2, 1) := by decide +kernel
theorem dX9_hitsOf_52 : decode cX9_hitsOf 52 = .ok (.if_icmp .ne 7, 3) := by decide +kernel
theorem dX9_hitsOf_55 : decode cX9_hitsOf 55 = .ok (.iconst 1, 1) := by decide +kernel
theorem dX9_hitsOf_56 : decode cX9_hitsOf 56 = .ok (.goto 4, 3) := by decide +kernel
theorem dX9_hitsOf_59 : decode cX9_hitsOf 59 = .ok (.iconst 0, 1) := by decide +kernel
theorem dX9_hitsOf_60 : decode cX9_hitsOf 60 = .ok (.iadd, 1) := by decide +kernel
theorem dX9_hitsOf_61 : decode cX9_hitsOf 61 = .ok (.istore_n 3, 1) := by decide +kernel
theorem dX9_hitsOf_62 : decode cX9_hitsOf 62 = .ok (.iinc 4 1, 3) := by decide +kernel
theorem dX9_hitsOf_65 : decode cX9_hitsOf 65 = .ok (.goto (-60), 3) := by decide +kernel
theorem dX9_hitsOf_68 : decode cX9_hitsOf 68 = .ok (.iload_n 3, 1) := by decide +kernel
theorem dX9_hitsOf_69 : decode cX9_hitsOf 69 = .ok (.ireturn, 1) := by decide +kernel
set_option maxRecDepth 20000 in
theorem ggX9_hits_X9_isOn : GoodIn wsX9_hits wsX9_isOn := goodIn_r _ [4, 5, 6, 3, 7] (by decide +kernel) (by decide +kernel)
set_option maxRecDepth 20000 in
theorem gX9_hits_X9_isOn : GoodIn wsX9_hits (va_wsS RX9 127 yX9_isOn wsX9_isOn) := goodIn_app (goodIn_of _ (by decide +kernel)) ggX9_hits_X9_isOn
set_option maxRecDepth 20000 in
theorem ggX9_hits_X9_refused : GoodIn wsX9_hits wsX9_refused := goodIn_r _ [11, 12, 30, 31, 32, 33, 34, 35, 36, 37, 38, 39, 40, 41, 42, 43, 44, 45, 46, 47, 48, 49, 50, 51, 52, 53, 54, 55, 56, 57, 58, 59, 60, 61, 62, 63, 64, 65, 66, 67, 68] (by decide +kernel) (by decide +kernel)
set_option maxRecDepth 20000 in
theorem gX9_hits_X9_refused : GoodIn wsX9_hits (wsV RX9 131 RX9 yX9_refused wsX9_refused) := goodIn_app (goodIn_of _ (by decide +kernel)) ggX9_hits_X9_refused
set_option maxRecDepth 20000 in
theorem ggX9_hits_X9_hitsOf : GoodIn wsX9_hits wsX9_hitsOf := goodIn_r _ [16, 17, 18, 3, 19, 20, 21, 22, 23, 24, 25, 26, 27, 28, 29, 30, 31, 32, 33, 34, 35, 36, 37, 38, 39, 40, 41, 42, 43, 44, 45, 46, 47, 48, 49, 50, 51, 52, 53, 54, 55, 56, 57, 58, 59, 60, 61, 62, 63, 64, 65, 66, 67, 68] (by decide +kernel) (by decide +kernel)
set_option maxRecDepth 20000 in
theorem gX9_hits_X9_hitsOf : GoodIn wsX9_hits (wsV RX9 204 RX9 yX9_hitsOf wsX9_hitsOf) := goodIn_app (goodIn_of _ (by decide +kernel)) ggX9_hits_X9_hitsOf
theorem dX9_hits_0 : decode cX9_hits 0 = .ok (.aload_n 0, 1) := by decide +kernel
theorem dX9_hits_1 : decode cX9_hits 1 = .ok (.iload_n 1, 1) := by decide +kernel
theorem dX9_hits_2 : decode cX9_hits 2 = .ok (.invokestatic 127, 3) := by decide +kernel
theorem dX9_hits_5 : decode cX9_hits 5 = .ok (.ifCond .eq 14, 3) := by decide +kernel
theorem dX9_hits_8 : decode cX9_hits 8 = .ok (.iload_n 2, 1) := by decide +kernel
theorem dX9_hits_9 : decode cX9_hits 9 = .ok (.invokestatic 127, 3) := by decide +kernel
theorem dX9_hits_12 : decode cX9_hits 12 = .ok (.ifCond .eq 7, 3) := by decide +kernel
theorem dX9_hits_15 : decode cX9_hits 15 = .ok (.iconst 0, 1) := by decide +kernel
theorem dX9_hits_16 : decode cX9_hits 16 = .ok (.goto 4, 3) := by decide +kernel
theorem dX9_hits_19 : decode cX9_hits 19 = .ok (.iconst 1, 1) := by decide +kernel
theorem dX9_hits_20 : decode cX9_hits 20 = .ok (.invokevirtual 131, 3) := by decide +kernel
theorem dX9_hits_23 : decode cX9_hits 23 = .ok (.ifCond .eq 7, 3) := by decide +kernel
theorem dX9_hits_26 : decode cX9_hits 26 = .ok (.iconst 0, 1) := by decide +kernel
theorem dX9_hits_27 : decode cX9_hits 27 = .ok (.goto 9, 3) := by decide +kernel
theorem dX9_hits_30 : decode cX9_hits 30 = .ok (.aload_n 0, 1) := by decide +kernel
theorem dX9_hits_31 : decode cX9_hits 31 = .ok (.iload_n 1, 1) := by decide +kernel
theorem dX9_hits_32 : decode cX9_hits 32 = .ok (.iload_n 2, 1) := by decide +kernel
theorem dX9_hits_33 : decode cX9_hits 33 = .ok (.invokevirtual 204, 3) := by decide +kernel
theorem dX9_hits_36 : decode cX9_hits 36 = .ok (.ireturn, 1) := by decide +kernel
set_option maxRecDepth 20000 in
theorem ggX9_lost_X9_cell : GoodIn wsX9_lost wsX9_cell := goodIn_r _ [5] (by decide +kernel) (by decide +kernel)
set_option maxRecDepth 20000 in
theorem gX9_lost_X9_cell : GoodIn wsX9_lost (va_wsS RX9 111 yX9_cell wsX9_cell) := goodIn_app (goodIn_of _ (by decide +kernel)) ggX9_lost_X9_cell
set_option maxRecDepth 20000 in
theorem ggX9_lost_X9_columnFrom : GoodIn wsX9_lost wsX9_columnFrom := goodIn_r _ [9, 10, 22, 23, 24, 25, 26, 27, 28, 29, 30, 31, 32, 33, 34, 35, 36, 37, 38, 39, 40, 41, 42, 43, 44, 45, 46, 47, 48, 49, 50, 51, 52, 53, 54, 55, 56, 57, 58, 59, 60] (by decide +kernel) (by decide +kernel)
set_option maxRecDepth 20000 in
theorem gX9_lost_X9_columnFrom : GoodIn wsX9_lost (wsV RX9 141 RX9 yX9_columnFrom wsX9_columnFrom) := goodIn_app (goodIn_of _ (by decide +kernel)) ggX9_lost_X9_columnFrom
set_option maxRecDepth 20000 in
theorem ggX9_lost_X9_isOn : GoodIn wsX9_lost wsX9_isOn := goodIn_r _ [13, 14, 15, 4, 16] (by decide +kernel) (by decide +kernel)
set_option maxRecDepth 20000 in
theorem gX9_lost_X9_isOn : GoodIn wsX9_lost (va_wsS RX9 127 yX9_isOn wsX9_isOn) := goodIn_app (goodIn_of _ (by decide +kernel)) ggX9_lost_X9_isOn
set_option maxRecDepth 20000 in
theorem ggX9_lost_X9_rowFrom : GoodIn wsX9_lost wsX9_rowFrom := goodIn_r _ [20, 21, 22, 23, 24, 25, 26, 27, 28, 29, 30, 31, 32, 33, 34, 35, 36, 37, 38, 39, 40, 41, 42, 43, 44, 45, 46, 47, 48, 49, 50, 51, 52, 53, 54, 55, 56, 57, 58, 59, 60] (by decide +kernel) (by decide +kernel)
set_option maxRecDepth 20000 in
theorem gX9_lost_X9_rowFrom : GoodIn wsX9_lost (wsV RX9 144 RX9 yX9_rowFrom wsX9_rowFrom) := goodIn_app (goodIn_of _ (by decide +kernel)) ggX9_lost_X9_rowFrom
theorem dX9_lost_0 : decode cX9_lost 0 = .ok (.aload_n 0, 1) := by decide +kernel
theorem dX9_lost_1 : decode cX9_lost 1 = .ok (.iconst 0, 1) := by decide +kernel
theorem dX9_lost_2 : decode cX9_lost 2 = .ok (.putfield 93, 3) := by decide +kernel
theorem dX9_lost_5 : decode cX9_lost 5 = .ok (.iconst 0, 1) := by decide +kernel
theorem dX9_lost_6 : decode cX9_lost 6 = .ok (.istore_n 1, 1) := by decide +kernel
theorem dX9_lost_7 : decode cX9_lost 7 = .ok (.iconst 0, 1) := by decide +kernel
theorem dX9_lost_8 : decode cX9_lost 8 = .ok (.istore_n 2, 1) := by decide +kernel
theorem dX9_lost_9 : decode cX9_lost 9 = .ok (.iload_n 2, 1) := by decide +kernel
theorem dX9_lost_10 : decode cX9_lost 10 = .ok (.sipush 441, 3) := by decide +kernel
theorem dX9_lost_13 : decode cX9_lost 13 = .ok (.if_icmp .ge 57, 3) := by decide +kernel
theorem dX9_lost_16 : decode cX9_lost 16 = .ok (.iload_n 2, 1) := by decide +kernel
theorem dX9_lost_17 : decode cX9_lost 17 = .ok (.bipush 21, 2) := by decide +kernel
theorem dX9_lost_19 : decode cX9_lost 19 = .ok (.irem, 1) := by decide +kernel
theorem dX9_lost_20 : decode cX9_lost 20 = .ok (.bipush 10, 2) := by decide +kernel
theorem dX9_lost_22 : decode cX9_lost 22 = .ok (.isub, 1) := by decide +kernel
theorem dX9_lost_23 : decode cX9_lost 23 = .ok (.iload_n 2, 1) := by decide +kernel
theorem dX9_lost_24 : decode cX9_lost 24 = .ok (.bipush 21, 2) := by decide +kernel
theorem dX9_lost_26 : decode cX9_lost 26 = .ok (.idiv, 1) := by decide +kernel
theorem dX9_lost_27 : decode cX9_lost 27 = .ok (.bipush 10, 2) := by decide +kernel
theorem dX9_lost_29 : decode cX9_lost 29 = .ok (.isub, 1) := by decide +kernel
theorem dX9_lost_30 : decode cX9_lost 30 = .ok (.invokestatic 111, 3) := by decide +kernel
theorem dX9_lost_33 : decode cX9_lost 33 = .ok (.istore_n 3, 1) := by decide +kernel
theorem dX9_lost_34 : decode cX9_lost 34 = .ok (.iload_n 1, 1) := by decide +kernel
theorem dX9_lost_35 : decode cX9_lost 35 = .ok (.aload_n 0, 1) := by decide +kernel
theorem dX9_lost_36 : decode cX9_lost 36 = .ok (.iload_n 3, 1) := by decide +kernel
theorem dX9_lost_37 : decode cX9_lost 37 = .ok (.invokevirtual 141, 3) := by decide +kernel
theorem dX9_lost_40 : decode cX9_lost 40 = .ok (.invokestatic 127, 3) := by decide +kernel
theorem dX9_lost_43 : decode cX9_lost 43 = .ok (.ifCond .eq 18, 3) := by decide +kernel
theorem dX9_lost_46 : decode cX9_lost 46 = .ok (.aload_n 0, 1) := by decide +kernel
theorem dX9_lost_47 : decode cX9_lost 47 = .ok (.iload_n 3, 1) := by decide +kernel
theorem dX9_lost_48 : decode cX9_lost 48 = .ok (.invokevirtual 144, 3) := by decide +kernel
theorem dX9_lost_51 : decode cX9_lost 51 = .ok (.invokestatic 127, 3) := by decide +kernel
theorem dX9_lost_54 : decode cX9_lost 54 = .ok (.ifCond .eq 7, 3) := by decide +kernel
theorem dX9_lost_57 : decode cX9_lost 57 = .ok (.iconst 0, 1) := by decide +kernel
theorem dX9_lost_58 : decode cX9_lost 58 = .ok (.goto 4, 3) := by decide +kernel
theorem dX9_lost_61 : decode cX9_lost 61 = .ok (.iconst 1, 1) := by decide +kernel
theorem dX9_lost_62 : decode cX9_lost 62 = .ok (.iadd, 1) := by decide +kernel
theorem dX9_lost_63 : decode cX9_lost 63 = .ok (.istore_n 1, 1) := by decide +kernel
theorem dX9_lost_64 : decode cX9_lost 64 = .ok (.iinc 2 1, 3) := by decide +kernel
theorem dX9_lost_67 : decode cX9_lost 67 = .ok (.goto (-58), 3) := by decide +kernel
theorem dX9_lost_70 : decode cX9_lost 70 = .ok (.iload_n 1, 1) := by decide +kernel
theorem dX9_lost_71 : decode cX9_lost 71 = .ok (.ireturn, 1) := by decide +kernel
