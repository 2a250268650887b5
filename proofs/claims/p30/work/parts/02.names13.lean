set_option maxRecDepth 20000 in
theorem gX5_countFrom_X5_placeOf : GoodIn wsX5_countFrom (va_wsS RX5 53 yX5_placeOf wsX5_placeOf) := goodIn_app (goodIn_of _ (by decide +kernel)) ggX5_countFrom_X5_placeOf
set_option maxRecDepth 20000 in
theorem ggX5_countFrom_X5_comesFrom : GoodIn wsX5_countFrom wsX5_comesFrom := goodIn_r _ [8, 9, 10, 11, 12, 13, 3, 14, 15, 16, 17, 18] (by decide +kernel) (by decide +kernel)
set_option maxRecDepth 20000 in
theorem gX5_countFrom_X5_comesFrom : GoodIn wsX5_countFrom (wsV RX5 57 RX5 yX5_comesFrom wsX5_comesFrom) := goodIn_app (goodIn_of _ (by decide +kernel)) ggX5_countFrom_X5_comesFrom
theorem dX5_countFrom_0 : decode cX5_countFrom 0 = .ok (.iconst 0, 1) := by decide +kernel
theorem dX5_countFrom_1 : decode cX5_countFrom 1 = .ok (.istore_n 3, 1) := by decide +kernel
theorem dX5_countFrom_2 : decode cX5_countFrom 2 = .ok (.bipush (-10), 2) := by decide +kernel
theorem dX5_countFrom_4 : decode cX5_countFrom 4 = .ok (.istore 4, 2) := by decide +kernel
theorem dX5_countFrom_6 : decode cX5_countFrom 6 = .ok (.iload 4, 2) := by decide +kernel
theorem dX5_countFrom_8 : decode cX5_countFrom 8 = .ok (.bipush 10, 2) := by decide +kernel
theorem dX5_countFrom_10 : decode cX5_countFrom 10 = .ok (.if_icmp .gt 45, 3) := by decide +kernel
theorem dX5_countFrom_13 : decode cX5_countFrom 13 = .ok (.bipush (-10), 2) := by decide +kernel
theorem dX5_countFrom_15 : decode cX5_countFrom 15 = .ok (.istore 5, 2) := by decide +kernel
theorem dX5_countFrom_17 : decode cX5_countFrom 17 = .ok (.iload 5, 2) := by decide +kernel
theorem dX5_countFrom_19 : decode cX5_countFrom 19 = .ok (.bipush 10, 2) := by decide +kernel
theorem dX5_countFrom_21 : decode cX5_countFrom 21 = .ok (.if_icmp .gt 28, 3) := by decide +kernel
theorem dX5_countFrom_24 : decode cX5_countFrom 24 = .ok (.aload_n 0, 1) := by decide +kernel
theorem dX5_countFrom_25 : decode cX5_countFrom 25 = .ok (.iload 5, 2) := by decide +kernel
theorem dX5_countFrom_27 : decode cX5_countFrom 27 = .ok (.iload 4, 2) := by decide +kernel
theorem dX5_countFrom_29 : decode cX5_countFrom 29 = .ok (.invokestatic 53, 3) := by decide +kernel
theorem dX5_countFrom_32 : decode cX5_countFrom 32 = .ok (.iload_n 1, 1) := by decide +kernel
theorem dX5_countFrom_33 : decode cX5_countFrom 33 = .ok (.iload_n 2, 1) := by decide +kernel
theorem dX5_countFrom_34 : decode cX5_countFrom 34 = .ok (.invokevirtual 57, 3) := by decide +kernel
theorem dX5_countFrom_37 : decode cX5_countFrom 37 = .ok (.ifCond .eq 6, 3) := by decide +kernel
theorem dX5_countFrom_40 : decode cX5_countFrom 40 = .ok (.iinc 3 1, 3) := by decide +kernel
theorem dX5_countFrom_43 : decode cX5_countFrom 43 = .ok (.iinc 5 1, 3) := by decide +kernel
theorem dX5_countFrom_46 : decode cX5_countFrom 46 = .ok (.goto (-29), 3) := by decide +kernel
theorem dX5_countFrom_49 : decode cX5_countFrom 49 = .ok (.iinc 4 1, 3) := by decide +kernel
theorem dX5_countFrom_52 : decode cX5_countFrom 52 = .ok (.goto (-46), 3) := by decide +kernel
theorem dX5_countFrom_55 : decode cX5_countFrom 55 = .ok (.iload_n 3, 1) := by decide +kernel
theorem dX5_countFrom_56 : decode cX5_countFrom 56 = .ok (.ireturn, 1) := by decide +kernel
set_option maxRecDepth 20000 in
theorem ggX5_countFromBeyond_X5_placeOf : GoodIn wsX5_countFromBeyond wsX5_placeOf := goodIn_r _ [4] (by decide +kernel) (by decide +kernel)
set_option maxRecDepth 20000 in
theorem gX5_countFromBeyond_X5_placeOf : GoodIn wsX5_countFromBeyond (va_wsS RX5 53 yX5_placeOf wsX5_placeOf) := goodIn_app (goodIn_of _ (by decide +kernel)) ggX5_countFromBeyond_X5_placeOf
set_option maxRecDepth 20000 in
theorem ggX5_countFromBeyond_X5_comesFromColumn : GoodIn wsX5_countFromBeyond wsX5_comesFromColumn := goodIn_r _ [8, 9, 10, 11, 12, 3, 13, 25, 26, 27, 28] (by decide +kernel) (by decide +kernel)
set_option maxRecDepth 20000 in
theorem gX5_countFromBeyond_X5_comesFromColumn : GoodIn wsX5_countFromBeyond (wsV RX5 61 RX5 yX5_comesFromColumn wsX5_comesFromColumn) := goodIn_app (goodIn_of _ (by decide +kernel)) ggX5_countFromBeyond_X5_comesFromColumn
set_option maxRecDepth 20000 in
theorem ggX5_countFromBeyond_X5_comesFromRow : GoodIn wsX5_countFromBeyond wsX5_comesFromRow := goodIn_r _ [17, 18, 10, 11, 12, 3, 13, 9, 25, 26, 27, 28] (by decide +kernel) (by decide +kernel)
set_option maxRecDepth 20000 in
theorem gX5_countFromBeyond_X5_comesFromRow : GoodIn wsX5_countFromBeyond (wsV RX5 64 RX5 yX5_comesFromRow wsX5_comesFromRow) := goodIn_app (goodIn_of _ (by decide +kernel)) ggX5_countFromBeyond_X5_comesFromRow
set_option maxRecDepth 20000 in
theorem ggX5_countFromBeyond_X8_isInField : GoodIn wsX5_countFromBeyond wsX8_isInField := goodIn_r _ [21, 22, 23, 20, 24] (by decide +kernel) (by decide +kernel)
set_option maxRecDepth 20000 in
theorem gX5_countFromBeyond_X8_isInField_n67 : GoodIn wsX5_countFromBeyond (wsX8_isInField) := ggX5_countFromBeyond_X8_isInField
theorem dX5_countFromBeyond_0 : decode cX5_countFromBeyond 0 = .ok (.iconst 0, 1) := by decide +kernel
theorem dX5_countFromBeyond_1 : decode cX5_countFromBeyond 1 = .ok (.istore_n 1, 1) := by decide +kernel
theorem dX5_countFromBeyond_2 : decode cX5_countFromBeyond 2 = .ok (.bipush (-10), 2) := by decide +kernel
theorem dX5_countFromBeyond_4 : decode cX5_countFromBeyond 4 = .ok (.istore_n 2, 1) := by decide +kernel
theorem dX5_countFromBeyond_5 : decode cX5_countFromBeyond 5 = .ok (.iload_n 2, 1) := by decide +kernel
theorem dX5_countFromBeyond_6 : decode cX5_countFromBeyond 6 = .ok (.bipush 10, 2) := by decide +kernel
theorem dX5_countFromBeyond_8 : decode cX5_countFromBeyond 8 = .ok (.if_icmp .gt 52, 3) := by decide +kernel
theorem dX5_countFromBeyond_11 : decode cX5_countFromBeyond 11 = .ok (.bipush (-10), 2) := by decide +kernel
theorem dX5_countFromBeyond_13 : decode cX5_countFromBeyond 13 = .ok (.istore_n 3, 1) := by decide +kernel
theorem dX5_countFromBeyond_14 : decode cX5_countFromBeyond 14 = .ok (.iload_n 3, 1) := by decide +kernel
theorem dX5_countFromBeyond_15 : decode cX5_countFromBeyond 15 = .ok (.bipush 10, 2) := by decide +kernel
theorem dX5_countFromBeyond_17 : decode cX5_countFromBeyond 17 = .ok (.if_icmp .gt 37, 3) := by decide +kernel
theorem dX5_countFromBeyond_20 : decode cX5_countFromBeyond 20 = .ok (.iload_n 3, 1) := by decide +kernel
theorem dX5_countFromBeyond_21 : decode cX5_countFromBeyond 21 = .ok (.iload_n 2, 1) := by decide +kernel
theorem dX5_countFromBeyond_22 : decode cX5_countFromBeyond 22 = .ok (.invokestatic 53, 3) := by decide +kernel
theorem dX5_countFromBeyond_25 : decode cX5_countFromBeyond 25 = .ok (.istore 4, 2) := by decide +kernel
theorem dX5_countFromBeyond_27 : decode cX5_countFromBeyond 27 = .ok (.aload_n 0, 1) := by decide +kernel
theorem dX5_countFromBeyond_28 : decode cX5_countFromBeyond 28 = .ok (.iload 4, 2) := by decide +kernel
theorem dX5_countFromBeyond_30 : decode cX5_countFromBeyond 30 = .ok (.invokevirtual 61, 3) := by decide +kernel
theorem dX5_countFromBeyond_33 : decode cX5_countFromBeyond 33 = .ok (.aload_n 0, 1) := by decide +kernel
theorem dX5_countFromBeyond_34 : decode cX5_countFromBeyond 34 = .ok (.iload 4, 2) := by decide +kernel
theorem dX5_countFromBeyond_36 : decode cX5_countFromBeyond 36 = .ok (.invokevirtual 64, 3) := by decide +kernel
theorem dX5_countFromBeyond_39 : decode cX5_countFromBeyond 39 = .ok (.invokestatic 67, 3) := by decide +kernel
theorem dX5_countFromBeyond_42 : decode cX5_countFromBeyond 42 = .ok (.ifCond .ne 6, 3) := by decide +kernel
theorem dX5_countFromBeyond_45 : decode cX5_countFromBeyond 45 = .ok (.iinc 1 1, 3) := by decide +kernel
theorem dX5_countFromBeyond_48 : decode cX5_countFromBeyond 48 = .ok (.iinc 3 1, 3) := by decide +kernel
theorem dX5_countFromBeyond_51 : decode cX5_countFromBeyond 51 = .ok (.goto (-37), 3) := by decide +kernel
theorem dX5_countFromBeyond_54 : decode cX5_countFromBeyond 54 = .ok (.iinc 2 1, 3) := by decide +kernel
theorem dX5_countFromBeyond_57 : decode cX5_countFromBeyond 57 = .ok (.goto (-52), 3) := by decide +kernel
theorem dX5_countFromBeyond_60 : decode cX5_countFromBeyond 60 = .ok (.iload_n 1, 1) := by decide +kernel
theorem dX5_countFromBeyond_61 : decode cX5_countFromBeyond 61 = .ok (.ireturn, 1) := by decide +kernel
set_option maxRecDepth 20000 in
theorem ggX5_shotFrom_X5_bentInColumns : GoodIn wsX5_shotFrom wsX5_bentInColumns := goodIn_r _ [5, 6, 7, 8, 9, 10, 11, 12, 13, 14, 15, 16, 17, 18, 19, 20, 21, 22, 23, 24, 25, 26, 27, 28, 29, 30, 31, 32, 33, 34, 35, 36, 37, 38, 39, 40, 41, 42, 43, 44, 45, 46, 47, 48, 49, 50, 51, 60, 61, 62, 63, 64, 65, 66, 67, 68, 69, 70] (by decide +kernel) (by decide +kernel)
set_option maxRecDepth 20000 in
theorem gX5_shotFrom_X5_bentInColumns : GoodIn wsX5_shotFrom (wsV RX5 71 RX5 yX5_bentInColumns wsX5_bentInColumns) := goodIn_app (goodIn_of _ (by decide +kernel)) ggX5_shotFrom_X5_bentInColumns
set_option maxRecDepth 20000 in
theorem ggX5_shotFrom_X5_bentInRows : GoodIn wsX5_shotFrom wsX5_bentInRows := goodIn_r _ [55, 6, 7, 8, 9, 10, 11, 12, 13, 14, 15, 16, 17, 18, 19, 20, 21, 22, 23, 24, 25, 26, 27, 28, 29, 30, 56, 57, 58, 34, 59, 45, 50, 37, 38, 39, 40, 36, 41, 42, 43, 44, 46, 47, 48, 49, 51, 60, 61, 62, 63, 64, 65, 66, 67, 68, 69, 70] (by decide +kernel) (by decide +kernel)
set_option maxRecDepth 20000 in
theorem gX5_shotFrom_X5_bentInRows : GoodIn wsX5_shotFrom (wsV RX5 74 RX5 yX5_bentInRows wsX5_bentInRows) := goodIn_app (goodIn_of _ (by decide +kernel)) ggX5_shotFrom_X5_bentInRows
theorem dX5_shotFrom_0 : decode cX5_shotFrom 0 = .ok (.iconst 0, 1) := by decide +kernel
theorem dX5_shotFrom_1 : decode cX5_shotFrom 1 = .ok (.istore_n 3, 1) := by decide +kernel
theorem dX5_shotFrom_2 : decode cX5_shotFrom 2 = .ok (.bipush (-10), 2) := by decide +kernel
theorem dX5_shotFrom_4 : decode cX5_shotFrom 4 = .ok (.istore 4, 2) := by decide +kernel
theorem dX5_shotFrom_6 : decode cX5_shotFrom 6 = .ok (.iload 4, 2) := by decide +kernel
theorem dX5_shotFrom_8 : decode cX5_shotFrom 8 = .ok (.bipush 10, 2) := by decide +kernel
theorem dX5_shotFrom_10 : decode cX5_shotFrom 10 = .ok (.if_icmp .gt 59, 3) := by decide +kernel
theorem dX5_shotFrom_13 : decode cX5_shotFrom 13 = .ok (.bipush (-10), 2) := by decide +kernel
theorem dX5_shotFrom_15 : decode cX5_shotFrom 15 = .ok (.istore 5, 2) := by decide +kernel
theorem dX5_shotFrom_17 : decode cX5_shotFrom 17 = .ok (.iload 5, 2) := by decide +kernel
theorem dX5_shotFrom_19 : decode cX5_shotFrom 19 = .ok (.bipush 10, 2) := by decide +kernel
theorem dX5_shotFrom_21 : decode cX5_shotFrom 21 = .ok (.if_icmp .gt 42, 3) := by decide +kernel
theorem dX5_shotFrom_24 : decode cX5_shotFrom 24 = .ok (.iload 5, 2) := by decide +kernel
theorem dX5_shotFrom_26 : decode cX5_shotFrom 26 = .ok (.aload_n 0, 1) := by decide +kernel
theorem dX5_shotFrom_27 : decode cX5_shotFrom 27 = .ok (.iload 5, 2) := by decide +kernel
theorem dX5_shotFrom_29 : decode cX5_shotFrom 29 = .ok (.iload 4, 2) := by decide +kernel
theorem dX5_shotFrom_31 : decode cX5_shotFrom 31 = .ok (.invokevirtual 71, 3) := by decide +kernel
theorem dX5_shotFrom_34 : decode cX5_shotFrom 34 = .ok (.isub, 1) := by decide +kernel
theorem dX5_shotFrom_35 : decode cX5_shotFrom 35 = .ok (.iload_n 1, 1) := by decide +kernel
theorem dX5_shotFrom_36 : decode cX5_shotFrom 36 = .ok (.if_icmp .ne 21, 3) := by decide +kernel
theorem dX5_shotFrom_39 : decode cX5_shotFrom 39 = .ok (.iload 4, 2) := by decide +kernel
theorem dX5_shotFrom_41 : decode cX5_shotFrom 41 = .ok (.aload_n 0, 1) := by decide +kernel
theorem dX5_shotFrom_42 : decode cX5_shotFrom 42 = .ok (.iload 5, 2) := by decide +kernel
theorem dX5_shotFrom_44 : decode cX5_shotFrom 44 = .ok (.iload 4, 2) := by decide +kernel
theorem dX5_shotFrom_46 : decode cX5_shotFrom 46 = .ok (.invokevirtual 74, 3) := by decide +kernel
theorem dX5_shotFrom_49 : decode cX5_shotFrom 49 = .ok (.isub, 1) := by decide +kernel
theorem dX5_shotFrom_50 : decode cX5_shotFrom 50 = .ok (.iload_n 2, 1) := by decide +kernel
theorem dX5_shotFrom_51 : decode cX5_shotFrom 51 = .ok (.if_icmp .ne 6, 3) := by decide +kernel
theorem dX5_shotFrom_54 : decode cX5_shotFrom 54 = .ok (.iinc 3 1, 3) := by decide +kernel
theorem dX5_shotFrom_57 : decode cX5_shotFrom 57 = .ok (.iinc 5 1, 3) := by decide +kernel
theorem dX5_shotFrom_60 : decode cX5_shotFrom 60 = .ok (.goto (-43), 3) := by decide +kernel
theorem dX5_shotFrom_63 : decode cX5_shotFrom 63 = .ok (.iinc 4 1, 3) := by decide +kernel
theorem dX5_shotFrom_66 : decode cX5_shotFrom 66 = .ok (.goto (-60), 3) := by decide +kernel
theorem dX5_shotFrom_69 : decode cX5_shotFrom 69 = .ok (.iload_n 3, 1) := by decide +kernel
theorem dX5_shotFrom_70 : decode cX5_shotFrom 70 = .ok (.ireturn, 1) := by decide +kernel
theorem dX5_isPlace_0 : decode cX5_isPlace 0 = .ok (.iload_n 1, 1) := by decide +kernel
theorem dX5_isPlace_1 : decode cX5_isPlace 1 = .ok (.ifCond .lt 16, 3) := by decide +kernel
theorem dX5_isPlace_4 : decode cX5_isPlace 4 = .ok (.iload_n 1, 1) := by decide +kernel
theorem dX5_isPlace_5 : decode cX5_isPlace 5 = .ok (.aload_n 0, 1) := by decide +kernel
theorem dX5_isPlace_6 : decode cX5_isPlace 6 = .ok (.getfield 18, 3) := by decide +kernel
theorem dX5_isPlace_9 : decode cX5_isPlace 9 = .ok (.arraylength, 1) := by decide +kernel
theorem dX5_isPlace_10 : decode cX5_isPlace 10 = .ok (.if_icmp .ge 7, 3) := by decide +kernel
theorem dX5_isPlace_13 : decode cX5_isPlace 13 = .ok (.iconst 1, 1) := by decide +kernel
theorem dX5_isPlace_14 : decode cX5_isPlace 14 = .ok (.goto 4, 3) := by decide +kernel
theorem dX5_isPlace_17 : decode cX5_isPlace 17 = .ok (.iconst 0, 1) := by decide +kernel
theorem dX5_isPlace_18 : decode cX5_isPlace 18 = .ok (.ireturn, 1) := by decide +kernel
set_option maxRecDepth 20000 in
theorem ggX5_turnAt_X5_isPlace : GoodIn wsX5_turnAt wsX5_isPlace := goodIn_r _ [7, 1, 8, 9, 10, 11] (by decide +kernel) (by decide +kernel)
set_option maxRecDepth 20000 in
theorem gX5_turnAt_X5_isPlace : GoodIn wsX5_turnAt (wsV RX5 45 RX5 yX5_isPlace wsX5_isPlace) := goodIn_app (goodIn_of _ (by decide +kernel)) ggX5_turnAt_X5_isPlace
theorem dX5_turnAt_0 : decode cX5_turnAt 0 = .ok (.iload_n 1, 1) := by decide +kernel
theorem dX5_turnAt_1 : decode cX5_turnAt 1 = .ok (.iconst 1, 1) := by decide +kernel
theorem dX5_turnAt_2 : decode cX5_turnAt 2 = .ok (.iadd, 1) := by decide +kernel
theorem dX5_turnAt_3 : decode cX5_turnAt 3 = .ok (.istore_n 2, 1) := by decide +kernel
theorem dX5_turnAt_4 : decode cX5_turnAt 4 = .ok (.iload_n 1, 1) := by decide +kernel
theorem dX5_turnAt_5 : decode cX5_turnAt 5 = .ok (.bipush 22, 2) := by decide +kernel
theorem dX5_turnAt_7 : decode cX5_turnAt 7 = .ok (.iadd, 1) := by decide +kernel
theorem dX5_turnAt_8 : decode cX5_turnAt 8 = .ok (.istore_n 3, 1) := by decide +kernel
theorem dX5_turnAt_9 : decode cX5_turnAt 9 = .ok (.aload_n 0, 1) := by decide +kernel
theorem dX5_turnAt_10 : decode cX5_turnAt 10 = .ok (.iload_n 1, 1) := by decide +kernel
theorem dX5_turnAt_11 : decode cX5_turnAt 11 = .ok (.invokevirtual 45, 3) := by decide +kernel
theorem dX5_turnAt_14 : decode cX5_turnAt 14 = .ok (.ifCond .eq 19, 3) := by decide +kernel
theorem dX5_turnAt_17 : decode cX5_turnAt 17 = .ok (.aload_n 0, 1) := by decide +kernel
theorem dX5_turnAt_18 : decode cX5_turnAt 18 = .ok (.iload_n 2, 1) := by decide +kernel
theorem dX5_turnAt_19 : decode cX5_turnAt 19 = .ok (.invokevirtual 45, 3) := by decide +kernel
theorem dX5_turnAt_22 : decode cX5_turnAt 22 = .ok (.ifCond .eq 11, 3) := by decide +kernel
theorem dX5_turnAt_25 : decode cX5_turnAt 25 = .ok (.aload_n 0, 1) := by decide +kernel
theorem dX5_turnAt_26 : decode cX5_turnAt 26 = .ok (.iload_n 3, 1) := by decide +kernel
theorem dX5_turnAt_27 : decode cX5_turnAt 27 = .ok (.invokevirtual 45, 3) := by decide +kernel
theorem dX5_turnAt_30 : decode cX5_turnAt 30 = .ok (.ifCond .ne 5, 3) := by decide +kernel
theorem dX5_turnAt_33 : decode cX5_turnAt 33 = .ok (.iconst 0, 1) := by decide +kernel
theorem dX5_turnAt_34 : decode cX5_turnAt 34 = .ok (.ireturn, 1) := by decide +kernel
theorem dX5_turnAt_35 : decode cX5_turnAt 35 = .ok (.aload_n 0, 1) := by decide +kernel
theorem dX5_turnAt_36 : decode cX5_turnAt 36 = .ok (.getfield 18, 3) := by decide +kernel
theorem dX5_turnAt_39 : decode cX5_turnAt 39 = .ok (.iload_n 2, 1) := by decide +kernel
theorem dX5_turnAt_40 : decode cX5_turnAt 40 = .ok (.iaload, 1) := by decide +kernel
theorem dX5_turnAt_41 : decode cX5_turnAt 41 = .ok (.aload_n 0, 1) := by decide +kernel
theorem dX5_turnAt_42 : decode cX5_turnAt 42 = .ok (.getfield 18, 3) := by decide +kernel
theorem dX5_turnAt_45 : decode cX5_turnAt 45 = .ok (.iload_n 1, 1) := by decide +kernel
theorem dX5_turnAt_46 : decode cX5_turnAt 46 = .ok (.iaload, 1) := by decide +kernel
theorem dX5_turnAt_47 : decode cX5_turnAt 47 = .ok (.isub, 1) := by decide +kernel
theorem dX5_turnAt_48 : decode cX5_turnAt 48 = .ok (.istore 4, 2) := by decide +kernel
theorem dX5_turnAt_50 : decode cX5_turnAt 50 = .ok (.aload_n 0, 1) := by decide +kernel
theorem dX5_turnAt_51 : decode cX5_turnAt 51 = .ok (.getfield 22, 3) := by decide +kernel
theorem dX5_turnAt_54 : decode cX5_turnAt 54 = .ok (.iload_n 2, 1) := by decide +kernel
theorem dX5_turnAt_55 : decode cX5_turnAt 55 = .ok (.iaload, 1) := by decide +kernel
theorem dX5_turnAt_56 : decode cX5_turnAt 56 = .ok (.aload_n 0, 1) := by decide +kernel
theorem dX5_turnAt_57 : decode cX5_turnAt 57 = .ok (.getfield 22, 3) := by decide +kernel
theorem dX5_turnAt_60 : decode cX5_turnAt 60 = .ok (.iload_n 1, 1) := by decide +kernel
theorem dX5_turnAt_61 : decode cX5_turnAt 61 = .ok (.iaload, 1) := by decide +kernel
theorem dX5_turnAt_62 : decode cX5_turnAt 62 = .ok (.isub, 1) := by decide +kernel
theorem dX5_turnAt_63 : decode cX5_turnAt 63 = .ok (.istore 5, 2) := by decide +kernel
theorem dX5_turnAt_65 : decode cX5_turnAt 65 = .ok (.aload_n 0, 1) := by decide +kernel
theorem dX5_turnAt_66 : decode cX5_turnAt 66 = .ok (.getfield 18, 3) := by decide +kernel
theorem dX5_turnAt_69 : decode cX5_turnAt 69 = .ok (.iload_n 3, 1) := by decide +kernel
theorem dX5_turnAt_70 : decode cX5_turnAt 70 = .ok (.iaload, 1) := by decide +kernel
theorem dX5_turnAt_71 : decode cX5_turnAt 71 = .ok (.aload_n 0, 1) := by decide +kernel
theorem dX5_turnAt_72 : decode cX5_turnAt 72 = .ok (.getfield 18, 3) := by decide +kernel
theorem dX5_turnAt_75 : decode cX5_turnAt 75 = .ok (.iload_n 1, 1) := by decide +kernel
theorem dX5_turnAt_76 : decode cX5_turnAt 76 = .ok (.iaload, 1) := by decide +kernel
theorem dX5_turnAt_77 : decode cX5_turnAt 77 = .ok (.isub, 1) := by decide +kernel
theorem dX5_turnAt_78 : decode cX5_turnAt 78 = .ok (.istore 6, 2) := by decide +kernel
theorem dX5_turnAt_80 : decode cX5_turnAt 80 = .ok (.aload_n 0, 1) := by decide +kernel
theorem dX5_turnAt_81 : decode cX5_turnAt 81 = .ok (.getfield 22, 3) := by decide +kernel
theorem dX5_turnAt_84 : decode cX5_turnAt 84 = .ok (.iload_n 3, 1) := by decide +kernel
theorem dX5_turnAt_85 : decode cX5_turnAt 85 = .ok (.iaload, 1) := by decide +kernel
theorem dX5_turnAt_86 : decode cX5_turnAt 86 = .ok (.aload_n 0, 1) := by decide +kernel
theorem dX5_turnAt_87 : decode cX5_turnAt 87 = .ok (.getfield 22, 3) := by decide +kernel
theorem dX5_turnAt_90 : decode cX5_turnAt 90 = .ok (.iload_n 1, 1) := by decide +kernel
theorem dX5_turnAt_91 : decode cX5_turnAt 91 = .ok (.iaload, 1) := by decide +kernel
theorem dX5_turnAt_92 : decode cX5_turnAt 92 = .ok (.isub, 1) := by decide +kernel
theorem dX5_turnAt_93 : decode cX5_turnAt 93 = .ok (.istore 7, 2) := by decide +kernel
theorem dX5_turnAt_95 : decode cX5_turnAt 95 = .ok (.iload 4, 2) := by decide +kernel
theorem dX5_turnAt_97 : decode cX5_turnAt 97 = .ok (.iload 7, 2) := by decide +kernel
theorem dX5_turnAt_99 : decode cX5_turnAt 99 = .ok (.imul, 1) := by decide +kernel
theorem dX5_turnAt_100 : decode cX5_turnAt 100 = .ok (.iload 5, 2) := by decide +kernel
theorem dX5_turnAt_102 : decode cX5_turnAt 102 = .ok (.iload 6, 2) := by decide +kernel
theorem dX5_turnAt_104 : decode cX5_turnAt 104 = .ok (.imul, 1) := by decide +kernel
theorem dX5_turnAt_105 : decode cX5_turnAt 105 = .ok (.isub, 1) := by decide +kernel
theorem dX5_turnAt_106 : decode cX5_turnAt 106 = .ok (.ireturn, 1) := by decide +kernel
set_option maxRecDepth 20000 in
theorem ggX5_shootAll_X5_columnOf : GoodIn wsX5_shootAll wsX5_columnOf := goodIn_r _ [7] (by decide +kernel) (by decide +kernel)
set_option maxRecDepth 20000 in
theorem gX5_shootAll_X5_columnOf : GoodIn wsX5_shootAll (va_wsS RX5 77 yX5_columnOf wsX5_columnOf) := goodIn_app (goodIn_of _ (by decide +kernel)) ggX5_shootAll_X5_columnOf
set_option maxRecDepth 20000 in
theorem ggX5_shootAll_X5_rowOf : GoodIn wsX5_shootAll wsX5_rowOf := goodIn_r _ [10] (by decide +kernel) (by decide +kernel)
set_option maxRecDepth 20000 in
theorem gX5_shootAll_X5_rowOf : GoodIn wsX5_shootAll (va_wsS RX5 80 yX5_rowOf wsX5_rowOf) := goodIn_app (goodIn_of _ (by decide +kernel)) ggX5_shootAll_X5_rowOf
set_option maxRecDepth 20000 in
theorem ggX5_shootAll_X5_bentInColumns : GoodIn wsX5_shootAll wsX5_bentInColumns := goodIn_r _ [14, 15, 16, 17, 18, 19, 20, 21, 22, 23, 24, 25, 26, 27, 28, 29, 30, 31, 32, 33, 34, 35, 36, 37, 38, 39, 40, 41, 42, 43, 44, 45, 46, 47, 48, 49, 50, 51, 52, 53, 54, 55, 56, 57, 58, 59, 60, 77, 78, 79, 80, 81, 82, 83, 84, 85, 86, 87] (by decide +kernel) (by decide +kernel)
set_option maxRecDepth 20000 in
theorem gX5_shootAll_X5_bentInColumns : GoodIn wsX5_shootAll (wsV RX5 71 RX5 yX5_bentInColumns wsX5_bentInColumns) := goodIn_app (goodIn_of _ (by decide +kernel)) ggX5_shootAll_X5_bentInColumns
set_option maxRecDepth 20000 in
theorem ggX5_shootAll_X5_bentInRows : GoodIn wsX5_shootAll wsX5_bentInRows := goodIn_r _ [64, 15, 16, 17, 18, 19, 20, 21, 22, 23, 24, 25, 26, 27, 28, 29, 30, 31, 32, 33, 34, 35, 36, 37, 38, 39, 65, 66, 67, 43, 68, 54, 59, 46, 47, 48, 49, 45, 50, 51, 52, 53, 55, 56, 57, 58, 60, 77, 78, 79, 80, 81, 82, 83, 84, 85, 86, 87] (by decide +kernel) (by decide +kernel)
set_option maxRecDepth 20000 in
theorem gX5_shootAll_X5_bentInRows : GoodIn wsX5_shootAll (wsV RX5 74 RX5 yX5_bentInRows wsX5_bentInRows) := goodIn_app (goodIn_of _ (by decide +kernel)) ggX5_shootAll_X5_bentInRows
set_option maxRecDepth 20000 in
theorem ggX5_shootAll_X5_shortened : GoodIn wsX5_shootAll wsX5_shortened := goodIn_r _ [72, 15, 16, 17, 18, 19, 20, 21, 22, 23, 24, 25, 26, 27, 28, 29, 30, 31, 32, 33, 34, 35, 36, 37, 38, 39, 73, 74, 75, 43, 76, 59, 60, 46, 47, 48, 49, 45, 50, 51, 52, 53, 54, 77, 78, 79, 80, 81, 82, 83, 84, 85, 86, 87] (by decide +kernel) (by decide +kernel)
set_option maxRecDepth 20000 in
theorem gX5_shootAll_X5_shortened : GoodIn wsX5_shootAll (wsV RX5 83 RX5 yX5_shortened wsX5_shortened) := goodIn_app (goodIn_of _ (by decide +kernel)) ggX5_shootAll_X5_shortened
theorem dX5_shootAll_0 : decode cX5_shootAll 0 = .ok (.iconst 0, 1) := by decide +kernel
theorem dX5_shootAll_1 : decode cX5_shootAll 1 = .ok (.istore_n 1, 1) := by decide +kernel
theorem dX5_shootAll_2 : decode cX5_shootAll 2 = .ok (.iload_n 1, 1) := by decide +kernel
theorem dX5_shootAll_3 : decode cX5_shootAll 3 = .ok (.aload_n 0, 1) := by decide +kernel
theorem dX5_shootAll_4 : decode cX5_shootAll 4 = .ok (.getfield 18, 3) := by decide +kernel
theorem dX5_shootAll_7 : decode cX5_shootAll 7 = .ok (.arraylength, 1) := by decide +kernel
theorem dX5_shootAll_8 : decode cX5_shootAll 8 = .ok (.if_icmp .ge 81, 3) := by decide +kernel
theorem dX5_shootAll_11 : decode cX5_shootAll 11 = .ok (.iload_n 1, 1) := by decide +kernel
theorem dX5_shootAll_12 : decode cX5_shootAll 12 = .ok (.invokestatic 77, 3) := by decide +kernel
theorem dX5_shootAll_15 : decode cX5_shootAll 15 = .ok (.istore_n 2, 1) := by decide +kernel
theorem dX5_shootAll_16 : decode cX5_shootAll 16 = .ok (.iload_n 1, 1) := by decide +kernel
theorem dX5_shootAll_17 : decode cX5_shootAll 17 = .ok (.invokestatic 80, 3) := by decide +kernel
theorem dX5_shootAll_20 : decode cX5_shootAll 20 = .ok (.istore_n 3, 1) := by decide +kernel
theorem dX5_shootAll_21 : decode cX5_shootAll 21 = .ok (.aload_n 0, 1) := by decide +kernel
theorem dX5_shootAll_22 : decode cX5_shootAll 22 = .ok (.iload_n 2, 1) := by decide +kernel
theorem dX5_shootAll_23 : decode cX5_shootAll 23 = .ok (.iload_n 3, 1) := by decide +kernel
theorem dX5_shootAll_24 : decode cX5_shootAll 24 = .ok (.invokevirtual 71, 3) := by decide +kernel
theorem dX5_shootAll_27 : decode cX5_shootAll 27 = .ok (.istore 4, 2) := by decide +kernel
theorem dX5_shootAll_29 : decode cX5_shootAll 29 = .ok (.aload_n 0, 1) := by decide +kernel
theorem dX5_shootAll_30 : decode cX5_shootAll 30 = .ok (.iload_n 2, 1) := by decide +kernel
theorem dX5_shootAll_31 : decode cX5_shootAll 31 = .ok (.iload_n 3, 1) := by decide +kernel
theorem dX5_shootAll_32 : decode cX5_shootAll 32 = .ok (.invokevirtual 74, 3) := by decide +kernel
theorem dX5_shootAll_35 : decode cX5_shootAll 35 = .ok (.istore 5, 2) := by decide +kernel
theorem dX5_shootAll_37 : decode cX5_shootAll 37 = .ok (.aload_n 0, 1) := by decide +kernel
theorem dX5_shootAll_38 : decode cX5_shootAll 38 = .ok (.getfield 18, 3) := by decide +kernel
theorem dX5_shootAll_41 : decode cX5_shootAll 41 = .ok (.iload_n 1, 1) := by decide +kernel
theorem dX5_shootAll_42 : decode cX5_shootAll 42 = .ok (.iload_n 2, 1) := by decide +kernel
theorem dX5_shootAll_43 : decode cX5_shootAll 43 = .ok (.iload 4, 2) := by decide +kernel
theorem dX5_shootAll_45 : decode cX5_shootAll 45 = .ok (.isub, 1) := by decide +kernel
theorem dX5_shootAll_46 : decode cX5_shootAll 46 = .ok (.iastore, 1) := by decide +kernel
theorem dX5_shootAll_47 : decode cX5_shootAll 47 = .ok (.aload_n 0, 1) := by decide +kernel
theorem dX5_shootAll_48 : decode cX5_shootAll 48 = .ok (.getfield 22, 3) := by decide +kernel
theorem dX5_shootAll_51 : decode cX5_shootAll 51 = .ok (.iload_n 1, 1) := by decide +kernel
theorem dX5_shootAll_52 : decode cX5_shootAll 52 = .ok (.iload_n 3, 1) := by decide +kernel
theorem dX5_shootAll_53 : decode cX5_shootAll 53 = .ok (.iload 5, 2) := by decide +kernel
theorem dX5_shootAll_55 : decode cX5_shootAll 55 = .ok (.isub, 1) := by decide +kernel
theorem dX5_shootAll_56 : decode cX5_shootAll 56 = .ok (.iastore, 1) := by decide +kernel
theorem dX5_shootAll_57 : decode cX5_shootAll 57 = .ok (.aload_n 0, 1) := by decide +kernel
theorem dX5_shootAll_58 : decode cX5_shootAll 58 = .ok (.getfield 25, 3) := by decide +kernel
theorem dX5_shootAll_61 : decode cX5_shootAll 61 = .ok (.iload_n 1, 1) := by decide +kernel
theorem dX5_shootAll_62 : decode cX5_shootAll 62 = .ok (.iconst 5, 1) := by decide +kernel
theorem dX5_shootAll_63 : decode cX5_shootAll 63 = .ok (.iload 4, 2) := by decide +kernel
theorem dX5_shootAll_65 : decode cX5_shootAll 65 = .ok (.iload 4, 2) := by decide +kernel
theorem dX5_shootAll_67 : decode cX5_shootAll 67 = .ok (.imul, 1) := by decide +kernel
theorem dX5_shootAll_68 : decode cX5_shootAll 68 = .ok (.iload 5, 2) := by decide +kernel
theorem dX5_shootAll_70 : decode cX5_shootAll 70 = .ok (.iload 5, 2) := by decide +kernel
theorem dX5_shootAll_72 : decode cX5_shootAll 72 = .ok (.imul, 1) := by decide +kernel
theorem dX5_shootAll_73 : decode cX5_shootAll 73 = .ok (.iadd, 1) := by decide +kernel
theorem dX5_shootAll_74 : decode cX5_shootAll 74 = .ok (.imul, 1) := by decide +kernel
theorem dX5_shootAll_75 : decode cX5_shootAll 75 = .ok (.aload_n 0, 1) := by decide +kernel
theorem dX5_shootAll_76 : decode cX5_shootAll 76 = .ok (.iload_n 2, 1) := by decide +kernel
theorem dX5_shootAll_77 : decode cX5_shootAll 77 = .ok (.iload_n 3, 1) := by decide +kernel
theorem dX5_shootAll_78 : decode cX5_shootAll 78 = .ok (.invokevirtual 83, 3) := by decide +kernel
theorem dX5_shootAll_81 : decode cX5_shootAll 81 = .ok (.isub, 1) := by decide +kernel
theorem dX5_shootAll_82 : decode cX5_shootAll 82 = .ok (.iastore, 1) := by decide +kernel
theorem dX5_shootAll_83 : decode cX5_shootAll 83 = .ok (.iinc 1 1, 3) := by decide +kernel
theorem dX5_shootAll_86 : decode cX5_shootAll 86 = .ok (.goto (-84), 3) := by decide +kernel
theorem dX5_shootAll_89 : decode cX5_shootAll 89 = .ok (.return_, 1) := by decide +kernel
set_option maxRecDepth 20000 in
theorem ggX5_bentInColumns_Jx4a65c_size_8abf5 : GoodIn wsX5_bentInColumns wsJx4a65c_size_8abf5 := goodIn_r _ [7, 8, 51, 52, 53] (by decide +kernel) (by decide +kernel)
set_option maxRecDepth 20000 in
theorem gX5_bentInColumns_Jx4a65c_size_8abf5 : GoodIn wsX5_bentInColumns (wsV RX5 31 RJx4a65c yJx4a65c_size_8abf5 wsJx4a65c_size_8abf5) := goodIn_app (goodIn_of _ (by decide +kernel)) ggX5_bentInColumns_Jx4a65c_size_8abf5
set_option maxRecDepth 20000 in
theorem ggX5_bentInColumns_Jx4a65c_get_915e3 : GoodIn wsX5_bentInColumns wsJx4a65c_get_915e3 := goodIn_r _ [12, 8, 13, 14, 15, 16, 17, 18, 19, 20, 21, 22, 23, 6, 24, 25, 51, 52, 53] (by decide +kernel) (by decide +kernel)
set_option maxRecDepth 20000 in
theorem gX5_bentInColumns_Jx4a65c_get_915e3 : GoodIn wsX5_bentInColumns (wsV RX5 35 RJx4a65c yJx4a65c_get_915e3 wsJx4a65c_get_915e3) := goodIn_app (goodIn_of _ (by decide +kernel)) ggX5_bentInColumns_Jx4a65c_get_915e3
set_option maxRecDepth 20000 in
theorem ggX5_bentInColumns_X4_bendInColumns : GoodIn wsX5_bentInColumns wsX4_bendInColumns := goodIn_r _ [30, 31, 32, 33, 34, 29, 35, 36, 37, 38, 39, 40, 41, 42, 43, 44, 45, 46, 54, 55, 56, 57] (by decide +kernel) (by decide +kernel)
set_option maxRecDepth 20000 in
theorem gX5_bentInColumns_X4_bendInColumns : GoodIn wsX5_bentInColumns (wsV RX5 86 RX4 yX4_bendInColumns wsX4_bendInColumns) := goodIn_app (goodIn_of _ (by decide +kernel)) ggX5_bentInColumns_X4_bendInColumns
theorem dX5_bentInColumns_0 : decode cX5_bentInColumns 0 = .ok (.iconst 0, 1) := by decide +kernel
theorem dX5_bentInColumns_1 : decode cX5_bentInColumns 1 = .ok (.istore_n 3, 1) := by decide +kernel
theorem dX5_bentInColumns_2 : decode cX5_bentInColumns 2 = .ok (.iconst 0, 1) := by decide +kernel
theorem dX5_bentInColumns_3 : decode cX5_bentInColumns 3 = .ok (.istore 4, 2) := by decide +kernel
theorem dX5_bentInColumns_5 : decode cX5_bentInColumns 5 = .ok (.iload 4, 2) := by decide +kernel
theorem dX5_bentInColumns_7 : decode cX5_bentInColumns 7 = .ok (.aload_n 0, 1) := by decide +kernel
theorem dX5_bentInColumns_8 : decode cX5_bentInColumns 8 = .ok (.getfield 12, 3) := by decide +kernel
theorem dX5_bentInColumns_11 : decode cX5_bentInColumns 11 = .ok (.invokevirtual 31, 3) := by decide +kernel
theorem dX5_bentInColumns_14 : decode cX5_bentInColumns 14 = .ok (.if_icmp .ge 29, 3) := by decide +kernel
theorem dX5_bentInColumns_17 : decode cX5_bentInColumns 17 = .ok (.iload_n 3, 1) := by decide +kernel
theorem dX5_bentInColumns_18 : decode cX5_bentInColumns 18 = .ok (.aload_n 0, 1) := by decide +kernel
theorem dX5_bentInColumns_19 : decode cX5_bentInColumns 19 = .ok (.getfield 12, 3) := by decide +kernel
theorem dX5_bentInColumns_22 : decode cX5_bentInColumns 22 = .ok (.iload 4, 2) := by decide +kernel
theorem dX5_bentInColumns_24 : decode cX5_bentInColumns 24 = .ok (.invokevirtual 35, 3) := by decide +kernel
theorem dX5_bentInColumns_27 : decode cX5_bentInColumns 27 = .ok (.checkcast 39, 3) := by decide +kernel
theorem dX5_bentInColumns_30 : decode cX5_bentInColumns 30 = .ok (.iload_n 1, 1) := by decide +kernel
theorem dX5_bentInColumns_31 : decode cX5_bentInColumns 31 = .ok (.iload_n 2, 1) := by decide +kernel
theorem dX5_bentInColumns_32 : decode cX5_bentInColumns 32 = .ok (.invokevirtual 86, 3) := by decide +kernel
theorem dX5_bentInColumns_35 : decode cX5_bentInColumns 35 = .ok (.iadd, 1) := by decide +kernel
theorem dX5_bentInColumns_36 : decode cX5_bentInColumns 36 = .ok (.istore_n 3, 1) := by decide +kernel
theorem dX5_bentInColumns_37 : decode cX5_bentInColumns 37 = .ok (.iinc 4 1, 3) := by decide +kernel
theorem dX5_bentInColumns_40 : decode cX5_bentInColumns 40 = .ok (.goto (-35), 3) := by decide +kernel
theorem dX5_bentInColumns_43 : decode cX5_bentInColumns 43 = .ok (.iload_n 3, 1) := by decide +kernel
theorem dX5_bentInColumns_44 : decode cX5_bentInColumns 44 = .ok (.ireturn, 1) := by decide +kernel
set_option maxRecDepth 20000 in
theorem ggX5_bentInRows_Jx4a65c_size_8abf5 : GoodIn wsX5_bentInRows wsJx4a65c_size_8abf5 := goodIn_r _ [7, 8, 51, 52, 53] (by decide +kernel) (by decide +kernel)
set_option maxRecDepth 20000 in
theorem gX5_bentInRows_Jx4a65c_size_8abf5 : GoodIn wsX5_bentInRows (wsV RX5 31 RJx4a65c yJx4a65c_size_8abf5 wsJx4a65c_size_8abf5) := goodIn_app (goodIn_of _ (by decide +kernel)) ggX5_bentInRows_Jx4a65c_size_8abf5
set_option maxRecDepth 20000 in
theorem ggX5_bentInRows_Jx4a65c_get_915e3 : GoodIn wsX5_bentInRows wsJx4a65c_get_915e3 := goodIn_r _ [12, 8, 13, 14, 15, 16, 17, 18, 19, 20, 21, 22, 23, 6, 24, 25, 51, 52, 53] (by decide +kernel) (by decide +kernel)
set_option maxRecDepth 20000 in
theorem gX5_bentInRows_Jx4a65c_get_915e3 : GoodIn wsX5_bentInRows (wsV RX5 35 RJx4a65c yJx4a65c_get_915e3 wsJx4a65c_get_915e3) := goodIn_app (goodIn_of _ (by decide +kernel)) ggX5_bentInRows_Jx4a65c_get_915e3
set_option maxRecDepth 20000 in
theorem ggX5_bentInRows_X4_bendInRows : GoodIn wsX5_bentInRows wsX4_bendInRows := goodIn_r _ [30, 31, 32, 33, 34, 35, 29, 36, 37, 38, 39, 40, 41, 42, 43, 44, 45, 46, 54, 55, 56, 57] (by decide +kernel) (by decide +kernel)
set_option maxRecDepth 20000 in
theorem gX5_bentInRows_X4_bendInRows : GoodIn wsX5_bentInRows (wsV RX5 89 RX4 yX4_bendInRows wsX4_bendInRows) := goodIn_app (goodIn_of _ (by decide +kernel)) ggX5_bentInRows_X4_bendInRows
theorem dX5_bentInRows_0 : decode cX5_bentInRows 0 = .ok (.iconst 0, 1) := by decide +kernel
theorem dX5_bentInRows_1 : decode cX5_bentInRows 1 = .ok (.istore_n 3, 1) := by decide +kernel
theorem dX5_bentInRows_2 : decode cX5_bentInRows 2 = .ok (.iconst 0, 1) := by decide +kernel
theorem dX5_bentInRows_3 : decode cX5_bentInRows 3 = .ok (.istore 4, 2) := by decide +kernel
theorem dX5_bentInRows_5 : decode cX5_bentInRows 5 = .ok (.iload 4, 2) := by decide +kernel
theorem dX5_bentInRows_7 : decode cX5_bentInRows 7 = .ok (.aload_n 0, 1) := by decide +kernel
theorem dX5_bentInRows_8 : decode cX5_bentInRows 8 = .ok (.getfield 12, 3) := by decide +kernel
theorem dX5_bentInRows_11 : decode cX5_bentInRows 11 = .ok (.invokevirtual 31, 3) := by decide +kernel
theorem dX5_bentInRows_14 : decode cX5_bentInRows 14 = .ok (.if_icmp .ge 29, 3) := by decide +kernel
theorem dX5_bentInRows_17 : decode cX5_bentInRows 17 = .ok (.iload_n 3, 1) := by decide +kernel
theorem dX5_bentInRows_18 : decode cX5_bentInRows 18 = .ok (.aload_n 0, 1) := by decide +kernel
theorem dX5_bentInRows_19 : decode cX5_bentInRows 19 = .ok (.getfield 12, 3) := by decide +kernel
theorem dX5_bentInRows_22 : decode cX5_bentInRows 22 = .ok (.iload 4, 2) := by decide +kernel
theorem dX5_bentInRows_24 : decode cX5_bentInRows 24 = .ok (.invokevirtual 35, 3) := by decide +kernel
theorem dX5_bentInRows_27 : decode cX5_bentInRows 27 = .ok (.checkcast 39, 3) := by decide +kernel
theorem dX5_bentInRows_30 : decode cX5_bentInRows 30 = .ok (.iload_n 1, 1) := by decide +kernel
theorem dX5_bentInRows_31 : decode cX5_bentInRows 31 = .ok (.iload_n 2, 1) := by decide +kernel
theorem dX5_bentInRows_32 : decode cX5_bentInRows 32 = .ok (.invokevirtual 89, 3) := by decide +kernel
theorem dX5_bentInRows_35 : decode cX5_bentInRows 35 = .ok (.iadd, 1) := by decide +kernel
theorem dX5_bentInRows_36 : decode cX5_bentInRows 36 = .ok (.istore_n 3, 1) := by decide +kernel
theorem dX5_bentInRows_37 : decode cX5_bentInRows 37 = .ok (.iinc 4 1, 3) := by decide +kernel
theorem dX5_bentInRows_40 : decode cX5_bentInRows 40 = .ok (.goto (-35), 3) := by decide +kernel
theorem dX5_bentInRows_43 : decode cX5_bentInRows 43 = .ok (.iload_n 3, 1) := by decide +kernel
theorem dX5_bentInRows_44 : decode cX5_bentInRows 44 = .ok (.ireturn, 1) := by decide +kernel
set_option maxRecDepth 20000 in
theorem ggX5_shortened_Jx4a65c_size_8abf5 : GoodIn wsX5_shortened wsJx4a65c_size_8abf5 := goodIn_r _ [7, 8, 47, 48, 49] (by decide +kernel) (by decide +kernel)
set_option maxRecDepth 20000 in
theorem gX5_shortened_Jx4a65c_size_8abf5 : GoodIn wsX5_shortened (wsV RX5 31 RJx4a65c yJx4a65c_size_8abf5 wsJx4a65c_size_8abf5) := goodIn_app (goodIn_of _ (by decide +kernel)) ggX5_shortened_Jx4a65c_size_8abf5
set_option maxRecDepth 20000 in
theorem ggX5_shortened_Jx4a65c_get_915e3 : GoodIn wsX5_shortened wsJx4a65c_get_915e3 := goodIn_r _ [12, 8, 13, 14, 15, 16, 17, 18, 19, 20, 21, 22, 23, 6, 24, 25, 47, 48, 49] (by decide +kernel) (by decide +kernel)
set_option maxRecDepth 20000 in
theorem gX5_shortened_Jx4a65c_get_915e3 : GoodIn wsX5_shortened (wsV RX5 35 RJx4a65c yJx4a65c_get_915e3 wsJx4a65c_get_915e3) := goodIn_app (goodIn_of _ (by decide +kernel)) ggX5_shortened_Jx4a65c_get_915e3
set_option maxRecDepth 20000 in
theorem ggX5_shortened_X4_shortens : GoodIn wsX5_shortened wsX4_shortens := goodIn_r _ [30, 31, 32, 33, 34, 35, 29, 36, 37, 38, 39, 40, 41, 42, 50, 51, 52, 53] (by decide +kernel) (by decide +kernel)
set_option maxRecDepth 20000 in
theorem gX5_shortened_X4_shortens : GoodIn wsX5_shortened (wsV RX5 92 RX4 yX4_shortens wsX4_shortens) := goodIn_app (goodIn_of _ (by decide +kernel)) ggX5_shortened_X4_shortens
theorem dX5_shortened_0 : decode cX5_shortened 0 = .ok (.iconst 0, 1) := by decide +kernel
theorem dX5_shortened_1 : decode cX5_shortened 1 = .ok (.istore_n 3, 1) := by decide +kernel
theorem dX5_shortened_2 : decode cX5_shortened 2 = .ok (.iconst 0, 1) := by decide +kernel
theorem dX5_shortened_3 : decode cX5_shortened 3 = .ok (.istore 4, 2) := by decide +kernel
theorem dX5_shortened_5 : decode cX5_shortened 5 = .ok (.iload 4, 2) := by decide +kernel
theorem dX5_shortened_7 : decode cX5_shortened 7 = .ok (.aload_n 0, 1) := by decide +kernel
theorem dX5_shortened_8 : decode cX5_shortened 8 = .ok (.getfield 12, 3) := by decide +kernel
theorem dX5_shortened_11 : decode cX5_shortened 11 = .ok (.invokevirtual 31, 3) := by decide +kernel
theorem dX5_shortened_14 : decode cX5_shortened 14 = .ok (.if_icmp .ge 29, 3) := by decide +kernel
theorem dX5_shortened_17 : decode cX5_shortened 17 = .ok (.iload_n 3, 1) := by decide +kernel
theorem dX5_shortened_18 : decode cX5_shortened 18 = .ok (.aload_n 0, 1) := by decide +kernel
theorem dX5_shortened_19 : decode cX5_shortened 19 = .ok (.getfield 12, 3) := by decide +kernel
theorem dX5_shortened_22 : decode cX5_shortened 22 = .ok (.iload 4, 2) := by decide +kernel
theorem dX5_shortened_24 : decode cX5_shortened 24 = .ok (.invokevirtual 35, 3) := by decide +kernel
theorem dX5_shortened_27 : decode cX5_shortened 27 = .ok (.checkcast 39, 3) := by decide +kernel
theorem dX5_shortened_30 : decode cX5_shortened 30 = .ok (.iload_n 1, 1) := by decide +kernel
theorem dX5_shortened_31 : decode cX5_shortened 31 = .ok (.iload_n 2, 1) := by decide +kernel
theorem dX5_shortened_32 : decode cX5_shortened 32 = .ok (.invokevirtual 92, 3) := by decide +kernel
theorem dX5_shortened_35 : decode cX5_shortened 35 = .ok (.iadd, 1) := by decide +kernel
theorem dX5_shortened_36 : decode cX5_shortened 36 = .ok (.istore_n 3, 1) := by decide +kernel
theorem dX5_shortened_37 : decode cX5_shortened 37 = .ok (.iinc 4 1, 3) := by decide +kernel
theorem dX5_shortened_40 : decode cX5_shortened 40 = .ok (.goto (-35), 3) := by decide +kernel
theorem dX5_shortened_43 : decode cX5_shortened 43 = .ok (.iload_n 3, 1) := by decide +kernel
theorem dX5_shortened_44 : decode cX5_shortened 44 = .ok (.ireturn, 1) := by decide +kernel
set_option maxRecDepth 20000 in
theorem ggX6_init_Jx4a65c_init_da8c8 : GoodIn wsX6_init wsJx4a65c_init_da8c8 := goodIn_r _ [17, 18, 19, 20, 21, 22, 23, 24, 25, 26, 27, 28, 29, 2, 3, 37, 38, 39] (by decide +kernel) (by decide +kernel)
set_option maxRecDepth 20000 in
theorem gX6_init_Jx4a65c_init_da8c8 : GoodIn wsX6_init (wsJx4a65c_init_da8c8) := ggX6_init_Jx4a65c_init_da8c8
theorem dX6_init_0 : decode cX6_init 0 = .ok (.aload_n 0, 1) := by decide +kernel
theorem dX6_init_1 : decode cX6_init 1 = .ok (.invokespecial 3, 3) := by decide +kernel
theorem dX6_init_4 : decode cX6_init 4 = .ok (.aload_n 0, 1) := by decide +kernel
theorem dX6_init_5 : decode cX6_init 5 = .ok (.sipush 441, 3) := by decide +kernel
theorem dX6_init_8 : decode cX6_init 8 = .ok (.newarray .int, 2) := by decide +kernel
theorem dX6_init_10 : decode cX6_init 10 = .ok (.putfield 9, 3) := by decide +kernel
theorem dX6_init_13 : decode cX6_init 13 = .ok (.aload_n 0, 1) := by decide +kernel
theorem dX6_init_14 : decode cX6_init 14 = .ok (.iconst 0, 1) := by decide +kernel
theorem dX6_init_15 : decode cX6_init 15 = .ok (.putfield 15, 3) := by decide +kernel
theorem dX6_init_18 : decode cX6_init 18 = .ok (.aload_n 0, 1) := by decide +kernel
theorem dX6_init_19 : decode cX6_init 19 = .ok (.new 19, 3) := by decide +kernel
theorem dX6_init_22 : decode cX6_init 22 = .ok (.dup, 1) := by decide +kernel
theorem dX6_init_23 : decode cX6_init 23 = .ok (.invokespecial 21, 3) := by decide +kernel
theorem dX6_init_26 : decode cX6_init 26 = .ok (.putfield 22, 3) := by decide +kernel
theorem dX6_init_29 : decode cX6_init 29 = .ok (.aload_n 0, 1) := by decide +kernel
theorem dX6_init_30 : decode cX6_init 30 = .ok (.new 19, 3) := by decide +kernel
theorem dX6_init_33 : decode cX6_init 33 = .ok (.dup, 1) := by decide +kernel
theorem dX6_init_34 : decode cX6_init 34 = .ok (.invokespecial 21, 3) := by decide +kernel
theorem dX6_init_37 : decode cX6_init 37 = .ok (.putfield 26, 3) := by decide +kernel
theorem dX6_init_40 : decode cX6_init 40 = .ok (.aload_n 0, 1) := by decide +kernel
theorem dX6_init_41 : decode cX6_init 41 = .ok (.iload_n 1, 1) := by decide +kernel
theorem dX6_init_42 : decode cX6_init 42 = .ok (.putfield 29, 3) := by decide +kernel
theorem dX6_init_45 : decode cX6_init 45 = .ok (.aload_n 0, 1) := by decide +kernel
theorem dX6_init_46 : decode cX6_init 46 = .ok (.iload_n 2, 1) := by decide +kernel
theorem dX6_init_47 : decode cX6_init 47 = .ok (.putfield 32, 3) := by decide +kernel
theorem dX6_init_50 : decode cX6_init 50 = .ok (.aload_n 0, 1) := by decide +kernel
theorem dX6_init_51 : decode cX6_init 51 = .ok (.iload_n 3, 1) := by decide +kernel
theorem dX6_init_52 : decode cX6_init 52 = .ok (.putfield 35, 3) := by decide +kernel
theorem dX6_init_55 : decode cX6_init 55 = .ok (.return_, 1) := by decide +kernel
theorem dX6_imageCount_0 : decode cX6_imageCount 0 = .ok (.aload_n 0, 1) := by decide +kernel
theorem dX6_imageCount_1 : decode cX6_imageCount 1 = .ok (.getfield 15, 3) := by decide +kernel
theorem dX6_imageCount_4 : decode cX6_imageCount 4 = .ok (.ireturn, 1) := by decide +kernel
theorem dX6_hasImage_0 : decode cX6_hasImage 0 = .ok (.iload_n 1, 1) := by decide +kernel
theorem dX6_hasImage_1 : decode cX6_hasImage 1 = .ok (.ifCond .lt 15, 3) := by decide +kernel
theorem dX6_hasImage_4 : decode cX6_hasImage 4 = .ok (.iload_n 1, 1) := by decide +kernel
theorem dX6_hasImage_5 : decode cX6_hasImage 5 = .ok (.aload_n 0, 1) := by decide +kernel
theorem dX6_hasImage_6 : decode cX6_hasImage 6 = .ok (.getfield 15, 3) := by decide +kernel
theorem dX6_hasImage_9 : decode cX6_hasImage 9 = .ok (.if_icmp .ge 7, 3) := by decide +kernel
theorem dX6_hasImage_12 : decode cX6_hasImage 12 = .ok (.iconst 1, 1) := by decide +kernel
theorem dX6_hasImage_13 : decode cX6_hasImage 13 = .ok (.goto 4, 3) := by decide +kernel
theorem dX6_hasImage_16 : decode cX6_hasImage 16 = .ok (.iconst 0, 1) := by decide +kernel
theorem dX6_hasImage_17 : decode cX6_hasImage 17 = .ok (.ireturn, 1) := by decide +kernel
set_option maxRecDepth 20000 in
theorem ggX6_placeAt_X6_hasImage : GoodIn wsX6_placeAt wsX6_hasImage := goodIn_r _ [6, 7, 8, 9, 10, 11, 12, 13, 14] (by decide +kernel) (by decide +kernel)
set_option maxRecDepth 20000 in
theorem gX6_placeAt_X6_hasImage : GoodIn wsX6_placeAt (wsV RX6 38 RX6 yX6_hasImage wsX6_hasImage) := goodIn_app (goodIn_of _ (by decide +kernel)) ggX6_placeAt_X6_hasImage
theorem dX6_placeAt_0 : decode cX6_placeAt 0 = .ok (.aload_n 0, 1) := by decide +kernel
theorem dX6_placeAt_1 : decode cX6_placeAt 1 = .ok (.iload_n 1, 1) := by decide +kernel
theorem dX6_placeAt_2 : decode cX6_placeAt 2 = .ok (.invokevirtual 38, 3) := by decide +kernel
theorem dX6_placeAt_5 : decode cX6_placeAt 5 = .ok (.ifCond .eq 12, 3) := by decide +kernel
theorem dX6_placeAt_8 : decode cX6_placeAt 8 = .ok (.aload_n 0, 1) := by decide +kernel
theorem dX6_placeAt_9 : decode cX6_placeAt 9 = .ok (.getfield 9, 3) := by decide +kernel
theorem dX6_placeAt_12 : decode cX6_placeAt 12 = .ok (.iload_n 1, 1) := by decide +kernel
theorem dX6_placeAt_13 : decode cX6_placeAt 13 = .ok (.iaload, 1) := by decide +kernel
theorem dX6_placeAt_14 : decode cX6_placeAt 14 = .ok (.goto 4, 3) := by decide +kernel
theorem dX6_placeAt_17 : decode cX6_placeAt 17 = .ok (.iconst 0, 1) := by decide +kernel
theorem dX6_placeAt_18 : decode cX6_placeAt 18 = .ok (.ireturn, 1) := by decide +kernel
set_option maxRecDepth 20000 in
theorem ggX6_findImages_X5_placeOf : GoodIn wsX6_findImages wsX5_placeOf := goodIn_r _ [7] (by decide +kernel) (by decide +kernel)
set_option maxRecDepth 20000 in
theorem gX6_findImages_X5_placeOf : GoodIn wsX6_findImages (va_wsS RX6 42 yX5_placeOf wsX5_placeOf) := goodIn_app (goodIn_of _ (by decide +kernel)) ggX6_findImages_X5_placeOf
