set_option maxRecDepth 20000 in
theorem gX8_isFresh_X5_count : GoodIn wsX8_isFresh (wsV RX8 226 RX5 yX5_count wsX5_count) := goodIn_app (goodIn_of _ (by decide +kernel)) ggX8_isFresh_X5_count
theorem dX8_isFresh_0 : decode cX8_isFresh 0 = .ok (.aload_n 0, 1) := by decide +kernel
theorem dX8_isFresh_1 : decode cX8_isFresh 1 = .ok (.getfield 40, 3) := by decide +kernel
theorem dX8_isFresh_4 : decode cX8_isFresh 4 = .ok (.iload_n 1, 1) := by decide +kernel
theorem dX8_isFresh_5 : decode cX8_isFresh 5 = .ok (.invokevirtual 207, 3) := by decide +kernel
theorem dX8_isFresh_8 : decode cX8_isFresh 8 = .ok (.ifCond .ne 14, 3) := by decide +kernel
theorem dX8_isFresh_11 : decode cX8_isFresh 11 = .ok (.new 99, 3) := by decide +kernel
theorem dX8_isFresh_14 : decode cX8_isFresh 14 = .ok (.dup, 1) := by decide +kernel
theorem dX8_isFresh_15 : decode cX8_isFresh 15 = .ok (.ldc_w 304, 3) := by decide +kernel
theorem dX8_isFresh_18 : decode cX8_isFresh 18 = .ok (.invokespecial 103, 3) := by decide +kernel
theorem dX8_isFresh_21 : decode cX8_isFresh 21 = .ok (.athrow, 1) := by decide +kernel
theorem dX8_isFresh_22 : decode cX8_isFresh 22 = .ok (.aload_n 0, 1) := by decide +kernel
theorem dX8_isFresh_23 : decode cX8_isFresh 23 = .ok (.getfield 40, 3) := by decide +kernel
theorem dX8_isFresh_26 : decode cX8_isFresh 26 = .ok (.iload_n 1, 1) := by decide +kernel
theorem dX8_isFresh_27 : decode cX8_isFresh 27 = .ok (.invokevirtual 311, 3) := by decide +kernel
theorem dX8_isFresh_30 : decode cX8_isFresh 30 = .ok (.ifCond .ne 14, 3) := by decide +kernel
theorem dX8_isFresh_33 : decode cX8_isFresh 33 = .ok (.new 78, 3) := by decide +kernel
theorem dX8_isFresh_36 : decode cX8_isFresh 36 = .ok (.dup, 1) := by decide +kernel
theorem dX8_isFresh_37 : decode cX8_isFresh 37 = .ok (.ldc_w 314, 3) := by decide +kernel
theorem dX8_isFresh_40 : decode cX8_isFresh 40 = .ok (.invokespecial 82, 3) := by decide +kernel
theorem dX8_isFresh_43 : decode cX8_isFresh 43 = .ok (.athrow, 1) := by decide +kernel
theorem dX8_isFresh_44 : decode cX8_isFresh 44 = .ok (.aload_n 0, 1) := by decide +kernel
theorem dX8_isFresh_45 : decode cX8_isFresh 45 = .ok (.getfield 40, 3) := by decide +kernel
theorem dX8_isFresh_48 : decode cX8_isFresh 48 = .ok (.iload_n 1, 1) := by decide +kernel
theorem dX8_isFresh_49 : decode cX8_isFresh 49 = .ok (.invokevirtual 316, 3) := by decide +kernel
theorem dX8_isFresh_52 : decode cX8_isFresh 52 = .ok (.aload_n 0, 1) := by decide +kernel
theorem dX8_isFresh_53 : decode cX8_isFresh 53 = .ok (.getfield 12, 3) := by decide +kernel
theorem dX8_isFresh_56 : decode cX8_isFresh 56 = .ok (.invokevirtual 226, 3) := by decide +kernel
theorem dX8_isFresh_59 : decode cX8_isFresh 59 = .ok (.if_icmp .ne 7, 3) := by decide +kernel
theorem dX8_isFresh_62 : decode cX8_isFresh 62 = .ok (.iconst 1, 1) := by decide +kernel
theorem dX8_isFresh_63 : decode cX8_isFresh 63 = .ok (.goto 4, 3) := by decide +kernel
theorem dX8_isFresh_66 : decode cX8_isFresh 66 = .ok (.iconst 0, 1) := by decide +kernel
theorem dX8_isFresh_67 : decode cX8_isFresh 67 = .ok (.ireturn, 1) := by decide +kernel
set_option maxRecDepth 20000 in
theorem ggX8_dispute_X1_areOpen : GoodIn wsX8_dispute wsX1_areOpen := goodIn_r _ [12, 13, 34, 35, 36, 37, 38] (by decide +kernel) (by decide +kernel)
set_option maxRecDepth 20000 in
theorem gX8_dispute_X1_areOpen : GoodIn wsX8_dispute (wsV RX8 238 RX1 yX1_areOpen wsX1_areOpen) := goodIn_app (goodIn_of _ (by decide +kernel)) ggX8_dispute_X1_areOpen
set_option maxRecDepth 20000 in
theorem ggX8_dispute_X1_growthBy : GoodIn wsX8_dispute wsX1_growthBy := goodIn_r _ [17, 18, 19, 20, 21, 11, 22, 34, 35, 36, 37, 38] (by decide +kernel) (by decide +kernel)
set_option maxRecDepth 20000 in
theorem gX8_dispute_X1_growthBy : GoodIn wsX8_dispute (wsV RX8 308 RX1 yX1_growthBy wsX1_growthBy) := goodIn_app (goodIn_of _ (by decide +kernel)) ggX8_dispute_X1_growthBy
theorem dX8_dispute_0 : decode cX8_dispute 0 = .ok (.aload_n 0, 1) := by decide +kernel
theorem dX8_dispute_1 : decode cX8_dispute 1 = .ok (.getfield 40, 3) := by decide +kernel
theorem dX8_dispute_4 : decode cX8_dispute 4 = .ok (.invokevirtual 238, 3) := by decide +kernel
theorem dX8_dispute_7 : decode cX8_dispute 7 = .ok (.ifCond .ne 14, 3) := by decide +kernel
theorem dX8_dispute_10 : decode cX8_dispute 10 = .ok (.new 78, 3) := by decide +kernel
theorem dX8_dispute_13 : decode cX8_dispute 13 = .ok (.dup, 1) := by decide +kernel
theorem dX8_dispute_14 : decode cX8_dispute 14 = .ok (.ldc_w 306, 3) := by decide +kernel
theorem dX8_dispute_17 : decode cX8_dispute 17 = .ok (.invokespecial 82, 3) := by decide +kernel
theorem dX8_dispute_20 : decode cX8_dispute 20 = .ok (.athrow, 1) := by decide +kernel
theorem dX8_dispute_21 : decode cX8_dispute 21 = .ok (.aload_n 0, 1) := by decide +kernel
theorem dX8_dispute_22 : decode cX8_dispute 22 = .ok (.getfield 40, 3) := by decide +kernel
theorem dX8_dispute_25 : decode cX8_dispute 25 = .ok (.iconst 0, 1) := by decide +kernel
theorem dX8_dispute_26 : decode cX8_dispute 26 = .ok (.invokevirtual 308, 3) := by decide +kernel
theorem dX8_dispute_29 : decode cX8_dispute 29 = .ok (.istore_n 1, 1) := by decide +kernel
theorem dX8_dispute_30 : decode cX8_dispute 30 = .ok (.aload_n 0, 1) := by decide +kernel
theorem dX8_dispute_31 : decode cX8_dispute 31 = .ok (.getfield 40, 3) := by decide +kernel
theorem dX8_dispute_34 : decode cX8_dispute 34 = .ok (.iconst 1, 1) := by decide +kernel
theorem dX8_dispute_35 : decode cX8_dispute 35 = .ok (.invokevirtual 308, 3) := by decide +kernel
theorem dX8_dispute_38 : decode cX8_dispute 38 = .ok (.istore_n 2, 1) := by decide +kernel
theorem dX8_dispute_39 : decode cX8_dispute 39 = .ok (.iload_n 1, 1) := by decide +kernel
theorem dX8_dispute_40 : decode cX8_dispute 40 = .ok (.iconst (-1), 1) := by decide +kernel
theorem dX8_dispute_41 : decode cX8_dispute 41 = .ok (.if_icmp .eq 8, 3) := by decide +kernel
theorem dX8_dispute_44 : decode cX8_dispute 44 = .ok (.iload_n 2, 1) := by decide +kernel
theorem dX8_dispute_45 : decode cX8_dispute 45 = .ok (.iconst (-1), 1) := by decide +kernel
theorem dX8_dispute_46 : decode cX8_dispute 46 = .ok (.if_icmp .ne 7, 3) := by decide +kernel
theorem dX8_dispute_49 : decode cX8_dispute 49 = .ok (.iconst (-1), 1) := by decide +kernel
theorem dX8_dispute_50 : decode cX8_dispute 50 = .ok (.goto 9, 3) := by decide +kernel
theorem dX8_dispute_53 : decode cX8_dispute 53 = .ok (.iload_n 1, 1) := by decide +kernel
theorem dX8_dispute_54 : decode cX8_dispute 54 = .ok (.iload_n 2, 1) := by decide +kernel
theorem dX8_dispute_55 : decode cX8_dispute 55 = .ok (.isub, 1) := by decide +kernel
theorem dX8_dispute_56 : decode cX8_dispute 56 = .ok (.invokestatic 319, 3) := by decide +kernel
theorem dX8_dispute_59 : decode cX8_dispute 59 = .ok (.ireturn, 1) := by decide +kernel
theorem dX8_isWithin_0 : decode cX8_isWithin 0 = .ok (.iload_n 0, 1) := by decide +kernel
theorem dX8_isWithin_1 : decode cX8_isWithin 1 = .ok (.iload_n 1, 1) := by decide +kernel
theorem dX8_isWithin_2 : decode cX8_isWithin 2 = .ok (.if_icmp .lt 12, 3) := by decide +kernel
theorem dX8_isWithin_5 : decode cX8_isWithin 5 = .ok (.iload_n 0, 1) := by decide +kernel
theorem dX8_isWithin_6 : decode cX8_isWithin 6 = .ok (.iload_n 2, 1) := by decide +kernel
theorem dX8_isWithin_7 : decode cX8_isWithin 7 = .ok (.if_icmp .gt 7, 3) := by decide +kernel
theorem dX8_isWithin_10 : decode cX8_isWithin 10 = .ok (.iconst 1, 1) := by decide +kernel
theorem dX8_isWithin_11 : decode cX8_isWithin 11 = .ok (.goto 4, 3) := by decide +kernel
theorem dX8_isWithin_14 : decode cX8_isWithin 14 = .ok (.iconst 0, 1) := by decide +kernel
theorem dX8_isWithin_15 : decode cX8_isWithin 15 = .ok (.ireturn, 1) := by decide +kernel
set_option maxRecDepth 20000 in
theorem ggX8_isInField_X8_isWithin : GoodIn wsX8_isInField wsX8_isWithin := goodIn_r _ [4] (by decide +kernel) (by decide +kernel)
set_option maxRecDepth 20000 in
theorem gX8_isInField_X8_isWithin : GoodIn wsX8_isInField (va_wsS RX8 59 yX8_isWithin wsX8_isWithin) := goodIn_app (goodIn_of _ (by decide +kernel)) ggX8_isInField_X8_isWithin
theorem dX8_isInField_0 : decode cX8_isInField 0 = .ok (.iload_n 0, 1) := by decide +kernel
theorem dX8_isInField_1 : decode cX8_isInField 1 = .ok (.bipush (-10), 2) := by decide +kernel
theorem dX8_isInField_3 : decode cX8_isInField 3 = .ok (.bipush 10, 2) := by decide +kernel
theorem dX8_isInField_5 : decode cX8_isInField 5 = .ok (.invokestatic 59, 3) := by decide +kernel
theorem dX8_isInField_8 : decode cX8_isInField 8 = .ok (.ifCond .eq 18, 3) := by decide +kernel
theorem dX8_isInField_11 : decode cX8_isInField 11 = .ok (.iload_n 1, 1) := by decide +kernel
theorem dX8_isInField_12 : decode cX8_isInField 12 = .ok (.bipush (-10), 2) := by decide +kernel
theorem dX8_isInField_14 : decode cX8_isInField 14 = .ok (.bipush 10, 2) := by decide +kernel
theorem dX8_isInField_16 : decode cX8_isInField 16 = .ok (.invokestatic 59, 3) := by decide +kernel
theorem dX8_isInField_19 : decode cX8_isInField 19 = .ok (.ifCond .eq 7, 3) := by decide +kernel
theorem dX8_isInField_22 : decode cX8_isInField 22 = .ok (.iconst 1, 1) := by decide +kernel
theorem dX8_isInField_23 : decode cX8_isInField 23 = .ok (.goto 4, 3) := by decide +kernel
theorem dX8_isInField_26 : decode cX8_isInField 26 = .ok (.iconst 0, 1) := by decide +kernel
theorem dX8_isInField_27 : decode cX8_isInField 27 = .ok (.ireturn, 1) := by decide +kernel
set_option maxRecDepth 20000 in
theorem ggX8_sourceAt_Jx4a65c_size_8abf5 : GoodIn wsX8_sourceAt wsJx4a65c_size_8abf5 := goodIn_r _ [7, 8, 37, 38, 39] (by decide +kernel) (by decide +kernel)
set_option maxRecDepth 20000 in
theorem gX8_sourceAt_Jx4a65c_size_8abf5 : GoodIn wsX8_sourceAt (wsV RX8 117 RJx4a65c yJx4a65c_size_8abf5 wsJx4a65c_size_8abf5) := goodIn_app (goodIn_of _ (by decide +kernel)) ggX8_sourceAt_Jx4a65c_size_8abf5
set_option maxRecDepth 20000 in
theorem ggX8_sourceAt_Jx4a65c_get_915e3 : GoodIn wsX8_sourceAt wsJx4a65c_get_915e3 := goodIn_r _ [12, 8, 13, 14, 15, 16, 17, 18, 19, 20, 21, 22, 23, 6, 24, 25, 37, 38, 39] (by decide +kernel) (by decide +kernel)
set_option maxRecDepth 20000 in
theorem gX8_sourceAt_Jx4a65c_get_915e3 : GoodIn wsX8_sourceAt (wsV RX8 324 RJx4a65c yJx4a65c_get_915e3 wsJx4a65c_get_915e3) := goodIn_app (goodIn_of _ (by decide +kernel)) ggX8_sourceAt_Jx4a65c_get_915e3
theorem dX8_sourceAt_0 : decode cX8_sourceAt 0 = .ok (.iload_n 1, 1) := by decide +kernel
theorem dX8_sourceAt_1 : decode cX8_sourceAt 1 = .ok (.ifCond .lt 28, 3) := by decide +kernel
theorem dX8_sourceAt_4 : decode cX8_sourceAt 4 = .ok (.iload_n 1, 1) := by decide +kernel
theorem dX8_sourceAt_5 : decode cX8_sourceAt 5 = .ok (.aload_n 0, 1) := by decide +kernel
theorem dX8_sourceAt_6 : decode cX8_sourceAt 6 = .ok (.getfield 19, 3) := by decide +kernel
theorem dX8_sourceAt_9 : decode cX8_sourceAt 9 = .ok (.invokevirtual 117, 3) := by decide +kernel
theorem dX8_sourceAt_12 : decode cX8_sourceAt 12 = .ok (.if_icmp .ge 17, 3) := by decide +kernel
theorem dX8_sourceAt_15 : decode cX8_sourceAt 15 = .ok (.aload_n 0, 1) := by decide +kernel
theorem dX8_sourceAt_16 : decode cX8_sourceAt 16 = .ok (.getfield 19, 3) := by decide +kernel
theorem dX8_sourceAt_19 : decode cX8_sourceAt 19 = .ok (.iload_n 1, 1) := by decide +kernel
theorem dX8_sourceAt_20 : decode cX8_sourceAt 20 = .ok (.invokevirtual 324, 3) := by decide +kernel
theorem dX8_sourceAt_23 : decode cX8_sourceAt 23 = .ok (.checkcast 126, 3) := by decide +kernel
theorem dX8_sourceAt_26 : decode cX8_sourceAt 26 = .ok (.goto 4, 3) := by decide +kernel
theorem dX8_sourceAt_29 : decode cX8_sourceAt 29 = .ok (.aconst_null, 1) := by decide +kernel
theorem dX8_sourceAt_30 : decode cX8_sourceAt 30 = .ok (.areturn, 1) := by decide +kernel
set_option maxRecDepth 20000 in
theorem ggX8_isTaken_Jx4a65c_size_8abf5 : GoodIn wsX8_isTaken wsJx4a65c_size_8abf5 := goodIn_r _ [7, 8, 44, 45, 46] (by decide +kernel) (by decide +kernel)
set_option maxRecDepth 20000 in
theorem gX8_isTaken_Jx4a65c_size_8abf5 : GoodIn wsX8_isTaken (wsV RX8 117 RJx4a65c yJx4a65c_size_8abf5 wsJx4a65c_size_8abf5) := goodIn_app (goodIn_of _ (by decide +kernel)) ggX8_isTaken_Jx4a65c_size_8abf5
set_option maxRecDepth 20000 in
theorem ggX8_isTaken_Jx4a65c_get_915e3 : GoodIn wsX8_isTaken wsJx4a65c_get_915e3 := goodIn_r _ [12, 8, 13, 14, 15, 16, 17, 18, 19, 20, 21, 22, 23, 6, 24, 25, 44, 45, 46] (by decide +kernel) (by decide +kernel)
set_option maxRecDepth 20000 in
theorem gX8_isTaken_Jx4a65c_get_915e3 : GoodIn wsX8_isTaken (wsV RX8 324 RJx4a65c yJx4a65c_get_915e3 wsJx4a65c_get_915e3) := goodIn_app (goodIn_of _ (by decide +kernel)) ggX8_isTaken_Jx4a65c_get_915e3
theorem dX8_isTaken_0 : decode cX8_isTaken 0 = .ok (.iconst 0, 1) := by decide +kernel
theorem dX8_isTaken_1 : decode cX8_isTaken 1 = .ok (.istore_n 3, 1) := by decide +kernel
theorem dX8_isTaken_2 : decode cX8_isTaken 2 = .ok (.iload_n 3, 1) := by decide +kernel
theorem dX8_isTaken_3 : decode cX8_isTaken 3 = .ok (.aload_n 0, 1) := by decide +kernel
theorem dX8_isTaken_4 : decode cX8_isTaken 4 = .ok (.getfield 19, 3) := by decide +kernel
theorem dX8_isTaken_7 : decode cX8_isTaken 7 = .ok (.invokevirtual 117, 3) := by decide +kernel
theorem dX8_isTaken_10 : decode cX8_isTaken 10 = .ok (.if_icmp .ge 47, 3) := by decide +kernel
theorem dX8_isTaken_13 : decode cX8_isTaken 13 = .ok (.aload_n 0, 1) := by decide +kernel
theorem dX8_isTaken_14 : decode cX8_isTaken 14 = .ok (.getfield 19, 3) := by decide +kernel
theorem dX8_isTaken_17 : decode cX8_isTaken 17 = .ok (.iload_n 3, 1) := by decide +kernel
theorem dX8_isTaken_18 : decode cX8_isTaken 18 = .ok (.invokevirtual 324, 3) := by decide +kernel
theorem dX8_isTaken_21 : decode cX8_isTaken 21 = .ok (.checkcast 126, 3) := by decide +kernel
theorem dX8_isTaken_24 : decode cX8_isTaken 24 = .ok (.getfield 254, 3) := by decide +kernel
theorem dX8_isTaken_27 : decode cX8_isTaken 27 = .ok (.iload_n 1, 1) := by decide +kernel
theorem dX8_isTaken_28 : decode cX8_isTaken 28 = .ok (.if_icmp .ne 23, 3) := by decide +kernel
theorem dX8_isTaken_31 : decode cX8_isTaken 31 = .ok (.aload_n 0, 1) := by decide +kernel
theorem dX8_isTaken_32 : decode cX8_isTaken 32 = .ok (.getfield 19, 3) := by decide +kernel
theorem dX8_isTaken_35 : decode cX8_isTaken 35 = .ok (.iload_n 3, 1) := by decide +kernel
theorem dX8_isTaken_36 : decode cX8_isTaken 36 = .ok (.invokevirtual 324, 3) := by decide +kernel
theorem dX8_isTaken_39 : decode cX8_isTaken 39 = .ok (.checkcast 126, 3) := by decide +kernel
theorem dX8_isTaken_42 : decode cX8_isTaken 42 = .ok (.getfield 257, 3) := by decide +kernel
theorem dX8_isTaken_45 : decode cX8_isTaken 45 = .ok (.iload_n 2, 1) := by decide +kernel
theorem dX8_isTaken_46 : decode cX8_isTaken 46 = .ok (.if_icmp .ne 5, 3) := by decide +kernel
theorem dX8_isTaken_49 : decode cX8_isTaken 49 = .ok (.iconst 1, 1) := by decide +kernel
theorem dX8_isTaken_50 : decode cX8_isTaken 50 = .ok (.ireturn, 1) := by decide +kernel
theorem dX8_isTaken_51 : decode cX8_isTaken 51 = .ok (.iinc 3 1, 3) := by decide +kernel
theorem dX8_isTaken_54 : decode cX8_isTaken 54 = .ok (.goto (-52), 3) := by decide +kernel
theorem dX8_isTaken_57 : decode cX8_isTaken 57 = .ok (.iconst 0, 1) := by decide +kernel
theorem dX8_isTaken_58 : decode cX8_isTaken 58 = .ok (.ireturn, 1) := by decide +kernel
set_option maxRecDepth 20000 in
theorem ggX8_areImages_X6_hasImage : GoodIn wsX8_areImages wsX6_hasImage := goodIn_r _ [5, 6, 7, 8, 9, 10, 11, 12, 13] (by decide +kernel) (by decide +kernel)
set_option maxRecDepth 20000 in
theorem gX8_areImages_X6_hasImage : GoodIn wsX8_areImages (wsV RX8 161 RX6 yX6_hasImage wsX6_hasImage) := goodIn_app (goodIn_of _ (by decide +kernel)) ggX8_areImages_X6_hasImage
theorem dX8_areImages_0 : decode cX8_areImages 0 = .ok (.aload_n 0, 1) := by decide +kernel
theorem dX8_areImages_1 : decode cX8_areImages 1 = .ok (.ifnull 23, 3) := by decide +kernel
theorem dX8_areImages_4 : decode cX8_areImages 4 = .ok (.aload_n 0, 1) := by decide +kernel
theorem dX8_areImages_5 : decode cX8_areImages 5 = .ok (.iload_n 1, 1) := by decide +kernel
theorem dX8_areImages_6 : decode cX8_areImages 6 = .ok (.invokevirtual 161, 3) := by decide +kernel
theorem dX8_areImages_9 : decode cX8_areImages 9 = .ok (.ifCond .eq 15, 3) := by decide +kernel
theorem dX8_areImages_12 : decode cX8_areImages 12 = .ok (.aload_n 0, 1) := by decide +kernel
theorem dX8_areImages_13 : decode cX8_areImages 13 = .ok (.iload_n 2, 1) := by decide +kernel
theorem dX8_areImages_14 : decode cX8_areImages 14 = .ok (.invokevirtual 161, 3) := by decide +kernel
theorem dX8_areImages_17 : decode cX8_areImages 17 = .ok (.ifCond .eq 7, 3) := by decide +kernel
theorem dX8_areImages_20 : decode cX8_areImages 20 = .ok (.iconst 1, 1) := by decide +kernel
theorem dX8_areImages_21 : decode cX8_areImages 21 = .ok (.goto 4, 3) := by decide +kernel
theorem dX8_areImages_24 : decode cX8_areImages 24 = .ok (.iconst 0, 1) := by decide +kernel
theorem dX8_areImages_25 : decode cX8_areImages 25 = .ok (.ireturn, 1) := by decide +kernel
set_option maxRecDepth 20000 in
theorem ggX8_beginAnew_X0_clear : GoodIn wsX8_beginAnew wsX0_clear := goodIn_r _ [10, 11, 12, 13, 14, 15, 16, 17, 18, 19, 20, 90, 91, 92, 93, 94, 95] (by decide +kernel) (by decide +kernel)
set_option maxRecDepth 20000 in
theorem gX8_beginAnew_X0_clear : GoodIn wsX8_beginAnew (wsV RX8 328 RX0 yX0_clear wsX0_clear) := goodIn_app (goodIn_of _ (by decide +kernel)) ggX8_beginAnew_X0_clear
set_option maxRecDepth 20000 in
theorem ggX8_beginAnew_Jx4a65c_size_8abf5 : GoodIn wsX8_beginAnew wsJx4a65c_size_8abf5 := goodIn_r _ [24, 20, 93, 94, 95] (by decide +kernel) (by decide +kernel)
set_option maxRecDepth 20000 in
theorem gX8_beginAnew_Jx4a65c_size_8abf5 : GoodIn wsX8_beginAnew (wsV RX8 117 RJx4a65c yJx4a65c_size_8abf5 wsJx4a65c_size_8abf5) := goodIn_app (goodIn_of _ (by decide +kernel)) ggX8_beginAnew_Jx4a65c_size_8abf5
set_option maxRecDepth 20000 in
theorem ggX8_beginAnew_Jx4a65c_get_915e3 : GoodIn wsX8_beginAnew wsJx4a65c_get_915e3 := goodIn_r _ [28, 20, 29, 30, 31, 32, 33, 34, 35, 36, 37, 38, 39, 15, 40, 19, 93, 94, 95] (by decide +kernel) (by decide +kernel)
set_option maxRecDepth 20000 in
theorem gX8_beginAnew_Jx4a65c_get_915e3 : GoodIn wsX8_beginAnew (wsV RX8 324 RJx4a65c yJx4a65c_get_915e3 wsJx4a65c_get_915e3) := goodIn_app (goodIn_of _ (by decide +kernel)) ggX8_beginAnew_Jx4a65c_get_915e3
set_option maxRecDepth 20000 in
theorem ggX8_beginAnew_X6_clearStars : GoodIn wsX8_beginAnew wsX6_clearStars := goodIn_r _ [45, 46, 47, 13, 14, 15, 16, 17, 18, 19, 20, 96, 97, 98, 99, 100, 101, 102, 93, 94, 95] (by decide +kernel) (by decide +kernel)
set_option maxRecDepth 20000 in
theorem gX8_beginAnew_X6_clearStars : GoodIn wsX8_beginAnew (wsV RX8 331 RX6 yX6_clearStars wsX6_clearStars) := goodIn_app (goodIn_of _ (by decide +kernel)) ggX8_beginAnew_X6_clearStars
set_option maxRecDepth 20000 in
theorem ggX8_beginAnew_X6_findImages : GoodIn wsX8_beginAnew wsX6_findImages := goodIn_r _ [51, 52, 53, 54, 55, 56, 57, 58, 59, 60, 61, 62, 63, 64, 65, 66, 67, 68, 69, 70, 71, 44, 72, 73, 74, 75, 76, 77, 78, 96, 97, 98, 99, 100, 101, 102, 103, 104, 105, 106] (by decide +kernel) (by decide +kernel)
set_option maxRecDepth 20000 in
theorem gX8_beginAnew_X6_findImages : GoodIn wsX8_beginAnew (wsV RX8 131 RX6 yX6_findImages wsX6_findImages) := goodIn_app (goodIn_of _ (by decide +kernel)) ggX8_beginAnew_X6_findImages
theorem dX8_beginAnew_0 : decode cX8_beginAnew 0 = .ok (.aload_n 0, 1) := by decide +kernel
theorem dX8_beginAnew_1 : decode cX8_beginAnew 1 = .ok (.getfield 33, 3) := by decide +kernel
theorem dX8_beginAnew_4 : decode cX8_beginAnew 4 = .ok (.invokevirtual 328, 3) := by decide +kernel
theorem dX8_beginAnew_7 : decode cX8_beginAnew 7 = .ok (.aload_n 0, 1) := by decide +kernel
theorem dX8_beginAnew_8 : decode cX8_beginAnew 8 = .ok (.iconst 0, 1) := by decide +kernel
theorem dX8_beginAnew_9 : decode cX8_beginAnew 9 = .ok (.putfield 27, 3) := by decide +kernel
theorem dX8_beginAnew_12 : decode cX8_beginAnew 12 = .ok (.iconst 0, 1) := by decide +kernel
theorem dX8_beginAnew_13 : decode cX8_beginAnew 13 = .ok (.istore_n 1, 1) := by decide +kernel
theorem dX8_beginAnew_14 : decode cX8_beginAnew 14 = .ok (.iload_n 1, 1) := by decide +kernel
theorem dX8_beginAnew_15 : decode cX8_beginAnew 15 = .ok (.aload_n 0, 1) := by decide +kernel
theorem dX8_beginAnew_16 : decode cX8_beginAnew 16 = .ok (.getfield 19, 3) := by decide +kernel
theorem dX8_beginAnew_19 : decode cX8_beginAnew 19 = .ok (.invokevirtual 117, 3) := by decide +kernel
theorem dX8_beginAnew_22 : decode cX8_beginAnew 22 = .ok (.if_icmp .ge 41, 3) := by decide +kernel
theorem dX8_beginAnew_25 : decode cX8_beginAnew 25 = .ok (.aload_n 0, 1) := by decide +kernel
theorem dX8_beginAnew_26 : decode cX8_beginAnew 26 = .ok (.getfield 19, 3) := by decide +kernel
theorem dX8_beginAnew_29 : decode cX8_beginAnew 29 = .ok (.iload_n 1, 1) := by decide +kernel
theorem dX8_beginAnew_30 : decode cX8_beginAnew 30 = .ok (.invokevirtual 324, 3) := by decide +kernel
theorem dX8_beginAnew_33 : decode cX8_beginAnew 33 = .ok (.checkcast 126, 3) := by decide +kernel
theorem dX8_beginAnew_36 : decode cX8_beginAnew 36 = .ok (.invokevirtual 331, 3) := by decide +kernel
theorem dX8_beginAnew_39 : decode cX8_beginAnew 39 = .ok (.aload_n 0, 1) := by decide +kernel
theorem dX8_beginAnew_40 : decode cX8_beginAnew 40 = .ok (.getfield 19, 3) := by decide +kernel
theorem dX8_beginAnew_43 : decode cX8_beginAnew 43 = .ok (.iload_n 1, 1) := by decide +kernel
theorem dX8_beginAnew_44 : decode cX8_beginAnew 44 = .ok (.invokevirtual 324, 3) := by decide +kernel
theorem dX8_beginAnew_47 : decode cX8_beginAnew 47 = .ok (.checkcast 126, 3) := by decide +kernel
theorem dX8_beginAnew_50 : decode cX8_beginAnew 50 = .ok (.aload_n 0, 1) := by decide +kernel
theorem dX8_beginAnew_51 : decode cX8_beginAnew 51 = .ok (.getfield 12, 3) := by decide +kernel
theorem dX8_beginAnew_54 : decode cX8_beginAnew 54 = .ok (.invokevirtual 131, 3) := by decide +kernel
theorem dX8_beginAnew_57 : decode cX8_beginAnew 57 = .ok (.iinc 1 1, 3) := by decide +kernel
theorem dX8_beginAnew_60 : decode cX8_beginAnew 60 = .ok (.goto (-46), 3) := by decide +kernel
theorem dX8_beginAnew_63 : decode cX8_beginAnew 63 = .ok (.return_, 1) := by decide +kernel
set_option maxRecDepth 20000 in
theorem ggX8_isSeason_X8_isWithin : GoodIn wsX8_isSeason wsX8_isWithin := goodIn_r _ [7] (by decide +kernel) (by decide +kernel)
set_option maxRecDepth 20000 in
theorem gX8_isSeason_X8_isWithin : GoodIn wsX8_isSeason (va_wsS RX8 59 yX8_isWithin wsX8_isWithin) := goodIn_app (goodIn_of _ (by decide +kernel)) ggX8_isSeason_X8_isWithin
theorem dX8_isSeason_0 : decode cX8_isSeason 0 = .ok (.aload_n 0, 1) := by decide +kernel
theorem dX8_isSeason_1 : decode cX8_isSeason 1 = .ok (.getfield 44, 3) := by decide +kernel
theorem dX8_isSeason_4 : decode cX8_isSeason 4 = .ok (.bipush 100, 2) := by decide +kernel
theorem dX8_isSeason_6 : decode cX8_isSeason 6 = .ok (.irem, 1) := by decide +kernel
theorem dX8_isSeason_7 : decode cX8_isSeason 7 = .ok (.aload_n 0, 1) := by decide +kernel
theorem dX8_isSeason_8 : decode cX8_isSeason 8 = .ok (.getfield 47, 3) := by decide +kernel
theorem dX8_isSeason_11 : decode cX8_isSeason 11 = .ok (.aload_n 0, 1) := by decide +kernel
theorem dX8_isSeason_12 : decode cX8_isSeason 12 = .ok (.getfield 50, 3) := by decide +kernel
theorem dX8_isSeason_15 : decode cX8_isSeason 15 = .ok (.invokestatic 59, 3) := by decide +kernel
theorem dX8_isSeason_18 : decode cX8_isSeason 18 = .ok (.ireturn, 1) := by decide +kernel
set_option maxRecDepth 20000 in
theorem ggX8_wayOf_X6_placeAt : GoodIn wsX8_wayOf wsX6_placeAt := goodIn_r _ [6, 7, 8, 9, 10, 5, 11, 12, 35, 36, 37, 38, 39, 40, 41] (by decide +kernel) (by decide +kernel)
set_option maxRecDepth 20000 in
theorem gX8_wayOf_X6_placeAt : GoodIn wsX8_wayOf (wsV RX8 263 RX6 yX6_placeAt wsX6_placeAt) := goodIn_app (goodIn_of _ (by decide +kernel)) ggX8_wayOf_X6_placeAt
set_option maxRecDepth 20000 in
theorem ggX8_wayOf_X5_wayAt : GoodIn wsX8_wayOf wsX5_wayAt := goodIn_r _ [17, 18, 19, 20, 21, 16, 22, 23, 42, 43, 44, 45] (by decide +kernel) (by decide +kernel)
set_option maxRecDepth 20000 in
theorem gX8_wayOf_X5_wayAt : GoodIn wsX8_wayOf (wsV RX8 334 RX5 yX5_wayAt wsX5_wayAt) := goodIn_app (goodIn_of _ (by decide +kernel)) ggX8_wayOf_X5_wayAt
theorem dX8_wayOf_0 : decode cX8_wayOf 0 = .ok (.aload_n 0, 1) := by decide +kernel
theorem dX8_wayOf_1 : decode cX8_wayOf 1 = .ok (.getfield 12, 3) := by decide +kernel
theorem dX8_wayOf_4 : decode cX8_wayOf 4 = .ok (.aload_n 1, 1) := by decide +kernel
theorem dX8_wayOf_5 : decode cX8_wayOf 5 = .ok (.iload_n 2, 1) := by decide +kernel
theorem dX8_wayOf_6 : decode cX8_wayOf 6 = .ok (.invokevirtual 263, 3) := by decide +kernel
theorem dX8_wayOf_9 : decode cX8_wayOf 9 = .ok (.invokevirtual 334, 3) := by decide +kernel
theorem dX8_wayOf_12 : decode cX8_wayOf 12 = .ok (.ireturn, 1) := by decide +kernel
set_option maxRecDepth 20000 in
theorem ggX8_brightnessOf_X6_placeAt : GoodIn wsX8_brightnessOf wsX6_placeAt := goodIn_r _ [6, 7, 8, 9, 10, 5, 11, 12, 39, 40, 41, 42, 43, 44, 45] (by decide +kernel) (by decide +kernel)
set_option maxRecDepth 20000 in
theorem gX8_brightnessOf_X6_placeAt : GoodIn wsX8_brightnessOf (wsV RX8 263 RX6 yX6_placeAt wsX6_placeAt) := goodIn_app (goodIn_of _ (by decide +kernel)) ggX8_brightnessOf_X6_placeAt
set_option maxRecDepth 20000 in
theorem ggX8_brightnessOf_X5_brightnessAt : GoodIn wsX8_brightnessOf wsX5_brightnessAt := goodIn_r _ [17, 18, 19, 20, 16, 21, 22, 23, 24, 25, 26, 27, 46, 47, 48, 49] (by decide +kernel) (by decide +kernel)
set_option maxRecDepth 20000 in
theorem gX8_brightnessOf_X5_brightnessAt : GoodIn wsX8_brightnessOf (wsV RX8 337 RX5 yX5_brightnessAt wsX5_brightnessAt) := goodIn_app (goodIn_of _ (by decide +kernel)) ggX8_brightnessOf_X5_brightnessAt
theorem dX8_brightnessOf_0 : decode cX8_brightnessOf 0 = .ok (.aload_n 0, 1) := by decide +kernel
theorem dX8_brightnessOf_1 : decode cX8_brightnessOf 1 = .ok (.getfield 12, 3) := by decide +kernel
theorem dX8_brightnessOf_4 : decode cX8_brightnessOf 4 = .ok (.aload_n 1, 1) := by decide +kernel
theorem dX8_brightnessOf_5 : decode cX8_brightnessOf 5 = .ok (.iload_n 2, 1) := by decide +kernel
theorem dX8_brightnessOf_6 : decode cX8_brightnessOf 6 = .ok (.invokevirtual 263, 3) := by decide +kernel
theorem dX8_brightnessOf_9 : decode cX8_brightnessOf 9 = .ok (.invokevirtual 337, 3) := by decide +kernel
theorem dX8_brightnessOf_12 : decode cX8_brightnessOf 12 = .ok (.ireturn, 1) := by decide +kernel
set_option maxRecDepth 20000 in
theorem ggX8_lateness_X8_wayOf : GoodIn wsX8_lateness wsX8_wayOf := goodIn_r _ [6, 7, 8, 9, 10, 11, 12, 13, 14, 15, 16, 17, 18, 19, 20, 21, 22, 23, 24, 25, 26, 27, 28, 29, 30, 31, 32, 33, 34, 35, 36, 37, 38, 39, 40, 41, 42, 43, 44, 45, 46, 47, 48, 49, 50, 51] (by decide +kernel) (by decide +kernel)
set_option maxRecDepth 20000 in
theorem gX8_lateness_X8_wayOf : GoodIn wsX8_lateness (wsV RX8 222 RX8 yX8_wayOf wsX8_wayOf) := goodIn_app (goodIn_of _ (by decide +kernel)) ggX8_lateness_X8_wayOf
theorem dX8_lateness_0 : decode cX8_lateness 0 = .ok (.aload_n 0, 1) := by decide +kernel
theorem dX8_lateness_1 : decode cX8_lateness 1 = .ok (.getfield 56, 3) := by decide +kernel
theorem dX8_lateness_4 : decode cX8_lateness 4 = .ok (.iconst 1, 1) := by decide +kernel
theorem dX8_lateness_5 : decode cX8_lateness 5 = .ok (.if_icmp .ge 5, 3) := by decide +kernel
theorem dX8_lateness_8 : decode cX8_lateness 8 = .ok (.iconst 0, 1) := by decide +kernel
theorem dX8_lateness_9 : decode cX8_lateness 9 = .ok (.ireturn, 1) := by decide +kernel
theorem dX8_lateness_10 : decode cX8_lateness 10 = .ok (.aload_n 0, 1) := by decide +kernel
theorem dX8_lateness_11 : decode cX8_lateness 11 = .ok (.aload_n 1, 1) := by decide +kernel
theorem dX8_lateness_12 : decode cX8_lateness 12 = .ok (.iload_n 2, 1) := by decide +kernel
theorem dX8_lateness_13 : decode cX8_lateness 13 = .ok (.invokevirtual 222, 3) := by decide +kernel
theorem dX8_lateness_16 : decode cX8_lateness 16 = .ok (.aload_n 0, 1) := by decide +kernel
theorem dX8_lateness_17 : decode cX8_lateness 17 = .ok (.aload_n 1, 1) := by decide +kernel
theorem dX8_lateness_18 : decode cX8_lateness 18 = .ok (.iconst 0, 1) := by decide +kernel
theorem dX8_lateness_19 : decode cX8_lateness 19 = .ok (.invokevirtual 222, 3) := by decide +kernel
theorem dX8_lateness_22 : decode cX8_lateness 22 = .ok (.isub, 1) := by decide +kernel
theorem dX8_lateness_23 : decode cX8_lateness 23 = .ok (.bipush 20, 2) := by decide +kernel
theorem dX8_lateness_25 : decode cX8_lateness 25 = .ok (.imul, 1) := by decide +kernel
theorem dX8_lateness_26 : decode cX8_lateness 26 = .ok (.aload_n 0, 1) := by decide +kernel
theorem dX8_lateness_27 : decode cX8_lateness 27 = .ok (.getfield 56, 3) := by decide +kernel
theorem dX8_lateness_30 : decode cX8_lateness 30 = .ok (.idiv, 1) := by decide +kernel
theorem dX8_lateness_31 : decode cX8_lateness 31 = .ok (.ireturn, 1) := by decide +kernel
set_option maxRecDepth 20000 in
theorem ggX8_lightToday_X8_lateness : GoodIn wsX8_lightToday wsX8_lateness := goodIn_r _ [10, 11, 12, 13, 14, 9, 15, 16, 17, 18, 19, 20, 21, 22, 23, 24, 25, 26, 27, 28, 29, 30, 31, 32, 33, 34, 35, 36, 37, 38, 100, 101, 102, 103, 104, 105, 106, 107, 108, 109, 110, 111, 112, 113, 114, 115, 116, 117, 118, 119, 120, 121] (by decide +kernel) (by decide +kernel)
set_option maxRecDepth 20000 in
theorem gX8_lightToday_X8_lateness : GoodIn wsX8_lightToday (wsV RX8 275 RX8 yX8_lateness wsX8_lateness) := goodIn_app (goodIn_of _ (by decide +kernel)) ggX8_lightToday_X8_lateness
set_option maxRecDepth 20000 in
theorem ggX8_lightToday_X6_lightOn : GoodIn wsX8_lightToday wsX6_lightOn := goodIn_r _ [42, 43, 44, 45, 46, 47, 4, 48, 49, 50, 51, 52, 53, 54, 55, 56, 57, 58, 59, 60, 61, 62, 63, 64, 65, 66, 67, 68, 69, 70, 71, 111, 112, 113, 114, 115, 116, 117, 122, 123, 124, 125, 126] (by decide +kernel) (by decide +kernel)
set_option maxRecDepth 20000 in
theorem gX8_lightToday_X6_lightOn : GoodIn wsX8_lightToday (wsV RX8 157 RX6 yX6_lightOn wsX6_lightOn) := goodIn_app (goodIn_of _ (by decide +kernel)) ggX8_lightToday_X6_lightOn
set_option maxRecDepth 20000 in
theorem ggX8_lightToday_X8_brightnessOf : GoodIn wsX8_lightToday wsX8_brightnessOf := goodIn_r _ [75, 16, 17, 18, 19, 20, 21, 22, 23, 24, 25, 26, 27, 76, 77, 78, 31, 79, 80, 81, 82, 83, 38, 84, 34, 35, 36, 37, 100, 101, 102, 103, 104, 105, 106, 107, 108, 109, 110, 111, 112, 113, 114, 115, 116, 117, 118, 119, 120, 121] (by decide +kernel) (by decide +kernel)
set_option maxRecDepth 20000 in
theorem gX8_lightToday_X8_brightnessOf : GoodIn wsX8_lightToday (wsV RX8 272 RX8 yX8_brightnessOf wsX8_brightnessOf) := goodIn_app (goodIn_of _ (by decide +kernel)) ggX8_lightToday_X8_brightnessOf
set_option maxRecDepth 20000 in
theorem ggX8_lightToday_X6_starsOn : GoodIn wsX8_lightToday wsX6_starsOn := goodIn_r _ [88, 89, 90, 49, 50, 51, 52, 53, 54, 55, 56, 57, 58, 59, 60, 61, 62, 63, 64, 65, 66, 67, 68, 69, 70, 71, 91, 92, 93, 94, 95, 96, 97, 98, 3, 4, 5, 99, 111, 112, 113, 114, 115, 116, 117, 127, 128, 129, 130, 124, 125, 126] (by decide +kernel) (by decide +kernel)
set_option maxRecDepth 20000 in
theorem gX8_lightToday_X6_starsOn : GoodIn wsX8_lightToday (wsV RX8 340 RX6 yX6_starsOn wsX6_starsOn) := goodIn_app (goodIn_of _ (by decide +kernel)) ggX8_lightToday_X6_starsOn
theorem dX8_lightToday_0 : decode cX8_lightToday 0 = .ok (.aload_n 1, 1) := by decide +kernel
theorem dX8_lightToday_1 : decode cX8_lightToday 1 = .ok (.aload_n 0, 1) := by decide +kernel
theorem dX8_lightToday_2 : decode cX8_lightToday 2 = .ok (.getfield 44, 3) := by decide +kernel
theorem dX8_lightToday_5 : decode cX8_lightToday 5 = .ok (.aload_n 0, 1) := by decide +kernel
theorem dX8_lightToday_6 : decode cX8_lightToday 6 = .ok (.aload_n 1, 1) := by decide +kernel
theorem dX8_lightToday_7 : decode cX8_lightToday 7 = .ok (.iload_n 2, 1) := by decide +kernel
theorem dX8_lightToday_8 : decode cX8_lightToday 8 = .ok (.invokevirtual 275, 3) := by decide +kernel
theorem dX8_lightToday_11 : decode cX8_lightToday 11 = .ok (.isub, 1) := by decide +kernel
theorem dX8_lightToday_12 : decode cX8_lightToday 12 = .ok (.invokevirtual 157, 3) := by decide +kernel
theorem dX8_lightToday_15 : decode cX8_lightToday 15 = .ok (.istore_n 3, 1) := by decide +kernel
theorem dX8_lightToday_16 : decode cX8_lightToday 16 = .ok (.aload_n 0, 1) := by decide +kernel
theorem dX8_lightToday_17 : decode cX8_lightToday 17 = .ok (.aload_n 1, 1) := by decide +kernel
theorem dX8_lightToday_18 : decode cX8_lightToday 18 = .ok (.iload_n 2, 1) := by decide +kernel
theorem dX8_lightToday_19 : decode cX8_lightToday 19 = .ok (.invokevirtual 272, 3) := by decide +kernel
theorem dX8_lightToday_22 : decode cX8_lightToday 22 = .ok (.invokestatic 319, 3) := by decide +kernel
theorem dX8_lightToday_25 : decode cX8_lightToday 25 = .ok (.iload_n 3, 1) := by decide +kernel
theorem dX8_lightToday_26 : decode cX8_lightToday 26 = .ok (.imul, 1) := by decide +kernel
theorem dX8_lightToday_27 : decode cX8_lightToday 27 = .ok (.aload_n 1, 1) := by decide +kernel
theorem dX8_lightToday_28 : decode cX8_lightToday 28 = .ok (.iload_n 2, 1) := by decide +kernel
theorem dX8_lightToday_29 : decode cX8_lightToday 29 = .ok (.aload_n 0, 1) := by decide +kernel
theorem dX8_lightToday_30 : decode cX8_lightToday 30 = .ok (.getfield 44, 3) := by decide +kernel
theorem dX8_lightToday_33 : decode cX8_lightToday 33 = .ok (.invokevirtual 340, 3) := by decide +kernel
theorem dX8_lightToday_36 : decode cX8_lightToday 36 = .ok (.iadd, 1) := by decide +kernel
theorem dX8_lightToday_37 : decode cX8_lightToday 37 = .ok (.ireturn, 1) := by decide +kernel
set_option maxRecDepth 20000 in
theorem ggX8_framedSky_X3_init : GoodIn wsX8_framedSky wsX3_init := goodIn_r _ [13, 14, 15, 16, 17, 18, 19, 20, 21, 22, 23, 141, 142] (by decide +kernel) (by decide +kernel)
set_option maxRecDepth 20000 in
theorem gX8_framedSky_X3_init : GoodIn wsX8_framedSky (wsX3_init) := ggX8_framedSky_X3_init
set_option maxRecDepth 20000 in
theorem ggX8_framedSky_Jx4a65c_size_8abf5 : GoodIn wsX8_framedSky wsJx4a65c_size_8abf5 := goodIn_r _ [28, 29, 154, 155, 156] (by decide +kernel) (by decide +kernel)
set_option maxRecDepth 20000 in
theorem gX8_framedSky_Jx4a65c_size_8abf5 : GoodIn wsX8_framedSky (wsV RX8 117 RJx4a65c yJx4a65c_size_8abf5 wsJx4a65c_size_8abf5) := goodIn_app (goodIn_of _ (by decide +kernel)) ggX8_framedSky_Jx4a65c_size_8abf5
set_option maxRecDepth 20000 in
theorem ggX8_framedSky_Jx4a65c_get_915e3 : GoodIn wsX8_framedSky wsJx4a65c_get_915e3 := goodIn_r _ [33, 29, 34, 35, 36, 37, 38, 39, 40, 41, 42, 43, 44, 27, 45, 46, 154, 155, 156] (by decide +kernel) (by decide +kernel)
set_option maxRecDepth 20000 in
theorem gX8_framedSky_Jx4a65c_get_915e3 : GoodIn wsX8_framedSky (wsV RX8 324 RJx4a65c yJx4a65c_get_915e3 wsJx4a65c_get_915e3) := goodIn_app (goodIn_of _ (by decide +kernel)) ggX8_framedSky_Jx4a65c_get_915e3
set_option maxRecDepth 20000 in
theorem ggX8_framedSky_X6_imageCount : GoodIn wsX8_framedSky wsX6_imageCount := goodIn_r _ [51, 52, 157, 158, 159, 160, 161, 162, 163] (by decide +kernel) (by decide +kernel)
set_option maxRecDepth 20000 in
theorem gX8_framedSky_X6_imageCount : GoodIn wsX8_framedSky (wsV RX8 251 RX6 yX6_imageCount wsX6_imageCount) := goodIn_app (goodIn_of _ (by decide +kernel)) ggX8_framedSky_X6_imageCount
set_option maxRecDepth 20000 in
theorem ggX8_framedSky_X8_lightToday : GoodIn wsX8_framedSky wsX8_lightToday := goodIn_r _ [57, 4, 58, 59, 9, 60, 61, 62, 63, 56, 64, 65, 66, 67, 68, 69, 70, 71, 72, 73, 50, 74, 75, 76, 77, 78, 79, 52, 80, 81, 82, 83, 84, 85, 86, 87, 88, 89, 90, 91, 92, 93, 94, 95, 96, 97, 98, 99, 100, 101, 25, 26, 27, 28, 29, 102, 31, 32, 33, 34, 35, 36, 37, 38, 39, 40, 41, 42, 43, 44, 45, 46, 103, 104, 105, 106, 107, 108, 109, 110, 111, 112, 113, 114, 115, 116, 117, 118, 119, 120, 121, 122, 123, 124, 125, 126, 127, 128, 129, 130, 143, 144, 145, 146, 147, 148, 149, 150, 151, 152, 153, 157, 158, 159, 160, 161, 162, 163, 164, 165, 166, 167, 168, 169, 154, 155, 156, 170, 171, 172, 173] (by decide +kernel) (by decide +kernel)
set_option maxRecDepth 20000 in
theorem gX8_framedSky_X8_lightToday : GoodIn wsX8_framedSky (wsV RX8 286 RX8 yX8_lightToday wsX8_lightToday) := goodIn_app (goodIn_of _ (by decide +kernel)) ggX8_framedSky_X8_lightToday
set_option maxRecDepth 20000 in
theorem ggX8_framedSky_X3_setLight : GoodIn wsX8_framedSky wsX3_setLight := goodIn_r _ [134, 18, 135, 136, 137, 3, 138, 139, 56, 140, 141, 142] (by decide +kernel) (by decide +kernel)
set_option maxRecDepth 20000 in
theorem gX8_framedSky_X3_setLight : GoodIn wsX8_framedSky (wsV RX8 349 RX3 yX3_setLight wsX3_setLight) := goodIn_app (goodIn_of _ (by decide +kernel)) ggX8_framedSky_X3_setLight
theorem dX8_framedSky_0 : decode cX8_framedSky 0 = .ok (.new 298, 3) := by decide +kernel
theorem dX8_framedSky_3 : decode cX8_framedSky 3 = .ok (.dup, 1) := by decide +kernel
theorem dX8_framedSky_4 : decode cX8_framedSky 4 = .ok (.aload_n 0, 1) := by decide +kernel
theorem dX8_framedSky_5 : decode cX8_framedSky 5 = .ok (.getfield 44, 3) := by decide +kernel
theorem dX8_framedSky_8 : decode cX8_framedSky 8 = .ok (.invokespecial 343, 3) := by decide +kernel
theorem dX8_framedSky_11 : decode cX8_framedSky 11 = .ok (.astore_n 1, 1) := by decide +kernel
theorem dX8_framedSky_12 : decode cX8_framedSky 12 = .ok (.iconst 0, 1) := by decide +kernel
theorem dX8_framedSky_13 : decode cX8_framedSky 13 = .ok (.istore_n 2, 1) := by decide +kernel
theorem dX8_framedSky_14 : decode cX8_framedSky 14 = .ok (.iload_n 2, 1) := by decide +kernel
theorem dX8_framedSky_15 : decode cX8_framedSky 15 = .ok (.aload_n 0, 1) := by decide +kernel
theorem dX8_framedSky_16 : decode cX8_framedSky 16 = .ok (.getfield 19, 3) := by decide +kernel
theorem dX8_framedSky_19 : decode cX8_framedSky 19 = .ok (.invokevirtual 117, 3) := by decide +kernel
theorem dX8_framedSky_22 : decode cX8_framedSky 22 = .ok (.if_icmp .ge 68, 3) := by decide +kernel
theorem dX8_framedSky_25 : decode cX8_framedSky 25 = .ok (.aload_n 0, 1) := by decide +kernel
theorem dX8_framedSky_26 : decode cX8_framedSky 26 = .ok (.getfield 19, 3) := by decide +kernel
theorem dX8_framedSky_29 : decode cX8_framedSky 29 = .ok (.iload_n 2, 1) := by decide +kernel
theorem dX8_framedSky_30 : decode cX8_framedSky 30 = .ok (.invokevirtual 324, 3) := by decide +kernel
theorem dX8_framedSky_33 : decode cX8_framedSky 33 = .ok (.checkcast 126, 3) := by decide +kernel
theorem dX8_framedSky_36 : decode cX8_framedSky 36 = .ok (.invokevirtual 251, 3) := by decide +kernel
theorem dX8_framedSky_39 : decode cX8_framedSky 39 = .ok (.bipush 6, 2) := by decide +kernel
theorem dX8_framedSky_41 : decode cX8_framedSky 41 = .ok (.invokestatic 346, 3) := by decide +kernel
theorem dX8_framedSky_44 : decode cX8_framedSky 44 = .ok (.istore_n 3, 1) := by decide +kernel
theorem dX8_framedSky_45 : decode cX8_framedSky 45 = .ok (.iconst 0, 1) := by decide +kernel
theorem dX8_framedSky_46 : decode cX8_framedSky 46 = .ok (.istore 4, 2) := by decide +kernel
theorem dX8_framedSky_48 : decode cX8_framedSky 48 = .ok (.iload 4, 2) := by decide +kernel
theorem dX8_framedSky_50 : decode cX8_framedSky 50 = .ok (.iload_n 3, 1) := by decide +kernel
theorem dX8_framedSky_51 : decode cX8_framedSky 51 = .ok (.if_icmp .ge 33, 3) := by decide +kernel
theorem dX8_framedSky_54 : decode cX8_framedSky 54 = .ok (.aload_n 1, 1) := by decide +kernel
theorem dX8_framedSky_55 : decode cX8_framedSky 55 = .ok (.iload_n 2, 1) := by decide +kernel
theorem dX8_framedSky_56 : decode cX8_framedSky 56 = .ok (.iload 4, 2) := by decide +kernel
theorem dX8_framedSky_58 : decode cX8_framedSky 58 = .ok (.aload_n 0, 1) := by decide +kernel
theorem dX8_framedSky_59 : decode cX8_framedSky 59 = .ok (.aload_n 0, 1) := by decide +kernel
theorem dX8_framedSky_60 : decode cX8_framedSky 60 = .ok (.getfield 19, 3) := by decide +kernel
theorem dX8_framedSky_63 : decode cX8_framedSky 63 = .ok (.iload_n 2, 1) := by decide +kernel
theorem dX8_framedSky_64 : decode cX8_framedSky 64 = .ok (.invokevirtual 324, 3) := by decide +kernel
theorem dX8_framedSky_67 : decode cX8_framedSky 67 = .ok (.checkcast 126, 3) := by decide +kernel
theorem dX8_framedSky_70 : decode cX8_framedSky 70 = .ok (.iload 4, 2) := by decide +kernel
theorem dX8_framedSky_72 : decode cX8_framedSky 72 = .ok (.invokevirtual 286, 3) := by decide +kernel
theorem dX8_framedSky_75 : decode cX8_framedSky 75 = .ok (.invokevirtual 349, 3) := by decide +kernel
theorem dX8_framedSky_78 : decode cX8_framedSky 78 = .ok (.iinc 4 1, 3) := by decide +kernel
theorem dX8_framedSky_81 : decode cX8_framedSky 81 = .ok (.goto (-33), 3) := by decide +kernel
theorem dX8_framedSky_84 : decode cX8_framedSky 84 = .ok (.iinc 2 1, 3) := by decide +kernel
theorem dX8_framedSky_87 : decode cX8_framedSky 87 = .ok (.goto (-73), 3) := by decide +kernel
theorem dX8_framedSky_90 : decode cX8_framedSky 90 = .ok (.aload_n 1, 1) := by decide +kernel
theorem dX8_framedSky_91 : decode cX8_framedSky 91 = .ok (.areturn, 1) := by decide +kernel
set_option maxRecDepth 20000 in
theorem ggX8_measuredDays_X8_sourceAt : GoodIn wsX8_measuredDays wsX8_sourceAt := goodIn_r _ [10, 11, 12, 13, 14, 15, 16, 17, 18, 19, 20, 21, 22, 23, 24, 25, 26, 27, 28, 29, 30, 31, 32, 33, 34, 35, 106, 107, 108, 109, 110, 111, 112, 113, 114, 115, 116, 117, 118, 119] (by decide +kernel) (by decide +kernel)
set_option maxRecDepth 20000 in
theorem gX8_measuredDays_X8_sourceAt : GoodIn wsX8_measuredDays (wsV RX8 138 RX8 yX8_sourceAt wsX8_sourceAt) := goodIn_app (goodIn_of _ (by decide +kernel)) ggX8_measuredDays_X8_sourceAt
set_option maxRecDepth 20000 in
theorem ggX8_measuredDays_X8_brightnessOf : GoodIn wsX8_measuredDays wsX8_brightnessOf := goodIn_r _ [39, 40, 41, 42, 43, 44, 45, 46, 47, 48, 49, 50, 51, 52, 53, 54, 55, 56, 57, 58, 59, 60, 61, 62, 63, 64, 65, 66, 106, 107, 108, 109, 110, 111, 112, 113, 114, 115, 116, 120, 121, 122, 123, 124, 125, 126, 127, 128, 129, 130] (by decide +kernel) (by decide +kernel)
set_option maxRecDepth 20000 in
theorem gX8_measuredDays_X8_brightnessOf : GoodIn wsX8_measuredDays (wsV RX8 272 RX8 yX8_brightnessOf wsX8_brightnessOf) := goodIn_app (goodIn_of _ (by decide +kernel)) ggX8_measuredDays_X8_brightnessOf
set_option maxRecDepth 20000 in
theorem ggX8_measuredDays_X0_measure : GoodIn wsX8_measuredDays wsX0_measure := goodIn_r _ [71, 72, 73, 74, 75, 76, 77, 78, 79, 80, 81, 82, 83, 14, 15, 16, 17, 18, 84, 20, 21, 22, 23, 24, 25, 26, 27, 28, 29, 30, 31, 32, 33, 34, 35, 85, 86, 87, 88, 89, 90, 91, 92, 93, 94, 95, 9, 96, 97, 98, 99, 70, 100, 101, 2, 3, 4, 102, 103, 104, 105, 131, 132, 133, 134, 135, 117, 118, 119] (by decide +kernel) (by decide +kernel)
set_option maxRecDepth 20000 in
theorem gX8_measuredDays_X0_measure : GoodIn wsX8_measuredDays (wsV RX8 352 RX0 yX0_measure wsX0_measure) := goodIn_app (goodIn_of _ (by decide +kernel)) ggX8_measuredDays_X0_measure
theorem dX8_measuredDays_0 : decode cX8_measuredDays 0 = .ok (.aload_n 0, 1) := by decide +kernel
theorem dX8_measuredDays_1 : decode cX8_measuredDays 1 = .ok (.iload_n 1, 1) := by decide +kernel
theorem dX8_measuredDays_2 : decode cX8_measuredDays 2 = .ok (.invokevirtual 138, 3) := by decide +kernel
theorem dX8_measuredDays_5 : decode cX8_measuredDays 5 = .ok (.astore 4, 2) := by decide +kernel
theorem dX8_measuredDays_7 : decode cX8_measuredDays 7 = .ok (.aload 4, 2) := by decide +kernel
theorem dX8_measuredDays_9 : decode cX8_measuredDays 9 = .ok (.ifnull 15, 3) := by decide +kernel
theorem dX8_measuredDays_12 : decode cX8_measuredDays 12 = .ok (.iload_n 2, 1) := by decide +kernel
theorem dX8_measuredDays_13 : decode cX8_measuredDays 13 = .ok (.bipush 6, 2) := by decide +kernel
theorem dX8_measuredDays_15 : decode cX8_measuredDays 15 = .ok (.if_icmp .ge 9, 3) := by decide +kernel
theorem dX8_measuredDays_18 : decode cX8_measuredDays 18 = .ok (.iload_n 3, 1) := by decide +kernel
theorem dX8_measuredDays_19 : decode cX8_measuredDays 19 = .ok (.bipush 6, 2) := by decide +kernel
theorem dX8_measuredDays_21 : decode cX8_measuredDays 21 = .ok (.if_icmp .lt 5, 3) := by decide +kernel
theorem dX8_measuredDays_24 : decode cX8_measuredDays 24 = .ok (.iconst (-1), 1) := by decide +kernel
theorem dX8_measuredDays_25 : decode cX8_measuredDays 25 = .ok (.ireturn, 1) := by decide +kernel
theorem dX8_measuredDays_26 : decode cX8_measuredDays 26 = .ok (.aload_n 0, 1) := by decide +kernel
theorem dX8_measuredDays_27 : decode cX8_measuredDays 27 = .ok (.aload 4, 2) := by decide +kernel
theorem dX8_measuredDays_29 : decode cX8_measuredDays 29 = .ok (.iload_n 2, 1) := by decide +kernel
theorem dX8_measuredDays_30 : decode cX8_measuredDays 30 = .ok (.invokevirtual 272, 3) := by decide +kernel
theorem dX8_measuredDays_33 : decode cX8_measuredDays 33 = .ok (.invokestatic 319, 3) := by decide +kernel
theorem dX8_measuredDays_36 : decode cX8_measuredDays 36 = .ok (.istore 5, 2) := by decide +kernel
theorem dX8_measuredDays_38 : decode cX8_measuredDays 38 = .ok (.aload_n 0, 1) := by decide +kernel
