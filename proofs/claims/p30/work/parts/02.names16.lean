theorem dX8_book_118 : decode cX8_book 118 = .ok (.invokevirtual 226, 3) := by decide +kernel
theorem dX8_book_121 : decode cX8_book 121 = .ok (.invokevirtual 227, 3) := by decide +kernel
theorem dX8_book_124 : decode cX8_book 124 = .ok (.ireturn, 1) := by decide +kernel
set_option maxRecDepth 20000 in
theorem ggX8_vote_X1_hasMind : GoodIn wsX8_vote wsX1_hasMind := goodIn_r _ [8, 9, 31, 32, 33, 34, 35] (by decide +kernel) (by decide +kernel)
set_option maxRecDepth 20000 in
theorem gX8_vote_X1_hasMind : GoodIn wsX8_vote (wsV RX8 229 RX1 yX1_hasMind wsX1_hasMind) := goodIn_app (goodIn_of _ (by decide +kernel)) ggX8_vote_X1_hasMind
set_option maxRecDepth 20000 in
theorem ggX8_vote_X1_setMind : GoodIn wsX8_vote wsX1_setMind := goodIn_r _ [13, 9, 14, 15, 5, 6, 7, 8, 31, 32, 33, 34, 35] (by decide +kernel) (by decide +kernel)
set_option maxRecDepth 20000 in
theorem gX8_vote_X1_setMind : GoodIn wsX8_vote (wsV RX8 234 RX1 yX1_setMind wsX1_setMind) := goodIn_app (goodIn_of _ (by decide +kernel)) ggX8_vote_X1_setMind
set_option maxRecDepth 20000 in
theorem ggX8_vote_X1_areOpen : GoodIn wsX8_vote wsX1_areOpen := goodIn_r _ [19, 14, 31, 32, 33, 34, 35] (by decide +kernel) (by decide +kernel)
set_option maxRecDepth 20000 in
theorem gX8_vote_X1_areOpen : GoodIn wsX8_vote (wsV RX8 238 RX1 yX1_areOpen wsX1_areOpen) := goodIn_app (goodIn_of _ (by decide +kernel)) ggX8_vote_X1_areOpen
theorem dX8_vote_0 : decode cX8_vote 0 = .ok (.aload_n 0, 1) := by decide +kernel
theorem dX8_vote_1 : decode cX8_vote 1 = .ok (.getfield 40, 3) := by decide +kernel
theorem dX8_vote_4 : decode cX8_vote 4 = .ok (.iload_n 1, 1) := by decide +kernel
theorem dX8_vote_5 : decode cX8_vote 5 = .ok (.invokevirtual 229, 3) := by decide +kernel
theorem dX8_vote_8 : decode cX8_vote 8 = .ok (.ifCond .ne 13, 3) := by decide +kernel
theorem dX8_vote_11 : decode cX8_vote 11 = .ok (.new 99, 3) := by decide +kernel
theorem dX8_vote_14 : decode cX8_vote 14 = .ok (.dup, 1) := by decide +kernel
theorem dX8_vote_15 : decode cX8_vote 15 = .ok (.ldc 232, 2) := by decide +kernel
theorem dX8_vote_17 : decode cX8_vote 17 = .ok (.invokespecial 103, 3) := by decide +kernel
theorem dX8_vote_20 : decode cX8_vote 20 = .ok (.athrow, 1) := by decide +kernel
theorem dX8_vote_21 : decode cX8_vote 21 = .ok (.aload_n 0, 1) := by decide +kernel
theorem dX8_vote_22 : decode cX8_vote 22 = .ok (.getfield 40, 3) := by decide +kernel
theorem dX8_vote_25 : decode cX8_vote 25 = .ok (.iload_n 1, 1) := by decide +kernel
theorem dX8_vote_26 : decode cX8_vote 26 = .ok (.iload_n 2, 1) := by decide +kernel
theorem dX8_vote_27 : decode cX8_vote 27 = .ok (.invokevirtual 234, 3) := by decide +kernel
theorem dX8_vote_30 : decode cX8_vote 30 = .ok (.aload_n 0, 1) := by decide +kernel
theorem dX8_vote_31 : decode cX8_vote 31 = .ok (.getfield 40, 3) := by decide +kernel
theorem dX8_vote_34 : decode cX8_vote 34 = .ok (.invokevirtual 238, 3) := by decide +kernel
theorem dX8_vote_37 : decode cX8_vote 37 = .ok (.ireturn, 1) := by decide +kernel
theorem dX8_day_0 : decode cX8_day 0 = .ok (.aload_n 0, 1) := by decide +kernel
theorem dX8_day_1 : decode cX8_day 1 = .ok (.getfield 44, 3) := by decide +kernel
theorem dX8_day_4 : decode cX8_day 4 = .ok (.ireturn, 1) := by decide +kernel
set_option maxRecDepth 20000 in
theorem ggX8_from_X8_isInField : GoodIn wsX8_from wsX8_isInField := goodIn_r _ [7, 8, 9, 6, 10] (by decide +kernel) (by decide +kernel)
set_option maxRecDepth 20000 in
theorem gX8_from_X8_isInField : GoodIn wsX8_from (va_wsS RX8 63 yX8_isInField wsX8_isInField) := goodIn_app (goodIn_of _ (by decide +kernel)) ggX8_from_X8_isInField
set_option maxRecDepth 20000 in
theorem ggX8_from_X5_placeOf : GoodIn wsX8_from wsX5_placeOf := goodIn_r _ [14] (by decide +kernel) (by decide +kernel)
set_option maxRecDepth 20000 in
theorem gX8_from_X5_placeOf : GoodIn wsX8_from (va_wsS RX8 241 yX5_placeOf wsX5_placeOf) := goodIn_app (goodIn_of _ (by decide +kernel)) ggX8_from_X5_placeOf
set_option maxRecDepth 20000 in
theorem ggX8_from_X5_comesFromRow : GoodIn wsX8_from wsX5_comesFromRow := goodIn_r _ [18, 19, 20, 21, 22, 13, 23, 24, 40, 41, 42, 43] (by decide +kernel) (by decide +kernel)
set_option maxRecDepth 20000 in
theorem gX8_from_X5_comesFromRow : GoodIn wsX8_from (wsV RX8 245 RX5 yX5_comesFromRow wsX5_comesFromRow) := goodIn_app (goodIn_of _ (by decide +kernel)) ggX8_from_X5_comesFromRow
set_option maxRecDepth 20000 in
theorem ggX8_from_X5_comesFromColumn : GoodIn wsX8_from wsX5_comesFromColumn := goodIn_r _ [28, 24, 20, 21, 22, 13, 23, 40, 41, 42, 43] (by decide +kernel) (by decide +kernel)
set_option maxRecDepth 20000 in
theorem gX8_from_X5_comesFromColumn : GoodIn wsX8_from (wsV RX8 248 RX5 yX5_comesFromColumn wsX5_comesFromColumn) := goodIn_app (goodIn_of _ (by decide +kernel)) ggX8_from_X5_comesFromColumn
theorem dX8_from_0 : decode cX8_from 0 = .ok (.iload_n 1, 1) := by decide +kernel
theorem dX8_from_1 : decode cX8_from 1 = .ok (.iload_n 2, 1) := by decide +kernel
theorem dX8_from_2 : decode cX8_from 2 = .ok (.invokestatic 63, 3) := by decide +kernel
theorem dX8_from_5 : decode cX8_from 5 = .ok (.ifCond .ne 13, 3) := by decide +kernel
theorem dX8_from_8 : decode cX8_from 8 = .ok (.new 67, 3) := by decide +kernel
theorem dX8_from_11 : decode cX8_from 11 = .ok (.dup, 1) := by decide +kernel
theorem dX8_from_12 : decode cX8_from 12 = .ok (.ldc 104, 2) := by decide +kernel
theorem dX8_from_14 : decode cX8_from 14 = .ok (.invokespecial 71, 3) := by decide +kernel
theorem dX8_from_17 : decode cX8_from 17 = .ok (.athrow, 1) := by decide +kernel
theorem dX8_from_18 : decode cX8_from 18 = .ok (.iload_n 1, 1) := by decide +kernel
theorem dX8_from_19 : decode cX8_from 19 = .ok (.iload_n 2, 1) := by decide +kernel
theorem dX8_from_20 : decode cX8_from 20 = .ok (.invokestatic 241, 3) := by decide +kernel
theorem dX8_from_23 : decode cX8_from 23 = .ok (.istore 4, 2) := by decide +kernel
theorem dX8_from_25 : decode cX8_from 25 = .ok (.iload_n 3, 1) := by decide +kernel
theorem dX8_from_26 : decode cX8_from 26 = .ok (.ifCond .eq 15, 3) := by decide +kernel
theorem dX8_from_29 : decode cX8_from 29 = .ok (.aload_n 0, 1) := by decide +kernel
theorem dX8_from_30 : decode cX8_from 30 = .ok (.getfield 12, 3) := by decide +kernel
theorem dX8_from_33 : decode cX8_from 33 = .ok (.iload 4, 2) := by decide +kernel
theorem dX8_from_35 : decode cX8_from 35 = .ok (.invokevirtual 245, 3) := by decide +kernel
theorem dX8_from_38 : decode cX8_from 38 = .ok (.goto 12, 3) := by decide +kernel
theorem dX8_from_41 : decode cX8_from 41 = .ok (.aload_n 0, 1) := by decide +kernel
theorem dX8_from_42 : decode cX8_from 42 = .ok (.getfield 12, 3) := by decide +kernel
theorem dX8_from_45 : decode cX8_from 45 = .ok (.iload 4, 2) := by decide +kernel
theorem dX8_from_47 : decode cX8_from 47 = .ok (.invokevirtual 248, 3) := by decide +kernel
theorem dX8_from_50 : decode cX8_from 50 = .ok (.ireturn, 1) := by decide +kernel
set_option maxRecDepth 20000 in
theorem ggX8_images_X8_sourceAt : GoodIn wsX8_images wsX8_sourceAt := goodIn_r _ [7, 8, 9, 10, 11, 12, 13, 14, 15, 16, 17, 18, 19, 20, 21, 22, 23, 24, 25, 26, 27, 28, 29, 30, 31, 32, 39, 40, 41, 42, 43, 44, 45, 46, 47, 48, 49, 50, 51, 52] (by decide +kernel) (by decide +kernel)
set_option maxRecDepth 20000 in
theorem gX8_images_X8_sourceAt : GoodIn wsX8_images (wsV RX8 138 RX8 yX8_sourceAt wsX8_sourceAt) := goodIn_app (goodIn_of _ (by decide +kernel)) ggX8_images_X8_sourceAt
set_option maxRecDepth 20000 in
theorem ggX8_images_X6_imageCount : GoodIn wsX8_images wsX6_imageCount := goodIn_r _ [37, 38, 53, 54, 55, 56, 57, 58, 59] (by decide +kernel) (by decide +kernel)
set_option maxRecDepth 20000 in
theorem gX8_images_X6_imageCount : GoodIn wsX8_images (wsV RX8 251 RX6 yX6_imageCount wsX6_imageCount) := goodIn_app (goodIn_of _ (by decide +kernel)) ggX8_images_X6_imageCount
theorem dX8_images_0 : decode cX8_images 0 = .ok (.aload_n 0, 1) := by decide +kernel
theorem dX8_images_1 : decode cX8_images 1 = .ok (.iload_n 1, 1) := by decide +kernel
theorem dX8_images_2 : decode cX8_images 2 = .ok (.invokevirtual 138, 3) := by decide +kernel
theorem dX8_images_5 : decode cX8_images 5 = .ok (.astore_n 2, 1) := by decide +kernel
theorem dX8_images_6 : decode cX8_images 6 = .ok (.aload_n 2, 1) := by decide +kernel
theorem dX8_images_7 : decode cX8_images 7 = .ok (.ifnonnull 13, 3) := by decide +kernel
theorem dX8_images_10 : decode cX8_images 10 = .ok (.new 99, 3) := by decide +kernel
theorem dX8_images_13 : decode cX8_images 13 = .ok (.dup, 1) := by decide +kernel
theorem dX8_images_14 : decode cX8_images 14 = .ok (.ldc 142, 2) := by decide +kernel
theorem dX8_images_16 : decode cX8_images 16 = .ok (.invokespecial 103, 3) := by decide +kernel
theorem dX8_images_19 : decode cX8_images 19 = .ok (.athrow, 1) := by decide +kernel
theorem dX8_images_20 : decode cX8_images 20 = .ok (.aload_n 2, 1) := by decide +kernel
theorem dX8_images_21 : decode cX8_images 21 = .ok (.invokevirtual 251, 3) := by decide +kernel
theorem dX8_images_24 : decode cX8_images 24 = .ok (.ireturn, 1) := by decide +kernel
set_option maxRecDepth 20000 in
theorem ggX8_imagesAnew_X8_sourceAt : GoodIn wsX8_imagesAnew wsX8_sourceAt := goodIn_r _ [8, 9, 10, 11, 12, 13, 14, 15, 16, 17, 18, 19, 20, 21, 22, 23, 24, 25, 26, 27, 28, 29, 30, 31, 32, 33, 76, 77, 78, 79, 80, 81, 82, 83, 84, 85, 86, 94, 95, 96] (by decide +kernel) (by decide +kernel)
set_option maxRecDepth 20000 in
theorem gX8_imagesAnew_X8_sourceAt : GoodIn wsX8_imagesAnew (wsV RX8 138 RX8 yX8_sourceAt wsX8_sourceAt) := goodIn_app (goodIn_of _ (by decide +kernel)) ggX8_imagesAnew_X8_sourceAt
set_option maxRecDepth 20000 in
theorem ggX8_imagesAnew_X5_shotFrom : GoodIn wsX8_imagesAnew wsX5_shotFrom := goodIn_r _ [38, 39, 40, 41, 37, 42, 43, 44, 45, 12, 13, 14, 15, 16, 46, 18, 19, 20, 21, 22, 23, 24, 25, 26, 27, 28, 29, 30, 31, 32, 33, 47, 48, 49, 50, 51, 52, 53, 54, 55, 56, 57, 58, 59, 60, 61, 62, 63, 64, 65, 66, 67, 68, 69, 70, 71, 72, 73, 74, 75, 97, 98, 99, 100, 94, 95, 96, 101, 102, 103, 104] (by decide +kernel) (by decide +kernel)
set_option maxRecDepth 20000 in
theorem gX8_imagesAnew_X5_shotFrom : GoodIn wsX8_imagesAnew (wsV RX8 260 RX5 yX5_shotFrom wsX5_shotFrom) := goodIn_app (goodIn_of _ (by decide +kernel)) ggX8_imagesAnew_X5_shotFrom
theorem dX8_imagesAnew_0 : decode cX8_imagesAnew 0 = .ok (.aload_n 0, 1) := by decide +kernel
theorem dX8_imagesAnew_1 : decode cX8_imagesAnew 1 = .ok (.iload_n 1, 1) := by decide +kernel
theorem dX8_imagesAnew_2 : decode cX8_imagesAnew 2 = .ok (.invokevirtual 138, 3) := by decide +kernel
theorem dX8_imagesAnew_5 : decode cX8_imagesAnew 5 = .ok (.astore_n 2, 1) := by decide +kernel
theorem dX8_imagesAnew_6 : decode cX8_imagesAnew 6 = .ok (.aload_n 2, 1) := by decide +kernel
theorem dX8_imagesAnew_7 : decode cX8_imagesAnew 7 = .ok (.ifnonnull 13, 3) := by decide +kernel
theorem dX8_imagesAnew_10 : decode cX8_imagesAnew 10 = .ok (.new 99, 3) := by decide +kernel
theorem dX8_imagesAnew_13 : decode cX8_imagesAnew 13 = .ok (.dup, 1) := by decide +kernel
theorem dX8_imagesAnew_14 : decode cX8_imagesAnew 14 = .ok (.ldc 142, 2) := by decide +kernel
theorem dX8_imagesAnew_16 : decode cX8_imagesAnew 16 = .ok (.invokespecial 103, 3) := by decide +kernel
theorem dX8_imagesAnew_19 : decode cX8_imagesAnew 19 = .ok (.athrow, 1) := by decide +kernel
theorem dX8_imagesAnew_20 : decode cX8_imagesAnew 20 = .ok (.aload_n 0, 1) := by decide +kernel
theorem dX8_imagesAnew_21 : decode cX8_imagesAnew 21 = .ok (.getfield 12, 3) := by decide +kernel
theorem dX8_imagesAnew_24 : decode cX8_imagesAnew 24 = .ok (.aload_n 2, 1) := by decide +kernel
theorem dX8_imagesAnew_25 : decode cX8_imagesAnew 25 = .ok (.getfield 254, 3) := by decide +kernel
theorem dX8_imagesAnew_28 : decode cX8_imagesAnew 28 = .ok (.aload_n 2, 1) := by decide +kernel
theorem dX8_imagesAnew_29 : decode cX8_imagesAnew 29 = .ok (.getfield 257, 3) := by decide +kernel
theorem dX8_imagesAnew_32 : decode cX8_imagesAnew 32 = .ok (.invokevirtual 260, 3) := by decide +kernel
theorem dX8_imagesAnew_35 : decode cX8_imagesAnew 35 = .ok (.ireturn, 1) := by decide +kernel
set_option maxRecDepth 20000 in
theorem ggX8_imageOf_X8_sourceAt : GoodIn wsX8_imageOf wsX8_sourceAt := goodIn_r _ [9, 10, 11, 12, 13, 14, 15, 16, 17, 18, 19, 20, 21, 22, 23, 24, 25, 26, 27, 28, 29, 30, 31, 32, 33, 34, 87, 88, 89, 90, 91, 92, 93, 94, 95, 96, 97, 98, 99, 100] (by decide +kernel) (by decide +kernel)
set_option maxRecDepth 20000 in
theorem gX8_imageOf_X8_sourceAt : GoodIn wsX8_imageOf (wsV RX8 138 RX8 yX8_sourceAt wsX8_sourceAt) := goodIn_app (goodIn_of _ (by decide +kernel)) ggX8_imageOf_X8_sourceAt
set_option maxRecDepth 20000 in
theorem ggX8_imageOf_X6_hasImage : GoodIn wsX8_imageOf wsX6_hasImage := goodIn_r _ [39, 40, 101, 102, 103, 104, 105, 106, 107] (by decide +kernel) (by decide +kernel)
set_option maxRecDepth 20000 in
theorem gX8_imageOf_X6_hasImage : GoodIn wsX8_imageOf (wsV RX8 161 RX6 yX6_hasImage wsX6_hasImage) := goodIn_app (goodIn_of _ (by decide +kernel)) ggX8_imageOf_X6_hasImage
set_option maxRecDepth 20000 in
theorem ggX8_imageOf_X6_placeAt : GoodIn wsX8_imageOf wsX6_placeAt := goodIn_r _ [44, 45, 46, 36, 37, 38, 39, 40, 101, 102, 103, 104, 105, 106, 107] (by decide +kernel) (by decide +kernel)
set_option maxRecDepth 20000 in
theorem gX8_imageOf_X6_placeAt : GoodIn wsX8_imageOf (wsV RX8 263 RX6 yX6_placeAt wsX6_placeAt) := goodIn_app (goodIn_of _ (by decide +kernel)) ggX8_imageOf_X6_placeAt
set_option maxRecDepth 20000 in
theorem ggX8_imageOf_X5_columnOf : GoodIn wsX8_imageOf wsX5_columnOf := goodIn_r _ [50] (by decide +kernel) (by decide +kernel)
set_option maxRecDepth 20000 in
theorem gX8_imageOf_X5_columnOf : GoodIn wsX8_imageOf (va_wsS RX8 266 yX5_columnOf wsX5_columnOf) := goodIn_app (goodIn_of _ (by decide +kernel)) ggX8_imageOf_X5_columnOf
set_option maxRecDepth 20000 in
theorem ggX8_imageOf_X5_rowOf : GoodIn wsX8_imageOf wsX5_rowOf := goodIn_r _ [53] (by decide +kernel) (by decide +kernel)
set_option maxRecDepth 20000 in
theorem gX8_imageOf_X5_rowOf : GoodIn wsX8_imageOf (va_wsS RX8 269 yX5_rowOf wsX5_rowOf) := goodIn_app (goodIn_of _ (by decide +kernel)) ggX8_imageOf_X5_rowOf
set_option maxRecDepth 20000 in
theorem ggX8_imageOf_X8_brightnessOf : GoodIn wsX8_imageOf wsX8_brightnessOf := goodIn_r _ [57, 58, 41, 42, 43, 38, 44, 45, 46, 36, 37, 39, 40, 59, 60, 61, 49, 62, 63, 64, 65, 66, 67, 68, 69, 70, 71, 72, 87, 88, 89, 90, 91, 92, 93, 94, 95, 96, 97, 101, 102, 103, 104, 105, 106, 107, 108, 109, 110, 111] (by decide +kernel) (by decide +kernel)
set_option maxRecDepth 20000 in
theorem gX8_imageOf_X8_brightnessOf : GoodIn wsX8_imageOf (wsV RX8 272 RX8 yX8_brightnessOf wsX8_brightnessOf) := goodIn_app (goodIn_of _ (by decide +kernel)) ggX8_imageOf_X8_brightnessOf
set_option maxRecDepth 20000 in
theorem ggX8_imageOf_X8_wayOf : GoodIn wsX8_imageOf wsX8_wayOf := goodIn_r _ [76, 58, 41, 42, 43, 38, 44, 45, 46, 36, 37, 39, 40, 77, 78, 79, 49, 80, 81, 69, 70, 71, 72, 67, 87, 88, 89, 90, 91, 92, 93, 94, 95, 96, 97, 101, 102, 103, 104, 105, 106, 107, 108, 109, 110, 111] (by decide +kernel) (by decide +kernel)
set_option maxRecDepth 20000 in
theorem gX8_imageOf_X8_wayOf : GoodIn wsX8_imageOf (wsV RX8 222 RX8 yX8_wayOf wsX8_wayOf) := goodIn_app (goodIn_of _ (by decide +kernel)) ggX8_imageOf_X8_wayOf
set_option maxRecDepth 20000 in
theorem ggX8_imageOf_X8_lateness : GoodIn wsX8_imageOf wsX8_lateness := goodIn_r _ [85, 86, 73, 74, 75, 8, 76, 58, 41, 42, 43, 38, 44, 45, 46, 36, 37, 39, 40, 77, 78, 79, 49, 80, 81, 69, 70, 71, 72, 67, 87, 88, 89, 90, 91, 92, 93, 94, 95, 96, 97, 101, 102, 103, 104, 105, 106, 107, 108, 109, 110, 111] (by decide +kernel) (by decide +kernel)
set_option maxRecDepth 20000 in
theorem gX8_imageOf_X8_lateness : GoodIn wsX8_imageOf (wsV RX8 275 RX8 yX8_lateness wsX8_lateness) := goodIn_app (goodIn_of _ (by decide +kernel)) ggX8_imageOf_X8_lateness
theorem dX8_imageOf_0 : decode cX8_imageOf 0 = .ok (.aload_n 0, 1) := by decide +kernel
theorem dX8_imageOf_1 : decode cX8_imageOf 1 = .ok (.iload_n 1, 1) := by decide +kernel
theorem dX8_imageOf_2 : decode cX8_imageOf 2 = .ok (.invokevirtual 138, 3) := by decide +kernel
theorem dX8_imageOf_5 : decode cX8_imageOf 5 = .ok (.astore 4, 2) := by decide +kernel
theorem dX8_imageOf_7 : decode cX8_imageOf 7 = .ok (.aload 4, 2) := by decide +kernel
theorem dX8_imageOf_9 : decode cX8_imageOf 9 = .ok (.ifnull 12, 3) := by decide +kernel
theorem dX8_imageOf_12 : decode cX8_imageOf 12 = .ok (.aload 4, 2) := by decide +kernel
theorem dX8_imageOf_14 : decode cX8_imageOf 14 = .ok (.iload_n 2, 1) := by decide +kernel
theorem dX8_imageOf_15 : decode cX8_imageOf 15 = .ok (.invokevirtual 161, 3) := by decide +kernel
theorem dX8_imageOf_18 : decode cX8_imageOf 18 = .ok (.ifCond .ne 13, 3) := by decide +kernel
theorem dX8_imageOf_21 : decode cX8_imageOf 21 = .ok (.new 99, 3) := by decide +kernel
theorem dX8_imageOf_24 : decode cX8_imageOf 24 = .ok (.dup, 1) := by decide +kernel
theorem dX8_imageOf_25 : decode cX8_imageOf 25 = .ok (.ldc 165, 2) := by decide +kernel
theorem dX8_imageOf_27 : decode cX8_imageOf 27 = .ok (.invokespecial 103, 3) := by decide +kernel
theorem dX8_imageOf_30 : decode cX8_imageOf 30 = .ok (.athrow, 1) := by decide +kernel
theorem dX8_imageOf_31 : decode cX8_imageOf 31 = .ok (.iload_n 3, 1) := by decide +kernel
theorem dX8_imageOf_32 : decode cX8_imageOf 32 = .ok (.tableswitch 80 0 4 #[36, 46, 56, 64, 72], 36) := by decide +kernel
theorem dX8_imageOf_68 : decode cX8_imageOf 68 = .ok (.aload 4, 2) := by decide +kernel
theorem dX8_imageOf_70 : decode cX8_imageOf 70 = .ok (.iload_n 2, 1) := by decide +kernel
theorem dX8_imageOf_71 : decode cX8_imageOf 71 = .ok (.invokevirtual 263, 3) := by decide +kernel
theorem dX8_imageOf_74 : decode cX8_imageOf 74 = .ok (.invokestatic 266, 3) := by decide +kernel
theorem dX8_imageOf_77 : decode cX8_imageOf 77 = .ok (.ireturn, 1) := by decide +kernel
theorem dX8_imageOf_78 : decode cX8_imageOf 78 = .ok (.aload 4, 2) := by decide +kernel
theorem dX8_imageOf_80 : decode cX8_imageOf 80 = .ok (.iload_n 2, 1) := by decide +kernel
theorem dX8_imageOf_81 : decode cX8_imageOf 81 = .ok (.invokevirtual 263, 3) := by decide +kernel
theorem dX8_imageOf_84 : decode cX8_imageOf 84 = .ok (.invokestatic 269, 3) := by decide +kernel
theorem dX8_imageOf_87 : decode cX8_imageOf 87 = .ok (.ireturn, 1) := by decide +kernel
theorem dX8_imageOf_88 : decode cX8_imageOf 88 = .ok (.aload_n 0, 1) := by decide +kernel
theorem dX8_imageOf_89 : decode cX8_imageOf 89 = .ok (.aload 4, 2) := by decide +kernel
theorem dX8_imageOf_91 : decode cX8_imageOf 91 = .ok (.iload_n 2, 1) := by decide +kernel
theorem dX8_imageOf_92 : decode cX8_imageOf 92 = .ok (.invokevirtual 272, 3) := by decide +kernel
theorem dX8_imageOf_95 : decode cX8_imageOf 95 = .ok (.ireturn, 1) := by decide +kernel
theorem dX8_imageOf_96 : decode cX8_imageOf 96 = .ok (.aload_n 0, 1) := by decide +kernel
theorem dX8_imageOf_97 : decode cX8_imageOf 97 = .ok (.aload 4, 2) := by decide +kernel
theorem dX8_imageOf_99 : decode cX8_imageOf 99 = .ok (.iload_n 2, 1) := by decide +kernel
theorem dX8_imageOf_100 : decode cX8_imageOf 100 = .ok (.invokevirtual 222, 3) := by decide +kernel
theorem dX8_imageOf_103 : decode cX8_imageOf 103 = .ok (.ireturn, 1) := by decide +kernel
theorem dX8_imageOf_104 : decode cX8_imageOf 104 = .ok (.aload_n 0, 1) := by decide +kernel
theorem dX8_imageOf_105 : decode cX8_imageOf 105 = .ok (.aload 4, 2) := by decide +kernel
theorem dX8_imageOf_107 : decode cX8_imageOf 107 = .ok (.iload_n 2, 1) := by decide +kernel
theorem dX8_imageOf_108 : decode cX8_imageOf 108 = .ok (.invokevirtual 275, 3) := by decide +kernel
theorem dX8_imageOf_111 : decode cX8_imageOf 111 = .ok (.ireturn, 1) := by decide +kernel
theorem dX8_imageOf_112 : decode cX8_imageOf 112 = .ok (.new 67, 3) := by decide +kernel
theorem dX8_imageOf_115 : decode cX8_imageOf 115 = .ok (.dup, 1) := by decide +kernel
theorem dX8_imageOf_116 : decode cX8_imageOf 116 = .ok (.ldc_w 278, 3) := by decide +kernel
theorem dX8_imageOf_119 : decode cX8_imageOf 119 = .ok (.invokespecial 71, 3) := by decide +kernel
theorem dX8_imageOf_122 : decode cX8_imageOf 122 = .ok (.athrow, 1) := by decide +kernel
set_option maxRecDepth 20000 in
theorem ggX8_hits_X8_isInField : GoodIn wsX8_hits wsX8_isInField := goodIn_r _ [7, 8, 9, 6, 10] (by decide +kernel) (by decide +kernel)
set_option maxRecDepth 20000 in
theorem gX8_hits_X8_isInField : GoodIn wsX8_hits (va_wsS RX8 63 yX8_isInField wsX8_isInField) := goodIn_app (goodIn_of _ (by decide +kernel)) ggX8_hits_X8_isInField
set_option maxRecDepth 20000 in
theorem ggX8_hits_X5_countFrom : GoodIn wsX8_hits wsX5_countFrom := goodIn_r _ [15, 16, 17, 14, 18, 19, 20, 21, 22, 23, 24, 25, 26, 27, 28, 40, 41, 42, 43] (by decide +kernel) (by decide +kernel)
set_option maxRecDepth 20000 in
theorem gX8_hits_X5_countFrom : GoodIn wsX8_hits (wsV RX8 280 RX5 yX5_countFrom wsX5_countFrom) := goodIn_app (goodIn_of _ (by decide +kernel)) ggX8_hits_X5_countFrom
theorem dX8_hits_0 : decode cX8_hits 0 = .ok (.iload_n 1, 1) := by decide +kernel
theorem dX8_hits_1 : decode cX8_hits 1 = .ok (.iload_n 2, 1) := by decide +kernel
theorem dX8_hits_2 : decode cX8_hits 2 = .ok (.invokestatic 63, 3) := by decide +kernel
theorem dX8_hits_5 : decode cX8_hits 5 = .ok (.ifCond .ne 13, 3) := by decide +kernel
theorem dX8_hits_8 : decode cX8_hits 8 = .ok (.new 67, 3) := by decide +kernel
theorem dX8_hits_11 : decode cX8_hits 11 = .ok (.dup, 1) := by decide +kernel
theorem dX8_hits_12 : decode cX8_hits 12 = .ok (.ldc 104, 2) := by decide +kernel
theorem dX8_hits_14 : decode cX8_hits 14 = .ok (.invokespecial 71, 3) := by decide +kernel
theorem dX8_hits_17 : decode cX8_hits 17 = .ok (.athrow, 1) := by decide +kernel
theorem dX8_hits_18 : decode cX8_hits 18 = .ok (.aload_n 0, 1) := by decide +kernel
theorem dX8_hits_19 : decode cX8_hits 19 = .ok (.getfield 12, 3) := by decide +kernel
theorem dX8_hits_22 : decode cX8_hits 22 = .ok (.iload_n 1, 1) := by decide +kernel
theorem dX8_hits_23 : decode cX8_hits 23 = .ok (.iload_n 2, 1) := by decide +kernel
theorem dX8_hits_24 : decode cX8_hits 24 = .ok (.invokevirtual 280, 3) := by decide +kernel
theorem dX8_hits_27 : decode cX8_hits 27 = .ok (.ireturn, 1) := by decide +kernel
set_option maxRecDepth 20000 in
theorem ggX8_lost_X5_countFromBeyond : GoodIn wsX8_lost wsX5_countFromBeyond := goodIn_r _ [6, 7, 8, 5, 9, 10, 11, 12, 13, 14, 15, 16, 17, 18, 19, 20, 21, 22, 23, 24, 25, 26, 27, 28, 29, 41, 42, 43, 44] (by decide +kernel) (by decide +kernel)
set_option maxRecDepth 20000 in
theorem gX8_lost_X5_countFromBeyond : GoodIn wsX8_lost (wsV RX8 283 RX5 yX5_countFromBeyond wsX5_countFromBeyond) := goodIn_app (goodIn_of _ (by decide +kernel)) ggX8_lost_X5_countFromBeyond
theorem dX8_lost_0 : decode cX8_lost 0 = .ok (.aload_n 0, 1) := by decide +kernel
theorem dX8_lost_1 : decode cX8_lost 1 = .ok (.getfield 12, 3) := by decide +kernel
theorem dX8_lost_4 : decode cX8_lost 4 = .ok (.invokevirtual 283, 3) := by decide +kernel
theorem dX8_lost_7 : decode cX8_lost 7 = .ok (.ireturn, 1) := by decide +kernel
set_option maxRecDepth 20000 in
theorem ggX8_delay_X8_sourceAt : GoodIn wsX8_delay wsX8_sourceAt := goodIn_r _ [7, 8, 9, 10, 11, 12, 13, 14, 15, 16, 17, 18, 19, 20, 21, 22, 23, 24, 25, 26, 27, 28, 29, 30, 31, 32, 69, 70, 71, 72, 73, 74, 75, 76, 77, 78, 79, 80, 81, 82] (by decide +kernel) (by decide +kernel)
set_option maxRecDepth 20000 in
theorem gX8_delay_X8_sourceAt : GoodIn wsX8_delay (wsV RX8 138 RX8 yX8_sourceAt wsX8_sourceAt) := goodIn_app (goodIn_of _ (by decide +kernel)) ggX8_delay_X8_sourceAt
set_option maxRecDepth 20000 in
theorem ggX8_delay_X8_areImages : GoodIn wsX8_delay wsX8_areImages := goodIn_r _ [35, 36, 37, 38, 39, 40, 41, 83, 84, 85, 86, 87, 88, 89] (by decide +kernel) (by decide +kernel)
set_option maxRecDepth 20000 in
theorem gX8_delay_X8_areImages : GoodIn wsX8_delay (va_wsS RX8 210 yX8_areImages wsX8_areImages) := goodIn_app (goodIn_of _ (by decide +kernel)) ggX8_delay_X8_areImages
set_option maxRecDepth 20000 in
theorem ggX8_delay_X8_lateness : GoodIn wsX8_delay wsX8_lateness := goodIn_r _ [45, 46, 47, 48, 49, 6, 50, 51, 52, 53, 54, 39, 55, 56, 57, 37, 38, 40, 41, 58, 59, 60, 61, 62, 63, 64, 65, 66, 67, 68, 69, 70, 71, 72, 73, 74, 75, 76, 77, 78, 79, 83, 84, 85, 86, 87, 88, 89, 90, 91, 92, 93] (by decide +kernel) (by decide +kernel)
set_option maxRecDepth 20000 in
theorem gX8_delay_X8_lateness : GoodIn wsX8_delay (wsV RX8 275 RX8 yX8_lateness wsX8_lateness) := goodIn_app (goodIn_of _ (by decide +kernel)) ggX8_delay_X8_lateness
theorem dX8_delay_0 : decode cX8_delay 0 = .ok (.aload_n 0, 1) := by decide +kernel
theorem dX8_delay_1 : decode cX8_delay 1 = .ok (.iload_n 1, 1) := by decide +kernel
theorem dX8_delay_2 : decode cX8_delay 2 = .ok (.invokevirtual 138, 3) := by decide +kernel
theorem dX8_delay_5 : decode cX8_delay 5 = .ok (.astore 4, 2) := by decide +kernel
theorem dX8_delay_7 : decode cX8_delay 7 = .ok (.aload 4, 2) := by decide +kernel
theorem dX8_delay_9 : decode cX8_delay 9 = .ok (.iload_n 2, 1) := by decide +kernel
theorem dX8_delay_10 : decode cX8_delay 10 = .ok (.iload_n 3, 1) := by decide +kernel
theorem dX8_delay_11 : decode cX8_delay 11 = .ok (.invokestatic 210, 3) := by decide +kernel
theorem dX8_delay_14 : decode cX8_delay 14 = .ok (.ifCond .ne 13, 3) := by decide +kernel
theorem dX8_delay_17 : decode cX8_delay 17 = .ok (.new 99, 3) := by decide +kernel
theorem dX8_delay_20 : decode cX8_delay 20 = .ok (.dup, 1) := by decide +kernel
theorem dX8_delay_21 : decode cX8_delay 21 = .ok (.ldc 165, 2) := by decide +kernel
theorem dX8_delay_23 : decode cX8_delay 23 = .ok (.invokespecial 103, 3) := by decide +kernel
theorem dX8_delay_26 : decode cX8_delay 26 = .ok (.athrow, 1) := by decide +kernel
theorem dX8_delay_27 : decode cX8_delay 27 = .ok (.aload_n 0, 1) := by decide +kernel
theorem dX8_delay_28 : decode cX8_delay 28 = .ok (.aload 4, 2) := by decide +kernel
theorem dX8_delay_30 : decode cX8_delay 30 = .ok (.iload_n 3, 1) := by decide +kernel
theorem dX8_delay_31 : decode cX8_delay 31 = .ok (.invokevirtual 275, 3) := by decide +kernel
theorem dX8_delay_34 : decode cX8_delay 34 = .ok (.aload_n 0, 1) := by decide +kernel
theorem dX8_delay_35 : decode cX8_delay 35 = .ok (.aload 4, 2) := by decide +kernel
theorem dX8_delay_37 : decode cX8_delay 37 = .ok (.iload_n 2, 1) := by decide +kernel
theorem dX8_delay_38 : decode cX8_delay 38 = .ok (.invokevirtual 275, 3) := by decide +kernel
theorem dX8_delay_41 : decode cX8_delay 41 = .ok (.isub, 1) := by decide +kernel
theorem dX8_delay_42 : decode cX8_delay 42 = .ok (.ireturn, 1) := by decide +kernel
set_option maxRecDepth 20000 in
theorem ggX8_light_X8_sourceAt : GoodIn wsX8_light wsX8_sourceAt := goodIn_r _ [7, 8, 9, 10, 11, 12, 13, 14, 15, 16, 17, 18, 19, 20, 21, 22, 23, 24, 25, 26, 27, 28, 29, 30, 31, 32, 115, 116, 117, 118, 119, 120, 121, 122, 123, 124, 125, 126, 127, 128] (by decide +kernel) (by decide +kernel)
set_option maxRecDepth 20000 in
theorem gX8_light_X8_sourceAt : GoodIn wsX8_light (wsV RX8 138 RX8 yX8_sourceAt wsX8_sourceAt) := goodIn_app (goodIn_of _ (by decide +kernel)) ggX8_light_X8_sourceAt
set_option maxRecDepth 20000 in
theorem ggX8_light_X6_hasImage : GoodIn wsX8_light wsX6_hasImage := goodIn_r _ [37, 38, 129, 130, 131, 132, 133, 134, 135] (by decide +kernel) (by decide +kernel)
set_option maxRecDepth 20000 in
theorem gX8_light_X6_hasImage : GoodIn wsX8_light (wsV RX8 161 RX6 yX6_hasImage wsX6_hasImage) := goodIn_app (goodIn_of _ (by decide +kernel)) ggX8_light_X6_hasImage
set_option maxRecDepth 20000 in
theorem ggX8_light_X8_lightToday : GoodIn wsX8_light wsX8_lightToday := goodIn_r _ [42, 43, 44, 45, 46, 47, 48, 49, 50, 6, 51, 52, 53, 54, 55, 56, 57, 58, 59, 60, 36, 61, 62, 63, 34, 35, 37, 38, 64, 65, 66, 67, 68, 69, 70, 71, 72, 73, 74, 75, 76, 77, 78, 79, 80, 81, 82, 83, 84, 85, 11, 12, 13, 14, 15, 86, 17, 18, 19, 20, 21, 22, 23, 24, 25, 26, 27, 28, 29, 30, 31, 32, 87, 88, 89, 90, 91, 92, 93, 94, 95, 96, 97, 98, 99, 100, 101, 102, 103, 104, 105, 106, 107, 108, 109, 110, 111, 112, 113, 114, 115, 116, 117, 118, 119, 120, 121, 122, 123, 124, 125, 129, 130, 131, 132, 133, 134, 135, 136, 137, 138, 139, 140, 141, 126, 127, 128, 142, 143, 144, 145] (by decide +kernel) (by decide +kernel)
set_option maxRecDepth 20000 in
theorem gX8_light_X8_lightToday : GoodIn wsX8_light (wsV RX8 286 RX8 yX8_lightToday wsX8_lightToday) := goodIn_app (goodIn_of _ (by decide +kernel)) ggX8_light_X8_lightToday
theorem dX8_light_0 : decode cX8_light 0 = .ok (.aload_n 0, 1) := by decide +kernel
theorem dX8_light_1 : decode cX8_light 1 = .ok (.iload_n 1, 1) := by decide +kernel
theorem dX8_light_2 : decode cX8_light 2 = .ok (.invokevirtual 138, 3) := by decide +kernel
theorem dX8_light_5 : decode cX8_light 5 = .ok (.astore_n 3, 1) := by decide +kernel
theorem dX8_light_6 : decode cX8_light 6 = .ok (.aload_n 3, 1) := by decide +kernel
theorem dX8_light_7 : decode cX8_light 7 = .ok (.ifnull 11, 3) := by decide +kernel
theorem dX8_light_10 : decode cX8_light 10 = .ok (.aload_n 3, 1) := by decide +kernel
theorem dX8_light_11 : decode cX8_light 11 = .ok (.iload_n 2, 1) := by decide +kernel
theorem dX8_light_12 : decode cX8_light 12 = .ok (.invokevirtual 161, 3) := by decide +kernel
theorem dX8_light_15 : decode cX8_light 15 = .ok (.ifCond .ne 13, 3) := by decide +kernel
theorem dX8_light_18 : decode cX8_light 18 = .ok (.new 99, 3) := by decide +kernel
theorem dX8_light_21 : decode cX8_light 21 = .ok (.dup, 1) := by decide +kernel
theorem dX8_light_22 : decode cX8_light 22 = .ok (.ldc 165, 2) := by decide +kernel
theorem dX8_light_24 : decode cX8_light 24 = .ok (.invokespecial 103, 3) := by decide +kernel
theorem dX8_light_27 : decode cX8_light 27 = .ok (.athrow, 1) := by decide +kernel
theorem dX8_light_28 : decode cX8_light 28 = .ok (.aload_n 0, 1) := by decide +kernel
theorem dX8_light_29 : decode cX8_light 29 = .ok (.aload_n 3, 1) := by decide +kernel
theorem dX8_light_30 : decode cX8_light 30 = .ok (.iload_n 2, 1) := by decide +kernel
theorem dX8_light_31 : decode cX8_light 31 = .ok (.invokevirtual 286, 3) := by decide +kernel
theorem dX8_light_34 : decode cX8_light 34 = .ok (.ireturn, 1) := by decide +kernel
set_option maxRecDepth 20000 in
theorem ggX8_frames_X0_count : GoodIn wsX8_frames wsX0_count := goodIn_r _ [6, 7, 8, 9, 10, 11, 12, 13, 25, 26, 27, 28, 29, 30] (by decide +kernel) (by decide +kernel)
set_option maxRecDepth 20000 in
theorem gX8_frames_X0_count : GoodIn wsX8_frames (wsV RX8 184 RX0 yX0_count wsX0_count) := goodIn_app (goodIn_of _ (by decide +kernel)) ggX8_frames_X0_count
theorem dX8_frames_0 : decode cX8_frames 0 = .ok (.aload_n 0, 1) := by decide +kernel
theorem dX8_frames_1 : decode cX8_frames 1 = .ok (.getfield 33, 3) := by decide +kernel
theorem dX8_frames_4 : decode cX8_frames 4 = .ok (.invokevirtual 184, 3) := by decide +kernel
theorem dX8_frames_7 : decode cX8_frames 7 = .ok (.ireturn, 1) := by decide +kernel
set_option maxRecDepth 20000 in
theorem ggX8_seen_X0_frameAt : GoodIn wsX8_seen wsX0_frameAt := goodIn_r _ [10, 11, 12, 13, 14, 15, 16, 17, 18, 19, 20, 21, 22, 23, 24, 25, 26, 27, 28, 29, 30, 31, 32, 33, 34, 35, 69, 70, 71, 72, 73, 74] (by decide +kernel) (by decide +kernel)
set_option maxRecDepth 20000 in
theorem gX8_seen_X0_frameAt : GoodIn wsX8_seen (wsV RX8 289 RX0 yX0_frameAt wsX0_frameAt) := goodIn_app (goodIn_of _ (by decide +kernel)) ggX8_seen_X0_frameAt
set_option maxRecDepth 20000 in
theorem ggX8_seen_X8_sourceAt : GoodIn wsX8_seen wsX8_sourceAt := goodIn_r _ [40, 41, 42, 43, 14, 15, 16, 17, 18, 44, 20, 21, 22, 23, 24, 25, 26, 27, 28, 29, 30, 31, 32, 33, 34, 35, 58, 59, 60, 61, 62, 63, 64, 65, 66, 67, 68, 72, 73, 74] (by decide +kernel) (by decide +kernel)
set_option maxRecDepth 20000 in
theorem gX8_seen_X8_sourceAt : GoodIn wsX8_seen (wsV RX8 138 RX8 yX8_sourceAt wsX8_sourceAt) := goodIn_app (goodIn_of _ (by decide +kernel)) ggX8_seen_X8_sourceAt
set_option maxRecDepth 20000 in
theorem ggX8_seen_X8_isWithin : GoodIn wsX8_seen wsX8_isWithin := goodIn_r _ [47] (by decide +kernel) (by decide +kernel)
set_option maxRecDepth 20000 in
theorem gX8_seen_X8_isWithin : GoodIn wsX8_seen (va_wsS RX8 59 yX8_isWithin wsX8_isWithin) := goodIn_app (goodIn_of _ (by decide +kernel)) ggX8_seen_X8_isWithin
set_option maxRecDepth 20000 in
theorem ggX8_seen_X3_lightAt : GoodIn wsX8_seen wsX3_lightAt := goodIn_r _ [52, 53, 54, 55, 56, 51, 57, 46, 39, 47, 75, 76] (by decide +kernel) (by decide +kernel)
set_option maxRecDepth 20000 in
theorem gX8_seen_X3_lightAt : GoodIn wsX8_seen (wsV RX8 297 RX3 yX3_lightAt wsX3_lightAt) := goodIn_app (goodIn_of _ (by decide +kernel)) ggX8_seen_X3_lightAt
theorem dX8_seen_0 : decode cX8_seen 0 = .ok (.aload_n 0, 1) := by decide +kernel
theorem dX8_seen_1 : decode cX8_seen 1 = .ok (.getfield 33, 3) := by decide +kernel
theorem dX8_seen_4 : decode cX8_seen 4 = .ok (.iload_n 1, 1) := by decide +kernel
theorem dX8_seen_5 : decode cX8_seen 5 = .ok (.invokevirtual 289, 3) := by decide +kernel
theorem dX8_seen_8 : decode cX8_seen 8 = .ok (.astore 4, 2) := by decide +kernel
theorem dX8_seen_10 : decode cX8_seen 10 = .ok (.aload 4, 2) := by decide +kernel
theorem dX8_seen_12 : decode cX8_seen 12 = .ok (.ifnull 11, 3) := by decide +kernel
theorem dX8_seen_15 : decode cX8_seen 15 = .ok (.aload_n 0, 1) := by decide +kernel
theorem dX8_seen_16 : decode cX8_seen 16 = .ok (.iload_n 2, 1) := by decide +kernel
theorem dX8_seen_17 : decode cX8_seen 17 = .ok (.invokevirtual 138, 3) := by decide +kernel
theorem dX8_seen_20 : decode cX8_seen 20 = .ok (.ifnonnull 14, 3) := by decide +kernel
theorem dX8_seen_23 : decode cX8_seen 23 = .ok (.new 99, 3) := by decide +kernel
theorem dX8_seen_26 : decode cX8_seen 26 = .ok (.dup, 1) := by decide +kernel
theorem dX8_seen_27 : decode cX8_seen 27 = .ok (.ldc_w 293, 3) := by decide +kernel
theorem dX8_seen_30 : decode cX8_seen 30 = .ok (.invokespecial 103, 3) := by decide +kernel
theorem dX8_seen_33 : decode cX8_seen 33 = .ok (.athrow, 1) := by decide +kernel
theorem dX8_seen_34 : decode cX8_seen 34 = .ok (.iload_n 3, 1) := by decide +kernel
theorem dX8_seen_35 : decode cX8_seen 35 = .ok (.iconst 0, 1) := by decide +kernel
theorem dX8_seen_36 : decode cX8_seen 36 = .ok (.iconst 5, 1) := by decide +kernel
theorem dX8_seen_37 : decode cX8_seen 37 = .ok (.invokestatic 59, 3) := by decide +kernel
theorem dX8_seen_40 : decode cX8_seen 40 = .ok (.ifCond .ne 14, 3) := by decide +kernel
theorem dX8_seen_43 : decode cX8_seen 43 = .ok (.new 67, 3) := by decide +kernel
theorem dX8_seen_46 : decode cX8_seen 46 = .ok (.dup, 1) := by decide +kernel
theorem dX8_seen_47 : decode cX8_seen 47 = .ok (.ldc_w 295, 3) := by decide +kernel
theorem dX8_seen_50 : decode cX8_seen 50 = .ok (.invokespecial 71, 3) := by decide +kernel
theorem dX8_seen_53 : decode cX8_seen 53 = .ok (.athrow, 1) := by decide +kernel
theorem dX8_seen_54 : decode cX8_seen 54 = .ok (.aload 4, 2) := by decide +kernel
theorem dX8_seen_56 : decode cX8_seen 56 = .ok (.iload_n 2, 1) := by decide +kernel
theorem dX8_seen_57 : decode cX8_seen 57 = .ok (.iload_n 3, 1) := by decide +kernel
theorem dX8_seen_58 : decode cX8_seen 58 = .ok (.invokevirtual 297, 3) := by decide +kernel
theorem dX8_seen_61 : decode cX8_seen 61 = .ok (.ireturn, 1) := by decide +kernel
set_option maxRecDepth 20000 in
theorem ggX8_measured_X8_sourceAt : GoodIn wsX8_measured wsX8_sourceAt := goodIn_r _ [9, 10, 11, 12, 13, 14, 15, 16, 17, 18, 19, 20, 21, 22, 23, 24, 25, 26, 27, 28, 29, 30, 31, 32, 33, 34, 118, 119, 120, 121, 122, 123, 124, 125, 126, 127, 128, 129, 130, 131] (by decide +kernel) (by decide +kernel)
set_option maxRecDepth 20000 in
theorem gX8_measured_X8_sourceAt : GoodIn wsX8_measured (wsV RX8 138 RX8 yX8_sourceAt wsX8_sourceAt) := goodIn_app (goodIn_of _ (by decide +kernel)) ggX8_measured_X8_sourceAt
set_option maxRecDepth 20000 in
theorem ggX8_measured_X8_areImages : GoodIn wsX8_measured wsX8_areImages := goodIn_r _ [37, 38, 39, 40, 41, 42, 43, 132, 133, 134, 135, 136, 137, 138] (by decide +kernel) (by decide +kernel)
set_option maxRecDepth 20000 in
theorem gX8_measured_X8_areImages : GoodIn wsX8_measured (va_wsS RX8 210 yX8_areImages wsX8_areImages) := goodIn_app (goodIn_of _ (by decide +kernel)) ggX8_measured_X8_areImages
set_option maxRecDepth 20000 in
theorem ggX8_measured_X8_measuredDays : GoodIn wsX8_measured wsX8_measuredDays := goodIn_r _ [47, 48, 49, 50, 51, 52, 5, 6, 7, 8, 9, 10, 11, 12, 13, 14, 15, 16, 17, 18, 19, 20, 21, 22, 23, 24, 25, 26, 27, 28, 29, 30, 31, 32, 33, 34, 53, 54, 55, 56, 57, 58, 59, 60, 41, 61, 62, 63, 39, 40, 42, 43, 64, 65, 66, 67, 68, 69, 70, 71, 72, 73, 74, 75, 76, 77, 78, 79, 80, 81, 82, 83, 84, 85, 86, 87, 88, 89, 90, 91, 92, 93, 94, 95, 96, 97, 98, 99, 100, 101, 102, 103, 104, 105, 106, 107, 108, 109, 110, 111, 112, 113, 114, 115, 116, 117, 118, 119, 120, 121, 122, 123, 124, 125, 126, 127, 128, 129, 130, 131, 132, 133, 134, 135, 136, 137, 138, 139, 140, 141, 142, 143, 144, 145, 146, 147] (by decide +kernel) (by decide +kernel)
set_option maxRecDepth 20000 in
theorem gX8_measured_X8_measuredDays : GoodIn wsX8_measured (wsV RX8 218 RX8 yX8_measuredDays wsX8_measuredDays) := goodIn_app (goodIn_of _ (by decide +kernel)) ggX8_measured_X8_measuredDays
theorem dX8_measured_0 : decode cX8_measured 0 = .ok (.aload_n 0, 1) := by decide +kernel
theorem dX8_measured_1 : decode cX8_measured 1 = .ok (.iload_n 1, 1) := by decide +kernel
theorem dX8_measured_2 : decode cX8_measured 2 = .ok (.invokevirtual 138, 3) := by decide +kernel
theorem dX8_measured_5 : decode cX8_measured 5 = .ok (.iload_n 2, 1) := by decide +kernel
theorem dX8_measured_6 : decode cX8_measured 6 = .ok (.iload_n 3, 1) := by decide +kernel
theorem dX8_measured_7 : decode cX8_measured 7 = .ok (.invokestatic 210, 3) := by decide +kernel
theorem dX8_measured_10 : decode cX8_measured 10 = .ok (.ifCond .ne 13, 3) := by decide +kernel
theorem dX8_measured_13 : decode cX8_measured 13 = .ok (.new 99, 3) := by decide +kernel
theorem dX8_measured_16 : decode cX8_measured 16 = .ok (.dup, 1) := by decide +kernel
theorem dX8_measured_17 : decode cX8_measured 17 = .ok (.ldc 165, 2) := by decide +kernel
theorem dX8_measured_19 : decode cX8_measured 19 = .ok (.invokespecial 103, 3) := by decide +kernel
theorem dX8_measured_22 : decode cX8_measured 22 = .ok (.athrow, 1) := by decide +kernel
theorem dX8_measured_23 : decode cX8_measured 23 = .ok (.iload_n 2, 1) := by decide +kernel
theorem dX8_measured_24 : decode cX8_measured 24 = .ok (.iload_n 3, 1) := by decide +kernel
theorem dX8_measured_25 : decode cX8_measured 25 = .ok (.if_icmp .eq 15, 3) := by decide +kernel
theorem dX8_measured_28 : decode cX8_measured 28 = .ok (.iload_n 2, 1) := by decide +kernel
theorem dX8_measured_29 : decode cX8_measured 29 = .ok (.bipush 6, 2) := by decide +kernel
theorem dX8_measured_31 : decode cX8_measured 31 = .ok (.if_icmp .ge 9, 3) := by decide +kernel
theorem dX8_measured_34 : decode cX8_measured 34 = .ok (.iload_n 3, 1) := by decide +kernel
theorem dX8_measured_35 : decode cX8_measured 35 = .ok (.bipush 6, 2) := by decide +kernel
theorem dX8_measured_37 : decode cX8_measured 37 = .ok (.if_icmp .lt 14, 3) := by decide +kernel
theorem dX8_measured_40 : decode cX8_measured 40 = .ok (.new 67, 3) := by decide +kernel
theorem dX8_measured_43 : decode cX8_measured 43 = .ok (.dup, 1) := by decide +kernel
theorem dX8_measured_44 : decode cX8_measured 44 = .ok (.ldc_w 302, 3) := by decide +kernel
theorem dX8_measured_47 : decode cX8_measured 47 = .ok (.invokespecial 71, 3) := by decide +kernel
theorem dX8_measured_50 : decode cX8_measured 50 = .ok (.athrow, 1) := by decide +kernel
theorem dX8_measured_51 : decode cX8_measured 51 = .ok (.aload_n 0, 1) := by decide +kernel
theorem dX8_measured_52 : decode cX8_measured 52 = .ok (.iload_n 1, 1) := by decide +kernel
theorem dX8_measured_53 : decode cX8_measured 53 = .ok (.iload_n 2, 1) := by decide +kernel
theorem dX8_measured_54 : decode cX8_measured 54 = .ok (.iload_n 3, 1) := by decide +kernel
theorem dX8_measured_55 : decode cX8_measured 55 = .ok (.invokevirtual 218, 3) := by decide +kernel
theorem dX8_measured_58 : decode cX8_measured 58 = .ok (.ireturn, 1) := by decide +kernel
set_option maxRecDepth 20000 in
theorem ggX8_booked_X1_hasHouse : GoodIn wsX8_booked wsX1_hasHouse := goodIn_r _ [10] (by decide +kernel) (by decide +kernel)
set_option maxRecDepth 20000 in
theorem gX8_booked_X1_hasHouse : GoodIn wsX8_booked (wsV RX8 207 RX1 yX1_hasHouse wsX1_hasHouse) := goodIn_app (goodIn_of _ (by decide +kernel)) ggX8_booked_X1_hasHouse
set_option maxRecDepth 20000 in
theorem ggX8_booked_X1_areOpen : GoodIn wsX8_booked wsX1_areOpen := goodIn_r _ [14, 15, 33, 34, 35, 36, 37] (by decide +kernel) (by decide +kernel)
set_option maxRecDepth 20000 in
theorem gX8_booked_X1_areOpen : GoodIn wsX8_booked (wsV RX8 238 RX1 yX1_areOpen wsX1_areOpen) := goodIn_app (goodIn_of _ (by decide +kernel)) ggX8_booked_X1_areOpen
set_option maxRecDepth 20000 in
theorem ggX8_booked_X1_growthBy : GoodIn wsX8_booked wsX1_growthBy := goodIn_r _ [19, 20, 21, 7, 8, 9, 10, 33, 34, 35, 36, 37] (by decide +kernel) (by decide +kernel)
set_option maxRecDepth 20000 in
theorem gX8_booked_X1_growthBy : GoodIn wsX8_booked (wsV RX8 308 RX1 yX1_growthBy wsX1_growthBy) := goodIn_app (goodIn_of _ (by decide +kernel)) ggX8_booked_X1_growthBy
theorem dX8_booked_0 : decode cX8_booked 0 = .ok (.aload_n 0, 1) := by decide +kernel
theorem dX8_booked_1 : decode cX8_booked 1 = .ok (.getfield 40, 3) := by decide +kernel
theorem dX8_booked_4 : decode cX8_booked 4 = .ok (.iload_n 1, 1) := by decide +kernel
theorem dX8_booked_5 : decode cX8_booked 5 = .ok (.invokevirtual 207, 3) := by decide +kernel
theorem dX8_booked_8 : decode cX8_booked 8 = .ok (.ifCond .ne 14, 3) := by decide +kernel
theorem dX8_booked_11 : decode cX8_booked 11 = .ok (.new 99, 3) := by decide +kernel
theorem dX8_booked_14 : decode cX8_booked 14 = .ok (.dup, 1) := by decide +kernel
theorem dX8_booked_15 : decode cX8_booked 15 = .ok (.ldc_w 304, 3) := by decide +kernel
theorem dX8_booked_18 : decode cX8_booked 18 = .ok (.invokespecial 103, 3) := by decide +kernel
theorem dX8_booked_21 : decode cX8_booked 21 = .ok (.athrow, 1) := by decide +kernel
theorem dX8_booked_22 : decode cX8_booked 22 = .ok (.aload_n 0, 1) := by decide +kernel
theorem dX8_booked_23 : decode cX8_booked 23 = .ok (.getfield 40, 3) := by decide +kernel
theorem dX8_booked_26 : decode cX8_booked 26 = .ok (.invokevirtual 238, 3) := by decide +kernel
theorem dX8_booked_29 : decode cX8_booked 29 = .ok (.ifCond .ne 14, 3) := by decide +kernel
theorem dX8_booked_32 : decode cX8_booked 32 = .ok (.new 78, 3) := by decide +kernel
theorem dX8_booked_35 : decode cX8_booked 35 = .ok (.dup, 1) := by decide +kernel
theorem dX8_booked_36 : decode cX8_booked 36 = .ok (.ldc_w 306, 3) := by decide +kernel
theorem dX8_booked_39 : decode cX8_booked 39 = .ok (.invokespecial 82, 3) := by decide +kernel
theorem dX8_booked_42 : decode cX8_booked 42 = .ok (.athrow, 1) := by decide +kernel
theorem dX8_booked_43 : decode cX8_booked 43 = .ok (.aload_n 0, 1) := by decide +kernel
theorem dX8_booked_44 : decode cX8_booked 44 = .ok (.getfield 40, 3) := by decide +kernel
theorem dX8_booked_47 : decode cX8_booked 47 = .ok (.iload_n 1, 1) := by decide +kernel
theorem dX8_booked_48 : decode cX8_booked 48 = .ok (.invokevirtual 308, 3) := by decide +kernel
theorem dX8_booked_51 : decode cX8_booked 51 = .ok (.ireturn, 1) := by decide +kernel
set_option maxRecDepth 20000 in
theorem ggX8_isFresh_X1_hasHouse : GoodIn wsX8_isFresh wsX1_hasHouse := goodIn_r _ [11] (by decide +kernel) (by decide +kernel)
set_option maxRecDepth 20000 in
theorem gX8_isFresh_X1_hasHouse : GoodIn wsX8_isFresh (wsV RX8 207 RX1 yX1_hasHouse wsX1_hasHouse) := goodIn_app (goodIn_of _ (by decide +kernel)) ggX8_isFresh_X1_hasHouse
set_option maxRecDepth 20000 in
theorem ggX8_isFresh_X1_hasBooking : GoodIn wsX8_isFresh wsX1_hasBooking := goodIn_r _ [15, 16, 17, 18, 10, 19, 20, 21, 8, 9, 11, 46, 47, 48, 49, 50] (by decide +kernel) (by decide +kernel)
set_option maxRecDepth 20000 in
theorem gX8_isFresh_X1_hasBooking : GoodIn wsX8_isFresh (wsV RX8 311 RX1 yX1_hasBooking wsX1_hasBooking) := goodIn_app (goodIn_of _ (by decide +kernel)) ggX8_isFresh_X1_hasBooking
set_option maxRecDepth 20000 in
theorem ggX8_isFresh_X1_massesThen : GoodIn wsX8_isFresh wsX1_massesThen := goodIn_r _ [19, 20, 21, 8, 9, 10, 11, 46, 47, 48, 49, 50] (by decide +kernel) (by decide +kernel)
set_option maxRecDepth 20000 in
theorem gX8_isFresh_X1_massesThen : GoodIn wsX8_isFresh (wsV RX8 316 RX1 yX1_massesThen wsX1_massesThen) := goodIn_app (goodIn_of _ (by decide +kernel)) ggX8_isFresh_X1_massesThen
set_option maxRecDepth 20000 in
theorem ggX8_isFresh_X5_count : GoodIn wsX8_isFresh wsX5_count := goodIn_r _ [27, 28, 29, 30, 31, 32, 33, 34, 51, 52, 53, 54, 55, 56, 57] (by decide +kernel) (by decide +kernel)
