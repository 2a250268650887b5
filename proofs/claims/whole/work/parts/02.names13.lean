set_option maxRecDepth 20000 in
theorem ggX9_delay_X9_isImage : GoodIn wsX9_delay wsX9_isImage := goodIn_r _ [5, 6, 7, 8, 9, 4, 10, 11, 12, 13, 14, 15, 16, 17, 18, 19, 20, 21, 22, 23, 24, 25, 26, 27, 28, 29, 30, 31, 32, 33, 34, 35, 36, 37, 38, 39, 50, 51, 52, 53, 54, 55, 56, 57, 58, 59, 60, 61, 62, 63, 64, 65, 66, 67, 68, 69, 70, 71, 72, 73, 74, 75, 76, 77, 78, 79, 80, 81, 82, 83, 84, 85, 86, 87, 88] (by decide +kernel) (by decide +kernel)
set_option maxRecDepth 20000 in
theorem gX9_delay_X9_isImage : GoodIn wsX9_delay (wsV RX9 176 RX9 yX9_isImage wsX9_isImage) := goodIn_app (goodIn_of _ (by decide +kernel)) ggX9_delay_X9_isImage
set_option maxRecDepth 20000 in
theorem ggX9_delay_X9_refused : GoodIn wsX9_delay wsX9_refused := goodIn_r _ [43, 44, 50, 51, 52, 53, 54, 55, 56, 57, 58, 59, 60, 61, 62, 63, 64, 65, 66, 67, 68, 69, 70, 71, 72, 73, 74, 75, 76, 77, 78, 79, 80, 81, 82, 83, 84, 85, 86, 87, 88] (by decide +kernel) (by decide +kernel)
set_option maxRecDepth 20000 in
theorem gX9_delay_X9_refused : GoodIn wsX9_delay (wsV RX9 131 RX9 yX9_refused wsX9_refused) := goodIn_app (goodIn_of _ (by decide +kernel)) ggX9_delay_X9_refused
set_option maxRecDepth 20000 in
theorem ggX9_delay_X9_lateOf : GoodIn wsX9_delay wsX9_lateOf := goodIn_r _ [48, 39, 21, 49, 50, 51, 52, 53, 54, 55, 56, 57, 58, 59, 60, 61, 62, 63, 64, 65, 66, 67, 68, 69, 70, 71, 72, 73, 74, 75, 76, 77, 78, 79, 80, 81, 82, 83, 84, 85, 86, 87, 88] (by decide +kernel) (by decide +kernel)
set_option maxRecDepth 20000 in
theorem gX9_delay_X9_lateOf : GoodIn wsX9_delay (wsV RX9 170 RX9 yX9_lateOf wsX9_lateOf) := goodIn_app (goodIn_of _ (by decide +kernel)) ggX9_delay_X9_lateOf
theorem dX9_delay_0 : decode cX9_delay 0 = .ok (.aload_n 0, 1) := by decide +kernel
theorem dX9_delay_1 : decode cX9_delay 1 = .ok (.iload_n 1, 1) := by decide +kernel
theorem dX9_delay_2 : decode cX9_delay 2 = .ok (.iload_n 2, 1) := by decide +kernel
theorem dX9_delay_3 : decode cX9_delay 3 = .ok (.invokevirtual 176, 3) := by decide +kernel
theorem dX9_delay_6 : decode cX9_delay 6 = .ok (.ifCond .eq 16, 3) := by decide +kernel
theorem dX9_delay_9 : decode cX9_delay 9 = .ok (.aload_n 0, 1) := by decide +kernel
theorem dX9_delay_10 : decode cX9_delay 10 = .ok (.iload_n 1, 1) := by decide +kernel
theorem dX9_delay_11 : decode cX9_delay 11 = .ok (.iload_n 3, 1) := by decide +kernel
theorem dX9_delay_12 : decode cX9_delay 12 = .ok (.invokevirtual 176, 3) := by decide +kernel
theorem dX9_delay_15 : decode cX9_delay 15 = .ok (.ifCond .eq 7, 3) := by decide +kernel
theorem dX9_delay_18 : decode cX9_delay 18 = .ok (.iconst 1, 1) := by decide +kernel
theorem dX9_delay_19 : decode cX9_delay 19 = .ok (.goto 4, 3) := by decide +kernel
theorem dX9_delay_22 : decode cX9_delay 22 = .ok (.iconst 0, 1) := by decide +kernel
theorem dX9_delay_23 : decode cX9_delay 23 = .ok (.istore 4, 2) := by decide +kernel
theorem dX9_delay_25 : decode cX9_delay 25 = .ok (.aload_n 0, 1) := by decide +kernel
theorem dX9_delay_26 : decode cX9_delay 26 = .ok (.iload 4, 2) := by decide +kernel
theorem dX9_delay_28 : decode cX9_delay 28 = .ok (.ifCond .eq 7, 3) := by decide +kernel
theorem dX9_delay_31 : decode cX9_delay 31 = .ok (.iconst 0, 1) := by decide +kernel
theorem dX9_delay_32 : decode cX9_delay 32 = .ok (.goto 4, 3) := by decide +kernel
theorem dX9_delay_35 : decode cX9_delay 35 = .ok (.iconst 1, 1) := by decide +kernel
theorem dX9_delay_36 : decode cX9_delay 36 = .ok (.invokevirtual 131, 3) := by decide +kernel
theorem dX9_delay_39 : decode cX9_delay 39 = .ok (.ifCond .eq 7, 3) := by decide +kernel
theorem dX9_delay_42 : decode cX9_delay 42 = .ok (.iconst 0, 1) := by decide +kernel
theorem dX9_delay_43 : decode cX9_delay 43 = .ok (.goto 14, 3) := by decide +kernel
theorem dX9_delay_46 : decode cX9_delay 46 = .ok (.aload_n 0, 1) := by decide +kernel
theorem dX9_delay_47 : decode cX9_delay 47 = .ok (.iload_n 3, 1) := by decide +kernel
theorem dX9_delay_48 : decode cX9_delay 48 = .ok (.invokevirtual 170, 3) := by decide +kernel
theorem dX9_delay_51 : decode cX9_delay 51 = .ok (.aload_n 0, 1) := by decide +kernel
theorem dX9_delay_52 : decode cX9_delay 52 = .ok (.iload_n 2, 1) := by decide +kernel
theorem dX9_delay_53 : decode cX9_delay 53 = .ok (.invokevirtual 170, 3) := by decide +kernel
theorem dX9_delay_56 : decode cX9_delay 56 = .ok (.isub, 1) := by decide +kernel
theorem dX9_delay_57 : decode cX9_delay 57 = .ok (.ireturn, 1) := by decide +kernel
set_option maxRecDepth 20000 in
theorem ggX9_light_X9_isImage : GoodIn wsX9_light wsX9_isImage := goodIn_r _ [5, 6, 7, 8, 9, 4, 10, 11, 12, 13, 14, 15, 16, 17, 18, 19, 20, 21, 22, 23, 24, 25, 26, 27, 28, 29, 30, 31, 32, 33, 34, 35, 36, 37, 38, 39, 77, 78, 79, 80, 81, 82, 83, 84, 85, 86, 87, 88, 89, 90, 91, 92, 93, 94, 95, 96, 97, 98, 99, 100, 101, 102, 103, 104, 105, 106, 107, 108, 109, 110, 111, 112, 113, 114, 115] (by decide +kernel) (by decide +kernel)
set_option maxRecDepth 20000 in
theorem gX9_light_X9_isImage : GoodIn wsX9_light (wsV RX9 176 RX9 yX9_isImage wsX9_isImage) := goodIn_app (goodIn_of _ (by decide +kernel)) ggX9_light_X9_isImage
set_option maxRecDepth 20000 in
theorem ggX9_light_X9_refused : GoodIn wsX9_light wsX9_refused := goodIn_r _ [43, 44, 77, 78, 79, 80, 81, 82, 83, 84, 85, 86, 87, 88, 89, 90, 91, 92, 93, 94, 95, 96, 97, 98, 99, 100, 101, 102, 103, 104, 105, 106, 107, 108, 109, 110, 111, 112, 113, 114, 115] (by decide +kernel) (by decide +kernel)
set_option maxRecDepth 20000 in
theorem gX9_light_X9_refused : GoodIn wsX9_light (wsV RX9 131 RX9 yX9_refused wsX9_refused) := goodIn_app (goodIn_of _ (by decide +kernel)) ggX9_light_X9_refused
set_option maxRecDepth 20000 in
theorem ggX9_light_X9_lightOf : GoodIn wsX9_light wsX9_lightOf := goodIn_r _ [48, 49, 50, 51, 52, 53, 54, 55, 56, 57, 58, 4, 59, 21, 25, 26, 27, 28, 29, 30, 31, 32, 33, 34, 60, 61, 62, 63, 64, 65, 66, 39, 67, 68, 69, 70, 71, 72, 73, 74, 75, 76, 77, 78, 79, 80, 81, 82, 83, 84, 85, 86, 87, 88, 89, 90, 91, 92, 93, 94, 95, 96, 97, 98, 99, 100, 101, 102, 103, 104, 105, 106, 107, 108, 109, 110, 111, 112, 113, 114, 115] (by decide +kernel) (by decide +kernel)
set_option maxRecDepth 20000 in
theorem gX9_light_X9_lightOf : GoodIn wsX9_light (wsV RX9 185 RX9 yX9_lightOf wsX9_lightOf) := goodIn_app (goodIn_of _ (by decide +kernel)) ggX9_light_X9_lightOf
theorem dX9_light_0 : decode cX9_light 0 = .ok (.aload_n 0, 1) := by decide +kernel
theorem dX9_light_1 : decode cX9_light 1 = .ok (.iload_n 1, 1) := by decide +kernel
theorem dX9_light_2 : decode cX9_light 2 = .ok (.iload_n 2, 1) := by decide +kernel
theorem dX9_light_3 : decode cX9_light 3 = .ok (.invokevirtual 176, 3) := by decide +kernel
theorem dX9_light_6 : decode cX9_light 6 = .ok (.istore_n 3, 1) := by decide +kernel
theorem dX9_light_7 : decode cX9_light 7 = .ok (.aload_n 0, 1) := by decide +kernel
theorem dX9_light_8 : decode cX9_light 8 = .ok (.iload_n 3, 1) := by decide +kernel
theorem dX9_light_9 : decode cX9_light 9 = .ok (.ifCond .eq 7, 3) := by decide +kernel
theorem dX9_light_12 : decode cX9_light 12 = .ok (.iconst 0, 1) := by decide +kernel
theorem dX9_light_13 : decode cX9_light 13 = .ok (.goto 4, 3) := by decide +kernel
theorem dX9_light_16 : decode cX9_light 16 = .ok (.iconst 1, 1) := by decide +kernel
theorem dX9_light_17 : decode cX9_light 17 = .ok (.invokevirtual 131, 3) := by decide +kernel
theorem dX9_light_20 : decode cX9_light 20 = .ok (.ifCond .eq 7, 3) := by decide +kernel
theorem dX9_light_23 : decode cX9_light 23 = .ok (.iconst 0, 1) := by decide +kernel
theorem dX9_light_24 : decode cX9_light 24 = .ok (.goto 9, 3) := by decide +kernel
theorem dX9_light_27 : decode cX9_light 27 = .ok (.aload_n 0, 1) := by decide +kernel
theorem dX9_light_28 : decode cX9_light 28 = .ok (.iload_n 1, 1) := by decide +kernel
theorem dX9_light_29 : decode cX9_light 29 = .ok (.iload_n 2, 1) := by decide +kernel
theorem dX9_light_30 : decode cX9_light 30 = .ok (.invokevirtual 185, 3) := by decide +kernel
theorem dX9_light_33 : decode cX9_light 33 = .ok (.ireturn, 1) := by decide +kernel
theorem dX9_frames_0 : decode cX9_frames 0 = .ok (.aload_n 0, 1) := by decide +kernel
theorem dX9_frames_1 : decode cX9_frames 1 = .ok (.iconst 0, 1) := by decide +kernel
theorem dX9_frames_2 : decode cX9_frames 2 = .ok (.putfield 93, 3) := by decide +kernel
theorem dX9_frames_5 : decode cX9_frames 5 = .ok (.aload_n 0, 1) := by decide +kernel
theorem dX9_frames_6 : decode cX9_frames 6 = .ok (.getfield 118, 3) := by decide +kernel
theorem dX9_frames_9 : decode cX9_frames 9 = .ok (.ireturn, 1) := by decide +kernel
set_option maxRecDepth 20000 in
theorem ggX9_seen_X9_in : GoodIn wsX9_seen wsX9_in := goodIn_r _ [5] (by decide +kernel) (by decide +kernel)
set_option maxRecDepth 20000 in
theorem gX9_seen_X9_in : GoodIn wsX9_seen (va_wsS RX9 96 yX9_in wsX9_in) := goodIn_app (goodIn_of _ (by decide +kernel)) ggX9_seen_X9_in
set_option maxRecDepth 20000 in
theorem ggX9_seen_X9_isSource : GoodIn wsX9_seen wsX9_isSource := goodIn_r _ [9, 10, 2, 3, 4, 5, 21, 22, 23, 24, 25, 26, 27, 28, 29, 30, 31, 32, 33, 34, 35, 36, 37, 38, 39, 40, 41, 42, 43, 44, 45, 46, 47, 48, 49, 50, 51, 52, 53, 54, 55, 56, 57, 58, 59] (by decide +kernel) (by decide +kernel)
set_option maxRecDepth 20000 in
theorem gX9_seen_X9_isSource : GoodIn wsX9_seen (wsV RX9 154 RX9 yX9_isSource wsX9_isSource) := goodIn_app (goodIn_of _ (by decide +kernel)) ggX9_seen_X9_isSource
set_option maxRecDepth 20000 in
theorem ggX9_seen_X9_refused : GoodIn wsX9_seen wsX9_refused := goodIn_r _ [14, 15, 21, 22, 23, 24, 25, 26, 27, 28, 29, 30, 31, 32, 33, 34, 35, 36, 37, 38, 39, 40, 41, 42, 43, 44, 45, 46, 47, 48, 49, 50, 51, 52, 53, 54, 55, 56, 57, 58, 59] (by decide +kernel) (by decide +kernel)
set_option maxRecDepth 20000 in
theorem gX9_seen_X9_refused : GoodIn wsX9_seen (wsV RX9 131 RX9 yX9_refused wsX9_refused) := goodIn_app (goodIn_of _ (by decide +kernel)) ggX9_seen_X9_refused
set_option maxRecDepth 20000 in
theorem ggX9_seen_X9_shown : GoodIn wsX9_seen wsX9_shown := goodIn_r _ [19, 20, 21, 22, 23, 24, 25, 26, 27, 28, 29, 30, 31, 32, 33, 34, 35, 36, 37, 38, 39, 40, 41, 42, 43, 44, 45, 46, 47, 48, 49, 50, 51, 52, 53, 54, 55, 56, 57, 58, 59] (by decide +kernel) (by decide +kernel)
set_option maxRecDepth 20000 in
theorem gX9_seen_X9_shown : GoodIn wsX9_seen (wsV RX9 188 RX9 yX9_shown wsX9_shown) := goodIn_app (goodIn_of _ (by decide +kernel)) ggX9_seen_X9_shown
theorem dX9_seen_0 : decode cX9_seen 0 = .ok (.iload_n 1, 1) := by decide +kernel
theorem dX9_seen_1 : decode cX9_seen 1 = .ok (.iconst 0, 1) := by decide +kernel
theorem dX9_seen_2 : decode cX9_seen 2 = .ok (.aload_n 0, 1) := by decide +kernel
theorem dX9_seen_3 : decode cX9_seen 3 = .ok (.getfield 118, 3) := by decide +kernel
theorem dX9_seen_6 : decode cX9_seen 6 = .ok (.iconst 1, 1) := by decide +kernel
theorem dX9_seen_7 : decode cX9_seen 7 = .ok (.isub, 1) := by decide +kernel
theorem dX9_seen_8 : decode cX9_seen 8 = .ok (.invokestatic 96, 3) := by decide +kernel
theorem dX9_seen_11 : decode cX9_seen 11 = .ok (.ifCond .eq 15, 3) := by decide +kernel
theorem dX9_seen_14 : decode cX9_seen 14 = .ok (.aload_n 0, 1) := by decide +kernel
theorem dX9_seen_15 : decode cX9_seen 15 = .ok (.iload_n 2, 1) := by decide +kernel
theorem dX9_seen_16 : decode cX9_seen 16 = .ok (.invokevirtual 154, 3) := by decide +kernel
theorem dX9_seen_19 : decode cX9_seen 19 = .ok (.ifCond .eq 7, 3) := by decide +kernel
theorem dX9_seen_22 : decode cX9_seen 22 = .ok (.iconst 1, 1) := by decide +kernel
theorem dX9_seen_23 : decode cX9_seen 23 = .ok (.goto 4, 3) := by decide +kernel
theorem dX9_seen_26 : decode cX9_seen 26 = .ok (.iconst 0, 1) := by decide +kernel
theorem dX9_seen_27 : decode cX9_seen 27 = .ok (.istore 4, 2) := by decide +kernel
theorem dX9_seen_29 : decode cX9_seen 29 = .ok (.aload_n 0, 1) := by decide +kernel
theorem dX9_seen_30 : decode cX9_seen 30 = .ok (.iload 4, 2) := by decide +kernel
theorem dX9_seen_32 : decode cX9_seen 32 = .ok (.ifCond .ne 7, 3) := by decide +kernel
theorem dX9_seen_35 : decode cX9_seen 35 = .ok (.iconst 1, 1) := by decide +kernel
theorem dX9_seen_36 : decode cX9_seen 36 = .ok (.goto 17, 3) := by decide +kernel
theorem dX9_seen_39 : decode cX9_seen 39 = .ok (.iload_n 3, 1) := by decide +kernel
theorem dX9_seen_40 : decode cX9_seen 40 = .ok (.iconst 0, 1) := by decide +kernel
theorem dX9_seen_41 : decode cX9_seen 41 = .ok (.iconst 5, 1) := by decide +kernel
theorem dX9_seen_42 : decode cX9_seen 42 = .ok (.invokestatic 96, 3) := by decide +kernel
theorem dX9_seen_45 : decode cX9_seen 45 = .ok (.ifCond .ne 7, 3) := by decide +kernel
theorem dX9_seen_48 : decode cX9_seen 48 = .ok (.iconst 2, 1) := by decide +kernel
theorem dX9_seen_49 : decode cX9_seen 49 = .ok (.goto 4, 3) := by decide +kernel
theorem dX9_seen_52 : decode cX9_seen 52 = .ok (.iconst 0, 1) := by decide +kernel
theorem dX9_seen_53 : decode cX9_seen 53 = .ok (.invokevirtual 131, 3) := by decide +kernel
theorem dX9_seen_56 : decode cX9_seen 56 = .ok (.ifCond .eq 7, 3) := by decide +kernel
theorem dX9_seen_59 : decode cX9_seen 59 = .ok (.iconst 0, 1) := by decide +kernel
theorem dX9_seen_60 : decode cX9_seen 60 = .ok (.goto 10, 3) := by decide +kernel
theorem dX9_seen_63 : decode cX9_seen 63 = .ok (.aload_n 0, 1) := by decide +kernel
theorem dX9_seen_64 : decode cX9_seen 64 = .ok (.iload_n 1, 1) := by decide +kernel
theorem dX9_seen_65 : decode cX9_seen 65 = .ok (.iload_n 2, 1) := by decide +kernel
theorem dX9_seen_66 : decode cX9_seen 66 = .ok (.iload_n 3, 1) := by decide +kernel
theorem dX9_seen_67 : decode cX9_seen 67 = .ok (.invokevirtual 188, 3) := by decide +kernel
theorem dX9_seen_70 : decode cX9_seen 70 = .ok (.ireturn, 1) := by decide +kernel
set_option maxRecDepth 20000 in
theorem ggX9_measured_X9_isImage : GoodIn wsX9_measured wsX9_isImage := goodIn_r _ [5, 6, 7, 8, 9, 4, 10, 11, 12, 13, 14, 15, 16, 17, 18, 19, 20, 21, 22, 23, 24, 25, 26, 27, 28, 29, 30, 31, 32, 33, 34, 35, 36, 37, 38, 39, 63, 64, 65, 66, 67, 68, 69, 70, 71, 72, 73, 74, 75, 76, 77, 78, 79, 80, 81, 82, 83, 84, 85, 86, 87, 88, 89, 90, 91, 92, 93, 94, 95, 96, 97, 98, 99, 100, 101] (by decide +kernel) (by decide +kernel)
set_option maxRecDepth 20000 in
theorem gX9_measured_X9_isImage : GoodIn wsX9_measured (wsV RX9 176 RX9 yX9_isImage wsX9_isImage) := goodIn_app (goodIn_of _ (by decide +kernel)) ggX9_measured_X9_isImage
set_option maxRecDepth 20000 in
theorem ggX9_measured_X9_refused : GoodIn wsX9_measured wsX9_refused := goodIn_r _ [43, 44, 63, 64, 65, 66, 67, 68, 69, 70, 71, 72, 73, 74, 75, 76, 77, 78, 79, 80, 81, 82, 83, 84, 85, 86, 87, 88, 89, 90, 91, 92, 93, 94, 95, 96, 97, 98, 99, 100, 101] (by decide +kernel) (by decide +kernel)
set_option maxRecDepth 20000 in
theorem gX9_measured_X9_refused : GoodIn wsX9_measured (wsV RX9 131 RX9 yX9_refused wsX9_refused) := goodIn_app (goodIn_of _ (by decide +kernel)) ggX9_measured_X9_refused
set_option maxRecDepth 20000 in
theorem ggX9_measured_X9_measure : GoodIn wsX9_measured wsX9_measure := goodIn_r _ [48, 49, 50, 51, 52, 53, 4, 54, 21, 25, 26, 27, 28, 29, 30, 31, 32, 33, 34, 55, 56, 57, 58, 59, 60, 61, 62, 63, 64, 65, 66, 67, 68, 69, 70, 71, 72, 73, 74, 75, 76, 77, 78, 79, 80, 81, 82, 83, 84, 85, 86, 87, 88, 89, 90, 91, 92, 93, 94, 95, 96, 97, 98, 99, 100, 101] (by decide +kernel) (by decide +kernel)
set_option maxRecDepth 20000 in
theorem gX9_measured_X9_measure : GoodIn wsX9_measured (wsV RX9 192 RX9 yX9_measure wsX9_measure) := goodIn_app (goodIn_of _ (by decide +kernel)) ggX9_measured_X9_measure
theorem dX9_measured_0 : decode cX9_measured 0 = .ok (.aload_n 0, 1) := by decide +kernel
theorem dX9_measured_1 : decode cX9_measured 1 = .ok (.iload_n 1, 1) := by decide +kernel
theorem dX9_measured_2 : decode cX9_measured 2 = .ok (.iload_n 2, 1) := by decide +kernel
theorem dX9_measured_3 : decode cX9_measured 3 = .ok (.invokevirtual 176, 3) := by decide +kernel
theorem dX9_measured_6 : decode cX9_measured 6 = .ok (.ifCond .eq 16, 3) := by decide +kernel
theorem dX9_measured_9 : decode cX9_measured 9 = .ok (.aload_n 0, 1) := by decide +kernel
theorem dX9_measured_10 : decode cX9_measured 10 = .ok (.iload_n 1, 1) := by decide +kernel
theorem dX9_measured_11 : decode cX9_measured 11 = .ok (.iload_n 3, 1) := by decide +kernel
theorem dX9_measured_12 : decode cX9_measured 12 = .ok (.invokevirtual 176, 3) := by decide +kernel
theorem dX9_measured_15 : decode cX9_measured 15 = .ok (.ifCond .eq 7, 3) := by decide +kernel
theorem dX9_measured_18 : decode cX9_measured 18 = .ok (.iconst 1, 1) := by decide +kernel
theorem dX9_measured_19 : decode cX9_measured 19 = .ok (.goto 4, 3) := by decide +kernel
theorem dX9_measured_22 : decode cX9_measured 22 = .ok (.iconst 0, 1) := by decide +kernel
theorem dX9_measured_23 : decode cX9_measured 23 = .ok (.istore 4, 2) := by decide +kernel
theorem dX9_measured_25 : decode cX9_measured 25 = .ok (.aload_n 0, 1) := by decide +kernel
theorem dX9_measured_26 : decode cX9_measured 26 = .ok (.iload 4, 2) := by decide +kernel
theorem dX9_measured_28 : decode cX9_measured 28 = .ok (.ifCond .ne 7, 3) := by decide +kernel
theorem dX9_measured_31 : decode cX9_measured 31 = .ok (.iconst 1, 1) := by decide +kernel
theorem dX9_measured_32 : decode cX9_measured 32 = .ok (.goto 25, 3) := by decide +kernel
theorem dX9_measured_35 : decode cX9_measured 35 = .ok (.iload_n 2, 1) := by decide +kernel
theorem dX9_measured_36 : decode cX9_measured 36 = .ok (.iload_n 3, 1) := by decide +kernel
theorem dX9_measured_37 : decode cX9_measured 37 = .ok (.if_icmp .eq 15, 3) := by decide +kernel
theorem dX9_measured_40 : decode cX9_measured 40 = .ok (.iload_n 2, 1) := by decide +kernel
theorem dX9_measured_41 : decode cX9_measured 41 = .ok (.bipush 6, 2) := by decide +kernel
theorem dX9_measured_43 : decode cX9_measured 43 = .ok (.if_icmp .ge 9, 3) := by decide +kernel
theorem dX9_measured_46 : decode cX9_measured 46 = .ok (.iload_n 3, 1) := by decide +kernel
theorem dX9_measured_47 : decode cX9_measured 47 = .ok (.bipush 6, 2) := by decide +kernel
theorem dX9_measured_49 : decode cX9_measured 49 = .ok (.if_icmp .lt 7, 3) := by decide +kernel
theorem dX9_measured_52 : decode cX9_measured 52 = .ok (.iconst 2, 1) := by decide +kernel
theorem dX9_measured_53 : decode cX9_measured 53 = .ok (.goto 4, 3) := by decide +kernel
theorem dX9_measured_56 : decode cX9_measured 56 = .ok (.iconst 0, 1) := by decide +kernel
theorem dX9_measured_57 : decode cX9_measured 57 = .ok (.invokevirtual 131, 3) := by decide +kernel
theorem dX9_measured_60 : decode cX9_measured 60 = .ok (.ifCond .eq 5, 3) := by decide +kernel
theorem dX9_measured_63 : decode cX9_measured 63 = .ok (.iconst 0, 1) := by decide +kernel
theorem dX9_measured_64 : decode cX9_measured 64 = .ok (.ireturn, 1) := by decide +kernel
theorem dX9_measured_65 : decode cX9_measured 65 = .ok (.aload_n 0, 1) := by decide +kernel
theorem dX9_measured_66 : decode cX9_measured 66 = .ok (.iload_n 1, 1) := by decide +kernel
theorem dX9_measured_67 : decode cX9_measured 67 = .ok (.iload_n 2, 1) := by decide +kernel
theorem dX9_measured_68 : decode cX9_measured 68 = .ok (.iload_n 3, 1) := by decide +kernel
theorem dX9_measured_69 : decode cX9_measured 69 = .ok (.invokevirtual 192, 3) := by decide +kernel
theorem dX9_measured_72 : decode cX9_measured 72 = .ok (.ireturn, 1) := by decide +kernel
set_option maxRecDepth 20000 in
theorem ggX9_isHouse_X9_in : GoodIn wsX9_isHouse wsX9_in := goodIn_r _ [4] (by decide +kernel) (by decide +kernel)
set_option maxRecDepth 20000 in
theorem gX9_isHouse_X9_in : GoodIn wsX9_isHouse (va_wsS RX9 96 yX9_in wsX9_in) := goodIn_app (goodIn_of _ (by decide +kernel)) ggX9_isHouse_X9_in
theorem dX9_isHouse_0 : decode cX9_isHouse 0 = .ok (.iload_n 1, 1) := by decide +kernel
theorem dX9_isHouse_1 : decode cX9_isHouse 1 = .ok (.iconst 0, 1) := by decide +kernel
theorem dX9_isHouse_2 : decode cX9_isHouse 2 = .ok (.iconst 1, 1) := by decide +kernel
theorem dX9_isHouse_3 : decode cX9_isHouse 3 = .ok (.invokestatic 96, 3) := by decide +kernel
theorem dX9_isHouse_6 : decode cX9_isHouse 6 = .ok (.ireturn, 1) := by decide +kernel
set_option maxRecDepth 20000 in
theorem ggX9_booked_X9_isHouse : GoodIn wsX9_booked wsX9_isHouse := goodIn_r _ [7, 8, 9, 6, 10] (by decide +kernel) (by decide +kernel)
set_option maxRecDepth 20000 in
theorem gX9_booked_X9_isHouse : GoodIn wsX9_booked (wsV RX9 207 RX9 yX9_isHouse wsX9_isHouse) := goodIn_app (goodIn_of _ (by decide +kernel)) ggX9_booked_X9_isHouse
set_option maxRecDepth 20000 in
theorem ggX9_booked_X9_refused : GoodIn wsX9_booked wsX9_refused := goodIn_r _ [14, 15, 16, 17, 18, 19, 20, 21, 22, 23, 24, 25, 26, 27, 28, 29, 30, 31, 32, 33, 34, 35, 36, 37, 38, 39, 40, 41, 42, 43, 44, 45, 46, 47, 48, 49, 50, 51, 52, 53, 54] (by decide +kernel) (by decide +kernel)
set_option maxRecDepth 20000 in
theorem gX9_booked_X9_refused : GoodIn wsX9_booked (wsV RX9 131 RX9 yX9_refused wsX9_refused) := goodIn_app (goodIn_of _ (by decide +kernel)) ggX9_booked_X9_refused
theorem dX9_booked_0 : decode cX9_booked 0 = .ok (.aload_n 0, 1) := by decide +kernel
theorem dX9_booked_1 : decode cX9_booked 1 = .ok (.aload_n 0, 1) := by decide +kernel
theorem dX9_booked_2 : decode cX9_booked 2 = .ok (.iload_n 1, 1) := by decide +kernel
theorem dX9_booked_3 : decode cX9_booked 3 = .ok (.invokevirtual 207, 3) := by decide +kernel
theorem dX9_booked_6 : decode cX9_booked 6 = .ok (.ifCond .ne 7, 3) := by decide +kernel
theorem dX9_booked_9 : decode cX9_booked 9 = .ok (.iconst 1, 1) := by decide +kernel
theorem dX9_booked_10 : decode cX9_booked 10 = .ok (.goto 15, 3) := by decide +kernel
theorem dX9_booked_13 : decode cX9_booked 13 = .ok (.aload_n 0, 1) := by decide +kernel
theorem dX9_booked_14 : decode cX9_booked 14 = .ok (.getfield 198, 3) := by decide +kernel
theorem dX9_booked_17 : decode cX9_booked 17 = .ok (.ifCond .ne 7, 3) := by decide +kernel
theorem dX9_booked_20 : decode cX9_booked 20 = .ok (.iconst 2, 1) := by decide +kernel
theorem dX9_booked_21 : decode cX9_booked 21 = .ok (.goto 4, 3) := by decide +kernel
theorem dX9_booked_24 : decode cX9_booked 24 = .ok (.iconst 0, 1) := by decide +kernel
theorem dX9_booked_25 : decode cX9_booked 25 = .ok (.invokevirtual 131, 3) := by decide +kernel
theorem dX9_booked_28 : decode cX9_booked 28 = .ok (.ifCond .eq 7, 3) := by decide +kernel
theorem dX9_booked_31 : decode cX9_booked 31 = .ok (.iconst 0, 1) := by decide +kernel
theorem dX9_booked_32 : decode cX9_booked 32 = .ok (.goto 9, 3) := by decide +kernel
theorem dX9_booked_35 : decode cX9_booked 35 = .ok (.aload_n 0, 1) := by decide +kernel
theorem dX9_booked_36 : decode cX9_booked 36 = .ok (.getfield 77, 3) := by decide +kernel
theorem dX9_booked_39 : decode cX9_booked 39 = .ok (.iload_n 1, 1) := by decide +kernel
theorem dX9_booked_40 : decode cX9_booked 40 = .ok (.iaload, 1) := by decide +kernel
theorem dX9_booked_41 : decode cX9_booked 41 = .ok (.ireturn, 1) := by decide +kernel
set_option maxRecDepth 20000 in
theorem ggX9_isFresh_X9_isHouse : GoodIn wsX9_isFresh wsX9_isHouse := goodIn_r _ [7, 8, 9, 6, 10] (by decide +kernel) (by decide +kernel)
set_option maxRecDepth 20000 in
theorem gX9_isFresh_X9_isHouse : GoodIn wsX9_isFresh (wsV RX9 207 RX9 yX9_isHouse wsX9_isHouse) := goodIn_app (goodIn_of _ (by decide +kernel)) ggX9_isFresh_X9_isHouse
set_option maxRecDepth 20000 in
theorem ggX9_isFresh_X9_refused : GoodIn wsX9_isFresh wsX9_refused := goodIn_r _ [14, 15, 16, 17, 18, 19, 20, 21, 22, 23, 24, 25, 26, 27, 28, 29, 30, 31, 32, 33, 34, 35, 36, 37, 38, 39, 40, 41, 42, 43, 44, 45, 46, 47, 48, 49, 50, 51, 52, 53, 54] (by decide +kernel) (by decide +kernel)
set_option maxRecDepth 20000 in
theorem gX9_isFresh_X9_refused : GoodIn wsX9_isFresh (wsV RX9 131 RX9 yX9_refused wsX9_refused) := goodIn_app (goodIn_of _ (by decide +kernel)) ggX9_isFresh_X9_refused
theorem dX9_isFresh_0 : decode cX9_isFresh 0 = .ok (.aload_n 0, 1) := by decide +kernel
theorem dX9_isFresh_1 : decode cX9_isFresh 1 = .ok (.iload_n 1, 1) := by decide +kernel
theorem dX9_isFresh_2 : decode cX9_isFresh 2 = .ok (.invokevirtual 207, 3) := by decide +kernel
theorem dX9_isFresh_5 : decode cX9_isFresh 5 = .ok (.istore_n 2, 1) := by decide +kernel
theorem dX9_isFresh_6 : decode cX9_isFresh 6 = .ok (.aload_n 0, 1) := by decide +kernel
theorem dX9_isFresh_7 : decode cX9_isFresh 7 = .ok (.iload_n 2, 1) := by decide +kernel
theorem dX9_isFresh_8 : decode cX9_isFresh 8 = .ok (.ifCond .ne 7, 3) := by decide +kernel
theorem dX9_isFresh_11 : decode cX9_isFresh 11 = .ok (.iconst 1, 1) := by decide +kernel
theorem dX9_isFresh_12 : decode cX9_isFresh 12 = .ok (.goto 18, 3) := by decide +kernel
theorem dX9_isFresh_15 : decode cX9_isFresh 15 = .ok (.aload_n 0, 1) := by decide +kernel
theorem dX9_isFresh_16 : decode cX9_isFresh 16 = .ok (.getfield 80, 3) := by decide +kernel
theorem dX9_isFresh_19 : decode cX9_isFresh 19 = .ok (.iload_n 1, 1) := by decide +kernel
theorem dX9_isFresh_20 : decode cX9_isFresh 20 = .ok (.iaload, 1) := by decide +kernel
theorem dX9_isFresh_21 : decode cX9_isFresh 21 = .ok (.iconst (-1), 1) := by decide +kernel
theorem dX9_isFresh_22 : decode cX9_isFresh 22 = .ok (.if_icmp .ne 7, 3) := by decide +kernel
theorem dX9_isFresh_25 : decode cX9_isFresh 25 = .ok (.iconst 2, 1) := by decide +kernel
theorem dX9_isFresh_26 : decode cX9_isFresh 26 = .ok (.goto 4, 3) := by decide +kernel
theorem dX9_isFresh_29 : decode cX9_isFresh 29 = .ok (.iconst 0, 1) := by decide +kernel
theorem dX9_isFresh_30 : decode cX9_isFresh 30 = .ok (.invokevirtual 131, 3) := by decide +kernel
theorem dX9_isFresh_33 : decode cX9_isFresh 33 = .ok (.ifCond .ne 20, 3) := by decide +kernel
theorem dX9_isFresh_36 : decode cX9_isFresh 36 = .ok (.aload_n 0, 1) := by decide +kernel
theorem dX9_isFresh_37 : decode cX9_isFresh 37 = .ok (.getfield 80, 3) := by decide +kernel
theorem dX9_isFresh_40 : decode cX9_isFresh 40 = .ok (.iload_n 1, 1) := by decide +kernel
theorem dX9_isFresh_41 : decode cX9_isFresh 41 = .ok (.iaload, 1) := by decide +kernel
theorem dX9_isFresh_42 : decode cX9_isFresh 42 = .ok (.aload_n 0, 1) := by decide +kernel
theorem dX9_isFresh_43 : decode cX9_isFresh 43 = .ok (.getfield 115, 3) := by decide +kernel
theorem dX9_isFresh_46 : decode cX9_isFresh 46 = .ok (.if_icmp .ne 7, 3) := by decide +kernel
theorem dX9_isFresh_49 : decode cX9_isFresh 49 = .ok (.iconst 1, 1) := by decide +kernel
theorem dX9_isFresh_50 : decode cX9_isFresh 50 = .ok (.goto 4, 3) := by decide +kernel
theorem dX9_isFresh_53 : decode cX9_isFresh 53 = .ok (.iconst 0, 1) := by decide +kernel
theorem dX9_isFresh_54 : decode cX9_isFresh 54 = .ok (.ireturn, 1) := by decide +kernel
set_option maxRecDepth 20000 in
theorem ggX9_dispute_X9_refused : GoodIn wsX9_dispute wsX9_refused := goodIn_r _ [7, 8, 12, 13, 14, 15, 16, 17, 18, 19, 20, 21, 22, 23, 24, 25, 26, 27, 28, 29, 30, 31, 32, 33, 34, 35, 36, 37, 38, 39, 40, 41, 42, 43, 44, 45, 46, 47, 48, 49, 50] (by decide +kernel) (by decide +kernel)
set_option maxRecDepth 20000 in
theorem gX9_dispute_X9_refused : GoodIn wsX9_dispute (wsV RX9 131 RX9 yX9_refused wsX9_refused) := goodIn_app (goodIn_of _ (by decide +kernel)) ggX9_dispute_X9_refused
set_option maxRecDepth 20000 in
theorem ggX9_dispute_X9_size : GoodIn wsX9_dispute wsX9_size := goodIn_r _ [11] (by decide +kernel) (by decide +kernel)
set_option maxRecDepth 20000 in
theorem gX9_dispute_X9_size : GoodIn wsX9_dispute (va_wsS RX9 100 yX9_size wsX9_size) := goodIn_app (goodIn_of _ (by decide +kernel)) ggX9_dispute_X9_size
theorem dX9_dispute_0 : decode cX9_dispute 0 = .ok (.aload_n 0, 1) := by decide +kernel
theorem dX9_dispute_1 : decode cX9_dispute 1 = .ok (.aload_n 0, 1) := by decide +kernel
theorem dX9_dispute_2 : decode cX9_dispute 2 = .ok (.getfield 198, 3) := by decide +kernel
theorem dX9_dispute_5 : decode cX9_dispute 5 = .ok (.ifCond .eq 7, 3) := by decide +kernel
theorem dX9_dispute_8 : decode cX9_dispute 8 = .ok (.iconst 0, 1) := by decide +kernel
theorem dX9_dispute_9 : decode cX9_dispute 9 = .ok (.goto 4, 3) := by decide +kernel
theorem dX9_dispute_12 : decode cX9_dispute 12 = .ok (.iconst 1, 1) := by decide +kernel
theorem dX9_dispute_13 : decode cX9_dispute 13 = .ok (.invokevirtual 131, 3) := by decide +kernel
theorem dX9_dispute_16 : decode cX9_dispute 16 = .ok (.ifCond .eq 5, 3) := by decide +kernel
theorem dX9_dispute_19 : decode cX9_dispute 19 = .ok (.iconst 0, 1) := by decide +kernel
theorem dX9_dispute_20 : decode cX9_dispute 20 = .ok (.ireturn, 1) := by decide +kernel
theorem dX9_dispute_21 : decode cX9_dispute 21 = .ok (.aload_n 0, 1) := by decide +kernel
theorem dX9_dispute_22 : decode cX9_dispute 22 = .ok (.getfield 77, 3) := by decide +kernel
theorem dX9_dispute_25 : decode cX9_dispute 25 = .ok (.iconst 0, 1) := by decide +kernel
theorem dX9_dispute_26 : decode cX9_dispute 26 = .ok (.iaload, 1) := by decide +kernel
theorem dX9_dispute_27 : decode cX9_dispute 27 = .ok (.iconst (-1), 1) := by decide +kernel
theorem dX9_dispute_28 : decode cX9_dispute 28 = .ok (.if_icmp .eq 13, 3) := by decide +kernel
theorem dX9_dispute_31 : decode cX9_dispute 31 = .ok (.aload_n 0, 1) := by decide +kernel
theorem dX9_dispute_32 : decode cX9_dispute 32 = .ok (.getfield 77, 3) := by decide +kernel
theorem dX9_dispute_35 : decode cX9_dispute 35 = .ok (.iconst 1, 1) := by decide +kernel
theorem dX9_dispute_36 : decode cX9_dispute 36 = .ok (.iaload, 1) := by decide +kernel
theorem dX9_dispute_37 : decode cX9_dispute 37 = .ok (.iconst (-1), 1) := by decide +kernel
theorem dX9_dispute_38 : decode cX9_dispute 38 = .ok (.if_icmp .ne 7, 3) := by decide +kernel
theorem dX9_dispute_41 : decode cX9_dispute 41 = .ok (.iconst (-1), 1) := by decide +kernel
theorem dX9_dispute_42 : decode cX9_dispute 42 = .ok (.goto 19, 3) := by decide +kernel
theorem dX9_dispute_45 : decode cX9_dispute 45 = .ok (.aload_n 0, 1) := by decide +kernel
theorem dX9_dispute_46 : decode cX9_dispute 46 = .ok (.getfield 77, 3) := by decide +kernel
theorem dX9_dispute_49 : decode cX9_dispute 49 = .ok (.iconst 0, 1) := by decide +kernel
theorem dX9_dispute_50 : decode cX9_dispute 50 = .ok (.iaload, 1) := by decide +kernel
theorem dX9_dispute_51 : decode cX9_dispute 51 = .ok (.aload_n 0, 1) := by decide +kernel
theorem dX9_dispute_52 : decode cX9_dispute 52 = .ok (.getfield 77, 3) := by decide +kernel
theorem dX9_dispute_55 : decode cX9_dispute 55 = .ok (.iconst 1, 1) := by decide +kernel
theorem dX9_dispute_56 : decode cX9_dispute 56 = .ok (.iaload, 1) := by decide +kernel
theorem dX9_dispute_57 : decode cX9_dispute 57 = .ok (.isub, 1) := by decide +kernel
theorem dX9_dispute_58 : decode cX9_dispute 58 = .ok (.invokestatic 100, 3) := by decide +kernel
theorem dX9_dispute_61 : decode cX9_dispute 61 = .ok (.ireturn, 1) := by decide +kernel
theorem dJ9_abs_0f7a4_0 : decode cJ9_abs_0f7a4 0 = .ok (.iload_n 0, 1) := by decide +kernel
theorem dJ9_abs_0f7a4_1 : decode cJ9_abs_0f7a4 1 = .ok (.ifCond .ge 8, 3) := by decide +kernel
theorem dJ9_abs_0f7a4_4 : decode cJ9_abs_0f7a4 4 = .ok (.iload_n 0, 1) := by decide +kernel
theorem dJ9_abs_0f7a4_5 : decode cJ9_abs_0f7a4 5 = .ok (.ineg, 1) := by decide +kernel
theorem dJ9_abs_0f7a4_6 : decode cJ9_abs_0f7a4 6 = .ok (.goto 4, 3) := by decide +kernel
theorem dJ9_abs_0f7a4_9 : decode cJ9_abs_0f7a4 9 = .ok (.iload_n 0, 1) := by decide +kernel
theorem dJ9_abs_0f7a4_10 : decode cJ9_abs_0f7a4 10 = .ok (.ireturn, 1) := by decide +kernel
theorem dJ9_max_7cf53_0 : decode cJ9_max_7cf53 0 = .ok (.iload_n 0, 1) := by decide +kernel
theorem dJ9_max_7cf53_1 : decode cJ9_max_7cf53 1 = .ok (.iload_n 1, 1) := by decide +kernel
theorem dJ9_max_7cf53_2 : decode cJ9_max_7cf53 2 = .ok (.if_icmp .lt 7, 3) := by decide +kernel
theorem dJ9_max_7cf53_5 : decode cJ9_max_7cf53 5 = .ok (.iload_n 0, 1) := by decide +kernel
theorem dJ9_max_7cf53_6 : decode cJ9_max_7cf53 6 = .ok (.goto 4, 3) := by decide +kernel
theorem dJ9_max_7cf53_9 : decode cJ9_max_7cf53 9 = .ok (.iload_n 1, 1) := by decide +kernel
theorem dJ9_max_7cf53_10 : decode cJ9_max_7cf53 10 = .ok (.ireturn, 1) := by decide +kernel
theorem dJ9_min_7cf53_0 : decode cJ9_min_7cf53 0 = .ok (.iload_n 0, 1) := by decide +kernel
theorem dJ9_min_7cf53_1 : decode cJ9_min_7cf53 1 = .ok (.iload_n 1, 1) := by decide +kernel
theorem dJ9_min_7cf53_2 : decode cJ9_min_7cf53 2 = .ok (.if_icmp .gt 7, 3) := by decide +kernel
theorem dJ9_min_7cf53_5 : decode cJ9_min_7cf53 5 = .ok (.iload_n 0, 1) := by decide +kernel
theorem dJ9_min_7cf53_6 : decode cJ9_min_7cf53 6 = .ok (.goto 4, 3) := by decide +kernel
theorem dJ9_min_7cf53_9 : decode cJ9_min_7cf53 9 = .ok (.iload_n 1, 1) := by decide +kernel
theorem dJ9_min_7cf53_10 : decode cJ9_min_7cf53 10 = .ok (.ireturn, 1) := by decide +kernel
theorem dJxa1e45_init_da8c8_0 : decode cJxa1e45_init_da8c8 0 = .ok (.aload_n 0, 1) := by decide +kernel
theorem dJxa1e45_init_da8c8_1 : decode cJxa1e45_init_da8c8 1 = .ok (.invokespecial 1, 3) := by decide +kernel
theorem dJxa1e45_init_da8c8_4 : decode cJxa1e45_init_da8c8 4 = .ok (.return_, 1) := by decide +kernel
set_option maxRecDepth 20000 in
theorem ggJxc12de_init_da8c8_Jxa1e45_init_da8c8 : GoodIn wsJxc12de_init_da8c8 wsJxa1e45_init_da8c8 := goodIn_r _ [5, 6, 7, 8] (by decide +kernel) (by decide +kernel)
set_option maxRecDepth 20000 in
theorem gJxc12de_init_da8c8_Jxa1e45_init_da8c8 : GoodIn wsJxc12de_init_da8c8 (wsJxa1e45_init_da8c8) := ggJxc12de_init_da8c8_Jxa1e45_init_da8c8
theorem dJxc12de_init_da8c8_0 : decode cJxc12de_init_da8c8 0 = .ok (.aload_n 0, 1) := by decide +kernel
theorem dJxc12de_init_da8c8_1 : decode cJxc12de_init_da8c8 1 = .ok (.invokespecial 1, 3) := by decide +kernel
theorem dJxc12de_init_da8c8_4 : decode cJxc12de_init_da8c8 4 = .ok (.aload_n 0, 1) := by decide +kernel
theorem dJxc12de_init_da8c8_5 : decode cJxc12de_init_da8c8 5 = .ok (.iconst 0, 1) := by decide +kernel
theorem dJxc12de_init_da8c8_6 : decode cJxc12de_init_da8c8 6 = .ok (.putfield 7, 3) := by decide +kernel
theorem dJxc12de_init_da8c8_9 : decode cJxc12de_init_da8c8 9 = .ok (.return_, 1) := by decide +kernel
set_option maxRecDepth 20000 in
theorem ggJx4a65c_init_da8c8_Jxc12de_init_da8c8 : GoodIn wsJx4a65c_init_da8c8 wsJxc12de_init_da8c8 := goodIn_r _ [6, 7, 8, 9, 10, 11, 12, 13, 14, 15, 16, 17] (by decide +kernel) (by decide +kernel)
set_option maxRecDepth 20000 in
theorem gJx4a65c_init_da8c8_Jxc12de_init_da8c8 : GoodIn wsJx4a65c_init_da8c8 (wsJxc12de_init_da8c8) := ggJx4a65c_init_da8c8_Jxc12de_init_da8c8
theorem dJx4a65c_init_da8c8_0 : decode cJx4a65c_init_da8c8 0 = .ok (.aload_n 0, 1) := by decide +kernel
theorem dJx4a65c_init_da8c8_1 : decode cJx4a65c_init_da8c8 1 = .ok (.invokespecial 1, 3) := by decide +kernel
theorem dJx4a65c_init_da8c8_4 : decode cJx4a65c_init_da8c8 4 = .ok (.aload_n 0, 1) := by decide +kernel
theorem dJx4a65c_init_da8c8_5 : decode cJx4a65c_init_da8c8 5 = .ok (.getstatic 39, 3) := by decide +kernel
theorem dJx4a65c_init_da8c8_8 : decode cJx4a65c_init_da8c8 8 = .ok (.putfield 9, 3) := by decide +kernel
theorem dJx4a65c_init_da8c8_11 : decode cJx4a65c_init_da8c8 11 = .ok (.return_, 1) := by decide +kernel
set_option maxRecDepth 20000 in
theorem ggJx4a65c_grow_92f84_J8_newLength_cabcc : GoodIn wsJx4a65c_grow_92f84 wsJ8_newLength_cabcc := goodIn_r _ [11, 12, 4, 5, 6, 13, 14, 15, 10, 16] (by decide +kernel) (by decide +kernel)
set_option maxRecDepth 20000 in
theorem gJx4a65c_grow_92f84_J8_newLength_cabcc : GoodIn wsJx4a65c_grow_92f84 (va_wsS RJx4a65c 73 yJ8_newLength_cabcc wsJ8_newLength_cabcc) := goodIn_app (goodIn_of _ (by decide +kernel)) ggJx4a65c_grow_92f84_J8_newLength_cabcc
set_option maxRecDepth 20000 in
theorem ggJx4a65c_grow_92f84_J7_copyOf_1904c : GoodIn wsJx4a65c_grow_92f84 wsJ7_copyOf_1904c := goodIn_r _ [20, 21, 22, 23, 24, 25, 26, 19, 27, 28, 29, 30, 31, 5, 32, 33, 34, 35, 36] (by decide +kernel) (by decide +kernel)
set_option maxRecDepth 20000 in
theorem gJx4a65c_grow_92f84_J7_copyOf_1904c : GoodIn wsJx4a65c_grow_92f84 (va_wsS RJx4a65c 66 yJ7_copyOf_1904c wsJ7_copyOf_1904c) := goodIn_app (goodIn_of _ (by decide +kernel)) ggJx4a65c_grow_92f84_J7_copyOf_1904c
theorem dJx4a65c_grow_92f84_0 : decode cJx4a65c_grow_92f84 0 = .ok (.aload_n 0, 1) := by decide +kernel
theorem dJx4a65c_grow_92f84_1 : decode cJx4a65c_grow_92f84 1 = .ok (.getfield 9, 3) := by decide +kernel
theorem dJx4a65c_grow_92f84_4 : decode cJx4a65c_grow_92f84 4 = .ok (.arraylength, 1) := by decide +kernel
theorem dJx4a65c_grow_92f84_5 : decode cJx4a65c_grow_92f84 5 = .ok (.istore_n 2, 1) := by decide +kernel
theorem dJx4a65c_grow_92f84_6 : decode cJx4a65c_grow_92f84 6 = .ok (.iload_n 2, 1) := by decide +kernel
theorem dJx4a65c_grow_92f84_7 : decode cJx4a65c_grow_92f84 7 = .ok (.ifCond .gt 13, 3) := by decide +kernel
theorem dJx4a65c_grow_92f84_10 : decode cJx4a65c_grow_92f84 10 = .ok (.aload_n 0, 1) := by decide +kernel
theorem dJx4a65c_grow_92f84_11 : decode cJx4a65c_grow_92f84 11 = .ok (.getfield 9, 3) := by decide +kernel
theorem dJx4a65c_grow_92f84_14 : decode cJx4a65c_grow_92f84 14 = .ok (.getstatic 39, 3) := by decide +kernel
theorem dJx4a65c_grow_92f84_17 : decode cJx4a65c_grow_92f84 17 = .ok (.if_acmp .eq 28, 3) := by decide +kernel
theorem dJx4a65c_grow_92f84_20 : decode cJx4a65c_grow_92f84 20 = .ok (.iload_n 2, 1) := by decide +kernel
theorem dJx4a65c_grow_92f84_21 : decode cJx4a65c_grow_92f84 21 = .ok (.iload_n 1, 1) := by decide +kernel
theorem dJx4a65c_grow_92f84_22 : decode cJx4a65c_grow_92f84 22 = .ok (.iload_n 2, 1) := by decide +kernel
theorem dJx4a65c_grow_92f84_23 : decode cJx4a65c_grow_92f84 23 = .ok (.isub, 1) := by decide +kernel
theorem dJx4a65c_grow_92f84_24 : decode cJx4a65c_grow_92f84 24 = .ok (.iload_n 2, 1) := by decide +kernel
theorem dJx4a65c_grow_92f84_25 : decode cJx4a65c_grow_92f84 25 = .ok (.iconst 1, 1) := by decide +kernel
theorem dJx4a65c_grow_92f84_26 : decode cJx4a65c_grow_92f84 26 = .ok (.ishr, 1) := by decide +kernel
theorem dJx4a65c_grow_92f84_27 : decode cJx4a65c_grow_92f84 27 = .ok (.invokestatic 73, 3) := by decide +kernel
theorem dJx4a65c_grow_92f84_30 : decode cJx4a65c_grow_92f84 30 = .ok (.istore_n 3, 1) := by decide +kernel
theorem dJx4a65c_grow_92f84_31 : decode cJx4a65c_grow_92f84 31 = .ok (.aload_n 0, 1) := by decide +kernel
theorem dJx4a65c_grow_92f84_32 : decode cJx4a65c_grow_92f84 32 = .ok (.aload_n 0, 1) := by decide +kernel
theorem dJx4a65c_grow_92f84_33 : decode cJx4a65c_grow_92f84 33 = .ok (.getfield 9, 3) := by decide +kernel
theorem dJx4a65c_grow_92f84_36 : decode cJx4a65c_grow_92f84 36 = .ok (.iload_n 3, 1) := by decide +kernel
theorem dJx4a65c_grow_92f84_37 : decode cJx4a65c_grow_92f84 37 = .ok (.invokestatic 66, 3) := by decide +kernel
theorem dJx4a65c_grow_92f84_40 : decode cJx4a65c_grow_92f84 40 = .ok (.dup_x1, 1) := by decide +kernel
theorem dJx4a65c_grow_92f84_41 : decode cJx4a65c_grow_92f84 41 = .ok (.putfield 9, 3) := by decide +kernel
theorem dJx4a65c_grow_92f84_44 : decode cJx4a65c_grow_92f84 44 = .ok (.areturn, 1) := by decide +kernel
theorem dJx4a65c_grow_92f84_45 : decode cJx4a65c_grow_92f84 45 = .ok (.aload_n 0, 1) := by decide +kernel
theorem dJx4a65c_grow_92f84_46 : decode cJx4a65c_grow_92f84 46 = .ok (.bipush 10, 2) := by decide +kernel
theorem dJx4a65c_grow_92f84_48 : decode cJx4a65c_grow_92f84 48 = .ok (.iload_n 1, 1) := by decide +kernel
theorem dJx4a65c_grow_92f84_49 : decode cJx4a65c_grow_92f84 49 = .ok (.invokestatic 79, 3) := by decide +kernel
theorem dJx4a65c_grow_92f84_52 : decode cJx4a65c_grow_92f84 52 = .ok (.anewarray 7, 3) := by decide +kernel
theorem dJx4a65c_grow_92f84_55 : decode cJx4a65c_grow_92f84 55 = .ok (.dup_x1, 1) := by decide +kernel
theorem dJx4a65c_grow_92f84_56 : decode cJx4a65c_grow_92f84 56 = .ok (.putfield 9, 3) := by decide +kernel
theorem dJx4a65c_grow_92f84_59 : decode cJx4a65c_grow_92f84 59 = .ok (.areturn, 1) := by decide +kernel
set_option maxRecDepth 20000 in
theorem ggJx4a65c_grow_d5877_Jx4a65c_grow_92f84 : GoodIn wsJx4a65c_grow_d5877 wsJx4a65c_grow_92f84 := goodIn_r _ [6, 7, 8, 9, 10, 11, 12, 13, 14, 15, 16, 17, 18, 19, 20, 21, 22, 23, 24, 25, 26, 27, 28, 29, 30, 31, 32, 33, 34, 35, 36, 37, 38, 39, 40, 41, 42, 43, 44, 45] (by decide +kernel) (by decide +kernel)
set_option maxRecDepth 20000 in
theorem gJx4a65c_grow_d5877_Jx4a65c_grow_92f84 : GoodIn wsJx4a65c_grow_d5877 (wsV RJx4a65c 69 RJx4a65c yJx4a65c_grow_92f84 wsJx4a65c_grow_92f84) := goodIn_app (goodIn_of _ (by decide +kernel)) ggJx4a65c_grow_d5877_Jx4a65c_grow_92f84
theorem dJx4a65c_grow_d5877_0 : decode cJx4a65c_grow_d5877 0 = .ok (.aload_n 0, 1) := by decide +kernel
theorem dJx4a65c_grow_d5877_1 : decode cJx4a65c_grow_d5877 1 = .ok (.aload_n 0, 1) := by decide +kernel
theorem dJx4a65c_grow_d5877_2 : decode cJx4a65c_grow_d5877 2 = .ok (.getfield 48, 3) := by decide +kernel
theorem dJx4a65c_grow_d5877_5 : decode cJx4a65c_grow_d5877 5 = .ok (.iconst 1, 1) := by decide +kernel
theorem dJx4a65c_grow_d5877_6 : decode cJx4a65c_grow_d5877 6 = .ok (.iadd, 1) := by decide +kernel
theorem dJx4a65c_grow_d5877_7 : decode cJx4a65c_grow_d5877 7 = .ok (.invokevirtual 69, 3) := by decide +kernel
theorem dJx4a65c_grow_d5877_10 : decode cJx4a65c_grow_d5877 10 = .ok (.areturn, 1) := by decide +kernel
theorem dJx4a65c_size_8abf5_0 : decode cJx4a65c_size_8abf5 0 = .ok (.aload_n 0, 1) := by decide +kernel
theorem dJx4a65c_size_8abf5_1 : decode cJx4a65c_size_8abf5 1 = .ok (.getfield 48, 3) := by decide +kernel
theorem dJx4a65c_size_8abf5_4 : decode cJx4a65c_size_8abf5 4 = .ok (.ireturn, 1) := by decide +kernel
theorem dJx4a65c_elementData_915e3_0 : decode cJx4a65c_elementData_915e3 0 = .ok (.aload_n 0, 1) := by decide +kernel
theorem dJx4a65c_elementData_915e3_1 : decode cJx4a65c_elementData_915e3 1 = .ok (.getfield 9, 3) := by decide +kernel
theorem dJx4a65c_elementData_915e3_4 : decode cJx4a65c_elementData_915e3 4 = .ok (.iload_n 1, 1) := by decide +kernel
theorem dJx4a65c_elementData_915e3_5 : decode cJx4a65c_elementData_915e3 5 = .ok (.aaload, 1) := by decide +kernel
theorem dJx4a65c_elementData_915e3_6 : decode cJx4a65c_elementData_915e3 6 = .ok (.areturn, 1) := by decide +kernel
set_option maxRecDepth 20000 in
theorem ggJx4a65c_get_915e3_J15_checkIndex_7cf53 : GoodIn wsJx4a65c_get_915e3 wsJ15_checkIndex_7cf53 := goodIn_r _ [5, 6, 7, 8, 9] (by decide +kernel) (by decide +kernel)
set_option maxRecDepth 20000 in
theorem gJx4a65c_get_915e3_J15_checkIndex_7cf53 : GoodIn wsJx4a65c_get_915e3 (va_wsS RJx4a65c 118 yJ15_checkIndex_7cf53 wsJ15_checkIndex_7cf53) := goodIn_app (goodIn_of _ (by decide +kernel)) ggJx4a65c_get_915e3_J15_checkIndex_7cf53
set_option maxRecDepth 20000 in
theorem ggJx4a65c_get_915e3_Jx4a65c_elementData_915e3 : GoodIn wsJx4a65c_get_915e3 wsJx4a65c_elementData_915e3 := goodIn_r _ [14, 15, 16, 17, 18] (by decide +kernel) (by decide +kernel)
set_option maxRecDepth 20000 in
theorem gJx4a65c_get_915e3_Jx4a65c_elementData_915e3 : GoodIn wsJx4a65c_get_915e3 (wsV RJx4a65c 123 RJx4a65c yJx4a65c_elementData_915e3 wsJx4a65c_elementData_915e3) := goodIn_app (goodIn_of _ (by decide +kernel)) ggJx4a65c_get_915e3_Jx4a65c_elementData_915e3
theorem dJx4a65c_get_915e3_0 : decode cJx4a65c_get_915e3 0 = .ok (.iload_n 1, 1) := by decide +kernel
theorem dJx4a65c_get_915e3_1 : decode cJx4a65c_get_915e3 1 = .ok (.aload_n 0, 1) := by decide +kernel
theorem dJx4a65c_get_915e3_2 : decode cJx4a65c_get_915e3 2 = .ok (.getfield 48, 3) := by decide +kernel
theorem dJx4a65c_get_915e3_5 : decode cJx4a65c_get_915e3 5 = .ok (.invokestatic 118, 3) := by decide +kernel
theorem dJx4a65c_get_915e3_8 : decode cJx4a65c_get_915e3 8 = .ok (.pop, 1) := by decide +kernel
theorem dJx4a65c_get_915e3_9 : decode cJx4a65c_get_915e3 9 = .ok (.aload_n 0, 1) := by decide +kernel
theorem dJx4a65c_get_915e3_10 : decode cJx4a65c_get_915e3 10 = .ok (.iload_n 1, 1) := by decide +kernel
theorem dJx4a65c_get_915e3_11 : decode cJx4a65c_get_915e3 11 = .ok (.invokevirtual 123, 3) := by decide +kernel
theorem dJx4a65c_get_915e3_14 : decode cJx4a65c_get_915e3 14 = .ok (.areturn, 1) := by decide +kernel
set_option maxRecDepth 20000 in
theorem ggJx4a65c_add_72be8_Jx4a65c_grow_d5877 : GoodIn wsJx4a65c_add_72be8 wsJx4a65c_grow_d5877 := goodIn_r _ [6, 1, 7, 8, 9, 5, 10, 11, 12, 13, 14, 15, 16, 17, 18, 19, 20, 21, 22, 23, 24, 25, 26, 27, 28, 29, 30, 31, 32, 33, 34, 35, 36, 37, 38, 39, 40, 41, 42, 43, 44, 45, 46, 47, 48, 49] (by decide +kernel) (by decide +kernel)
set_option maxRecDepth 20000 in
theorem gJx4a65c_add_72be8_Jx4a65c_grow_d5877 : GoodIn wsJx4a65c_add_72be8 (wsV RJx4a65c 129 RJx4a65c yJx4a65c_grow_d5877 wsJx4a65c_grow_d5877) := goodIn_app (goodIn_of _ (by decide +kernel)) ggJx4a65c_add_72be8_Jx4a65c_grow_d5877
theorem dJx4a65c_add_72be8_0 : decode cJx4a65c_add_72be8 0 = .ok (.iload_n 3, 1) := by decide +kernel
theorem dJx4a65c_add_72be8_1 : decode cJx4a65c_add_72be8 1 = .ok (.aload_n 2, 1) := by decide +kernel
theorem dJx4a65c_add_72be8_2 : decode cJx4a65c_add_72be8 2 = .ok (.arraylength, 1) := by decide +kernel
theorem dJx4a65c_add_72be8_3 : decode cJx4a65c_add_72be8 3 = .ok (.if_icmp .ne 8, 3) := by decide +kernel
theorem dJx4a65c_add_72be8_6 : decode cJx4a65c_add_72be8 6 = .ok (.aload_n 0, 1) := by decide +kernel
theorem dJx4a65c_add_72be8_7 : decode cJx4a65c_add_72be8 7 = .ok (.invokevirtual 129, 3) := by decide +kernel
theorem dJx4a65c_add_72be8_10 : decode cJx4a65c_add_72be8 10 = .ok (.astore_n 2, 1) := by decide +kernel
theorem dJx4a65c_add_72be8_11 : decode cJx4a65c_add_72be8 11 = .ok (.aload_n 2, 1) := by decide +kernel
theorem dJx4a65c_add_72be8_12 : decode cJx4a65c_add_72be8 12 = .ok (.iload_n 3, 1) := by decide +kernel
theorem dJx4a65c_add_72be8_13 : decode cJx4a65c_add_72be8 13 = .ok (.aload_n 1, 1) := by decide +kernel
theorem dJx4a65c_add_72be8_14 : decode cJx4a65c_add_72be8 14 = .ok (.aastore, 1) := by decide +kernel
theorem dJx4a65c_add_72be8_15 : decode cJx4a65c_add_72be8 15 = .ok (.aload_n 0, 1) := by decide +kernel
theorem dJx4a65c_add_72be8_16 : decode cJx4a65c_add_72be8 16 = .ok (.iload_n 3, 1) := by decide +kernel
theorem dJx4a65c_add_72be8_17 : decode cJx4a65c_add_72be8 17 = .ok (.iconst 1, 1) := by decide +kernel
theorem dJx4a65c_add_72be8_18 : decode cJx4a65c_add_72be8 18 = .ok (.iadd, 1) := by decide +kernel
theorem dJx4a65c_add_72be8_19 : decode cJx4a65c_add_72be8 19 = .ok (.putfield 48, 3) := by decide +kernel
theorem dJx4a65c_add_72be8_22 : decode cJx4a65c_add_72be8 22 = .ok (.return_, 1) := by decide +kernel
set_option maxRecDepth 20000 in
theorem ggJx4a65c_add_9ea2d_Jx4a65c_add_72be8 : GoodIn wsJx4a65c_add_9ea2d wsJx4a65c_add_72be8 := goodIn_r _ [9, 4, 10, 11, 12, 8, 13, 14, 15, 16, 17, 3, 18, 19, 20, 21, 22, 23, 24, 25, 26, 27, 28, 29, 30, 31, 32, 33, 34, 35, 36, 37, 38, 39, 40, 41, 42, 43, 44, 45, 46, 47, 48, 49, 50, 51, 52, 53, 54, 55] (by decide +kernel) (by decide +kernel)
set_option maxRecDepth 20000 in
theorem gJx4a65c_add_9ea2d_Jx4a65c_add_72be8 : GoodIn wsJx4a65c_add_9ea2d (wsV RJx4a65c 131 RJx4a65c yJx4a65c_add_72be8 wsJx4a65c_add_72be8) := goodIn_app (goodIn_of _ (by decide +kernel)) ggJx4a65c_add_9ea2d_Jx4a65c_add_72be8
theorem dJx4a65c_add_9ea2d_0 : decode cJx4a65c_add_9ea2d 0 = .ok (.aload_n 0, 1) := by decide +kernel
