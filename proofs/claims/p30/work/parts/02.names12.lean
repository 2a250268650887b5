theorem dX1_setMind_17 : decode cX1_setMind 17 = .ok (.iconst 0, 1) := by decide +kernel
theorem dX1_setMind_18 : decode cX1_setMind 18 = .ok (.istore 4, 2) := by decide +kernel
theorem dX1_setMind_20 : decode cX1_setMind 20 = .ok (.iload 4, 2) := by decide +kernel
theorem dX1_setMind_22 : decode cX1_setMind 22 = .ok (.aload_n 0, 1) := by decide +kernel
theorem dX1_setMind_23 : decode cX1_setMind 23 = .ok (.getfield 22, 3) := by decide +kernel
theorem dX1_setMind_26 : decode cX1_setMind 26 = .ok (.arraylength, 1) := by decide +kernel
theorem dX1_setMind_27 : decode cX1_setMind 27 = .ok (.if_icmp .ge 27, 3) := by decide +kernel
theorem dX1_setMind_30 : decode cX1_setMind 30 = .ok (.iload_n 3, 1) := by decide +kernel
theorem dX1_setMind_31 : decode cX1_setMind 31 = .ok (.aload_n 0, 1) := by decide +kernel
theorem dX1_setMind_32 : decode cX1_setMind 32 = .ok (.getfield 22, 3) := by decide +kernel
theorem dX1_setMind_35 : decode cX1_setMind 35 = .ok (.iload 4, 2) := by decide +kernel
theorem dX1_setMind_37 : decode cX1_setMind 37 = .ok (.baload, 1) := by decide +kernel
theorem dX1_setMind_38 : decode cX1_setMind 38 = .ok (.ifCond .eq 7, 3) := by decide +kernel
theorem dX1_setMind_41 : decode cX1_setMind 41 = .ok (.iconst 1, 1) := by decide +kernel
theorem dX1_setMind_42 : decode cX1_setMind 42 = .ok (.goto 4, 3) := by decide +kernel
theorem dX1_setMind_45 : decode cX1_setMind 45 = .ok (.iconst 0, 1) := by decide +kernel
theorem dX1_setMind_46 : decode cX1_setMind 46 = .ok (.iadd, 1) := by decide +kernel
theorem dX1_setMind_47 : decode cX1_setMind 47 = .ok (.istore_n 3, 1) := by decide +kernel
theorem dX1_setMind_48 : decode cX1_setMind 48 = .ok (.iinc 4 1, 3) := by decide +kernel
theorem dX1_setMind_51 : decode cX1_setMind 51 = .ok (.goto (-31), 3) := by decide +kernel
theorem dX1_setMind_54 : decode cX1_setMind 54 = .ok (.aload_n 0, 1) := by decide +kernel
theorem dX1_setMind_55 : decode cX1_setMind 55 = .ok (.aload_n 0, 1) := by decide +kernel
theorem dX1_setMind_56 : decode cX1_setMind 56 = .ok (.getfield 26, 3) := by decide +kernel
theorem dX1_setMind_59 : decode cX1_setMind 59 = .ok (.ifCond .ne 8, 3) := by decide +kernel
theorem dX1_setMind_62 : decode cX1_setMind 62 = .ok (.iload_n 3, 1) := by decide +kernel
theorem dX1_setMind_63 : decode cX1_setMind 63 = .ok (.iconst 3, 1) := by decide +kernel
theorem dX1_setMind_64 : decode cX1_setMind 64 = .ok (.if_icmp .lt 7, 3) := by decide +kernel
theorem dX1_setMind_67 : decode cX1_setMind 67 = .ok (.iconst 1, 1) := by decide +kernel
theorem dX1_setMind_68 : decode cX1_setMind 68 = .ok (.goto 4, 3) := by decide +kernel
theorem dX1_setMind_71 : decode cX1_setMind 71 = .ok (.iconst 0, 1) := by decide +kernel
theorem dX1_setMind_72 : decode cX1_setMind 72 = .ok (.putfield 26, 3) := by decide +kernel
theorem dX1_setMind_75 : decode cX1_setMind 75 = .ok (.return_, 1) := by decide +kernel
theorem dX2_init_0 : decode cX2_init 0 = .ok (.aload_n 0, 1) := by decide +kernel
theorem dX2_init_1 : decode cX2_init 1 = .ok (.invokespecial 1, 3) := by decide +kernel
theorem dX2_init_4 : decode cX2_init 4 = .ok (.aload_n 0, 1) := by decide +kernel
theorem dX2_init_5 : decode cX2_init 5 = .ok (.iload_n 1, 1) := by decide +kernel
theorem dX2_init_6 : decode cX2_init 6 = .ok (.putfield 7, 3) := by decide +kernel
theorem dX2_init_9 : decode cX2_init 9 = .ok (.aload_n 0, 1) := by decide +kernel
theorem dX2_init_10 : decode cX2_init 10 = .ok (.iload_n 2, 1) := by decide +kernel
theorem dX2_init_11 : decode cX2_init 11 = .ok (.putfield 13, 3) := by decide +kernel
theorem dX2_init_14 : decode cX2_init 14 = .ok (.return_, 1) := by decide +kernel
set_option maxRecDepth 20000 in
theorem ggX3_init_J7_fill_53178 : GoodIn wsX3_init wsJ7_fill_53178 := goodIn_r _ [10] (by decide +kernel) (by decide +kernel)
set_option maxRecDepth 20000 in
theorem gX3_init_J7_fill_53178 : GoodIn wsX3_init (va_wsS RX3 19 yJ7_fill_53178 wsJ7_fill_53178) := goodIn_app (goodIn_of _ (by decide +kernel)) ggX3_init_J7_fill_53178
theorem dX3_init_0 : decode cX3_init 0 = .ok (.aload_n 0, 1) := by decide +kernel
theorem dX3_init_1 : decode cX3_init 1 = .ok (.invokespecial 3, 3) := by decide +kernel
theorem dX3_init_4 : decode cX3_init 4 = .ok (.aload_n 0, 1) := by decide +kernel
theorem dX3_init_5 : decode cX3_init 5 = .ok (.bipush 30, 2) := by decide +kernel
theorem dX3_init_7 : decode cX3_init 7 = .ok (.newarray .int, 2) := by decide +kernel
theorem dX3_init_9 : decode cX3_init 9 = .ok (.putfield 9, 3) := by decide +kernel
theorem dX3_init_12 : decode cX3_init 12 = .ok (.aload_n 0, 1) := by decide +kernel
theorem dX3_init_13 : decode cX3_init 13 = .ok (.iload_n 1, 1) := by decide +kernel
theorem dX3_init_14 : decode cX3_init 14 = .ok (.putfield 15, 3) := by decide +kernel
theorem dX3_init_17 : decode cX3_init 17 = .ok (.aload_n 0, 1) := by decide +kernel
theorem dX3_init_18 : decode cX3_init 18 = .ok (.getfield 9, 3) := by decide +kernel
theorem dX3_init_21 : decode cX3_init 21 = .ok (.iconst (-1), 1) := by decide +kernel
theorem dX3_init_22 : decode cX3_init 22 = .ok (.invokestatic 19, 3) := by decide +kernel
theorem dX3_init_25 : decode cX3_init 25 = .ok (.return_, 1) := by decide +kernel
set_option maxRecDepth 20000 in
theorem ggX3_lightAt_X3_isHeld : GoodIn wsX3_lightAt wsX3_isHeld := goodIn_r _ [6, 7, 8, 9] (by decide +kernel) (by decide +kernel)
set_option maxRecDepth 20000 in
theorem gX3_lightAt_X3_isHeld : GoodIn wsX3_lightAt (wsV RX3 25 RX3 yX3_isHeld wsX3_isHeld) := goodIn_app (goodIn_of _ (by decide +kernel)) ggX3_lightAt_X3_isHeld
theorem dX3_lightAt_0 : decode cX3_lightAt 0 = .ok (.aload_n 0, 1) := by decide +kernel
theorem dX3_lightAt_1 : decode cX3_lightAt 1 = .ok (.iload_n 1, 1) := by decide +kernel
theorem dX3_lightAt_2 : decode cX3_lightAt 2 = .ok (.iload_n 2, 1) := by decide +kernel
theorem dX3_lightAt_3 : decode cX3_lightAt 3 = .ok (.invokevirtual 25, 3) := by decide +kernel
theorem dX3_lightAt_6 : decode cX3_lightAt 6 = .ok (.ifCond .eq 17, 3) := by decide +kernel
theorem dX3_lightAt_9 : decode cX3_lightAt 9 = .ok (.aload_n 0, 1) := by decide +kernel
theorem dX3_lightAt_10 : decode cX3_lightAt 10 = .ok (.getfield 9, 3) := by decide +kernel
theorem dX3_lightAt_13 : decode cX3_lightAt 13 = .ok (.iload_n 1, 1) := by decide +kernel
theorem dX3_lightAt_14 : decode cX3_lightAt 14 = .ok (.bipush 6, 2) := by decide +kernel
theorem dX3_lightAt_16 : decode cX3_lightAt 16 = .ok (.imul, 1) := by decide +kernel
theorem dX3_lightAt_17 : decode cX3_lightAt 17 = .ok (.iload_n 2, 1) := by decide +kernel
theorem dX3_lightAt_18 : decode cX3_lightAt 18 = .ok (.iadd, 1) := by decide +kernel
theorem dX3_lightAt_19 : decode cX3_lightAt 19 = .ok (.iaload, 1) := by decide +kernel
theorem dX3_lightAt_20 : decode cX3_lightAt 20 = .ok (.goto 4, 3) := by decide +kernel
theorem dX3_lightAt_23 : decode cX3_lightAt 23 = .ok (.iconst (-1), 1) := by decide +kernel
theorem dX3_lightAt_24 : decode cX3_lightAt 24 = .ok (.ireturn, 1) := by decide +kernel
set_option maxRecDepth 20000 in
theorem ggX3_setLight_X3_isHeld : GoodIn wsX3_setLight wsX3_isHeld := goodIn_r _ [6, 7, 8, 9] (by decide +kernel) (by decide +kernel)
set_option maxRecDepth 20000 in
theorem gX3_setLight_X3_isHeld : GoodIn wsX3_setLight (wsV RX3 25 RX3 yX3_isHeld wsX3_isHeld) := goodIn_app (goodIn_of _ (by decide +kernel)) ggX3_setLight_X3_isHeld
theorem dX3_setLight_0 : decode cX3_setLight 0 = .ok (.aload_n 0, 1) := by decide +kernel
theorem dX3_setLight_1 : decode cX3_setLight 1 = .ok (.iload_n 1, 1) := by decide +kernel
theorem dX3_setLight_2 : decode cX3_setLight 2 = .ok (.iload_n 2, 1) := by decide +kernel
theorem dX3_setLight_3 : decode cX3_setLight 3 = .ok (.invokevirtual 25, 3) := by decide +kernel
theorem dX3_setLight_6 : decode cX3_setLight 6 = .ok (.ifCond .eq 15, 3) := by decide +kernel
theorem dX3_setLight_9 : decode cX3_setLight 9 = .ok (.aload_n 0, 1) := by decide +kernel
theorem dX3_setLight_10 : decode cX3_setLight 10 = .ok (.getfield 9, 3) := by decide +kernel
theorem dX3_setLight_13 : decode cX3_setLight 13 = .ok (.iload_n 1, 1) := by decide +kernel
theorem dX3_setLight_14 : decode cX3_setLight 14 = .ok (.bipush 6, 2) := by decide +kernel
theorem dX3_setLight_16 : decode cX3_setLight 16 = .ok (.imul, 1) := by decide +kernel
theorem dX3_setLight_17 : decode cX3_setLight 17 = .ok (.iload_n 2, 1) := by decide +kernel
theorem dX3_setLight_18 : decode cX3_setLight 18 = .ok (.iadd, 1) := by decide +kernel
theorem dX3_setLight_19 : decode cX3_setLight 19 = .ok (.iload_n 3, 1) := by decide +kernel
theorem dX3_setLight_20 : decode cX3_setLight 20 = .ok (.iastore, 1) := by decide +kernel
theorem dX3_setLight_21 : decode cX3_setLight 21 = .ok (.return_, 1) := by decide +kernel
set_option maxRecDepth 20000 in
theorem ggX3_isHeld_X8_isWithin : GoodIn wsX3_isHeld wsX8_isWithin := goodIn_r _ [3] (by decide +kernel) (by decide +kernel)
set_option maxRecDepth 20000 in
theorem gX3_isHeld_X8_isWithin_n29 : GoodIn wsX3_isHeld (wsX8_isWithin) := ggX3_isHeld_X8_isWithin
theorem dX3_isHeld_0 : decode cX3_isHeld 0 = .ok (.iload_n 1, 1) := by decide +kernel
theorem dX3_isHeld_1 : decode cX3_isHeld 1 = .ok (.iconst 0, 1) := by decide +kernel
theorem dX3_isHeld_2 : decode cX3_isHeld 2 = .ok (.iconst 4, 1) := by decide +kernel
theorem dX3_isHeld_3 : decode cX3_isHeld 3 = .ok (.invokestatic 29, 3) := by decide +kernel
theorem dX3_isHeld_6 : decode cX3_isHeld 6 = .ok (.ifCond .eq 16, 3) := by decide +kernel
theorem dX3_isHeld_9 : decode cX3_isHeld 9 = .ok (.iload_n 2, 1) := by decide +kernel
theorem dX3_isHeld_10 : decode cX3_isHeld 10 = .ok (.iconst 0, 1) := by decide +kernel
theorem dX3_isHeld_11 : decode cX3_isHeld 11 = .ok (.iconst 5, 1) := by decide +kernel
theorem dX3_isHeld_12 : decode cX3_isHeld 12 = .ok (.invokestatic 29, 3) := by decide +kernel
theorem dX3_isHeld_15 : decode cX3_isHeld 15 = .ok (.ifCond .eq 7, 3) := by decide +kernel
theorem dX3_isHeld_18 : decode cX3_isHeld 18 = .ok (.iconst 1, 1) := by decide +kernel
theorem dX3_isHeld_19 : decode cX3_isHeld 19 = .ok (.goto 4, 3) := by decide +kernel
theorem dX3_isHeld_22 : decode cX3_isHeld 22 = .ok (.iconst 0, 1) := by decide +kernel
theorem dX3_isHeld_23 : decode cX3_isHeld 23 = .ok (.ireturn, 1) := by decide +kernel
theorem dX4_init_0 : decode cX4_init 0 = .ok (.aload_n 0, 1) := by decide +kernel
theorem dX4_init_1 : decode cX4_init 1 = .ok (.invokespecial 3, 3) := by decide +kernel
theorem dX4_init_4 : decode cX4_init 4 = .ok (.aload_n 0, 1) := by decide +kernel
theorem dX4_init_5 : decode cX4_init 5 = .ok (.iload_n 1, 1) := by decide +kernel
theorem dX4_init_6 : decode cX4_init 6 = .ok (.putfield 9, 3) := by decide +kernel
theorem dX4_init_9 : decode cX4_init 9 = .ok (.aload_n 0, 1) := by decide +kernel
theorem dX4_init_10 : decode cX4_init 10 = .ok (.iload_n 2, 1) := by decide +kernel
theorem dX4_init_11 : decode cX4_init 11 = .ok (.putfield 15, 3) := by decide +kernel
theorem dX4_init_14 : decode cX4_init 14 = .ok (.aload_n 0, 1) := by decide +kernel
theorem dX4_init_15 : decode cX4_init 15 = .ok (.iload_n 3, 1) := by decide +kernel
theorem dX4_init_16 : decode cX4_init 16 = .ok (.putfield 18, 3) := by decide +kernel
theorem dX4_init_19 : decode cX4_init 19 = .ok (.aload_n 0, 1) := by decide +kernel
theorem dX4_init_20 : decode cX4_init 20 = .ok (.iload 4, 2) := by decide +kernel
theorem dX4_init_22 : decode cX4_init 22 = .ok (.putfield 21, 3) := by decide +kernel
theorem dX4_init_25 : decode cX4_init 25 = .ok (.return_, 1) := by decide +kernel
theorem dX4_isWhole_0 : decode cX4_isWhole 0 = .ok (.aload_n 0, 1) := by decide +kernel
theorem dX4_isWhole_1 : decode cX4_isWhole 1 = .ok (.getfield 21, 3) := by decide +kernel
theorem dX4_isWhole_4 : decode cX4_isWhole 4 = .ok (.iconst 1, 1) := by decide +kernel
theorem dX4_isWhole_5 : decode cX4_isWhole 5 = .ok (.if_icmp .gt 7, 3) := by decide +kernel
theorem dX4_isWhole_8 : decode cX4_isWhole 8 = .ok (.iconst 1, 1) := by decide +kernel
theorem dX4_isWhole_9 : decode cX4_isWhole 9 = .ok (.goto 4, 3) := by decide +kernel
theorem dX4_isWhole_12 : decode cX4_isWhole 12 = .ok (.iconst 0, 1) := by decide +kernel
theorem dX4_isWhole_13 : decode cX4_isWhole 13 = .ok (.ireturn, 1) := by decide +kernel
set_option maxRecDepth 20000 in
theorem ggX4_split_X4_init : GoodIn wsX4_split wsX4_init := goodIn_r _ [12, 13, 14, 15, 9, 16, 17, 1, 18, 19, 20, 21] (by decide +kernel) (by decide +kernel)
set_option maxRecDepth 20000 in
theorem gX4_split_X4_init : GoodIn wsX4_split (wsX4_init) := ggX4_split_X4_init
theorem dX4_split_0 : decode cX4_split 0 = .ok (.aload_n 0, 1) := by decide +kernel
theorem dX4_split_1 : decode cX4_split 1 = .ok (.getfield 21, 3) := by decide +kernel
theorem dX4_split_4 : decode cX4_split 4 = .ok (.iconst 2, 1) := by decide +kernel
theorem dX4_split_5 : decode cX4_split 5 = .ok (.idiv, 1) := by decide +kernel
theorem dX4_split_6 : decode cX4_split 6 = .ok (.iconst 1, 1) := by decide +kernel
theorem dX4_split_7 : decode cX4_split 7 = .ok (.invokestatic 24, 3) := by decide +kernel
theorem dX4_split_10 : decode cX4_split 10 = .ok (.istore_n 3, 1) := by decide +kernel
theorem dX4_split_11 : decode cX4_split 11 = .ok (.new 10, 3) := by decide +kernel
theorem dX4_split_14 : decode cX4_split 14 = .ok (.dup, 1) := by decide +kernel
theorem dX4_split_15 : decode cX4_split 15 = .ok (.aload_n 0, 1) := by decide +kernel
theorem dX4_split_16 : decode cX4_split 16 = .ok (.getfield 9, 3) := by decide +kernel
theorem dX4_split_19 : decode cX4_split 19 = .ok (.iload_n 1, 1) := by decide +kernel
theorem dX4_split_20 : decode cX4_split 20 = .ok (.iload_n 2, 1) := by decide +kernel
theorem dX4_split_21 : decode cX4_split 21 = .ok (.aload_n 0, 1) := by decide +kernel
theorem dX4_split_22 : decode cX4_split 22 = .ok (.getfield 21, 3) := by decide +kernel
theorem dX4_split_25 : decode cX4_split 25 = .ok (.iload_n 3, 1) := by decide +kernel
theorem dX4_split_26 : decode cX4_split 26 = .ok (.isub, 1) := by decide +kernel
theorem dX4_split_27 : decode cX4_split 27 = .ok (.invokespecial 30, 3) := by decide +kernel
theorem dX4_split_30 : decode cX4_split 30 = .ok (.astore 4, 2) := by decide +kernel
theorem dX4_split_32 : decode cX4_split 32 = .ok (.aload_n 0, 1) := by decide +kernel
theorem dX4_split_33 : decode cX4_split 33 = .ok (.iload_n 3, 1) := by decide +kernel
theorem dX4_split_34 : decode cX4_split 34 = .ok (.putfield 21, 3) := by decide +kernel
theorem dX4_split_37 : decode cX4_split 37 = .ok (.aload 4, 2) := by decide +kernel
theorem dX4_split_39 : decode cX4_split 39 = .ok (.areturn, 1) := by decide +kernel
theorem dX4_aside_0 : decode cX4_aside 0 = .ok (.iload_n 1, 1) := by decide +kernel
theorem dX4_aside_1 : decode cX4_aside 1 = .ok (.aload_n 0, 1) := by decide +kernel
theorem dX4_aside_2 : decode cX4_aside 2 = .ok (.getfield 15, 3) := by decide +kernel
theorem dX4_aside_5 : decode cX4_aside 5 = .ok (.isub, 1) := by decide +kernel
theorem dX4_aside_6 : decode cX4_aside 6 = .ok (.invokestatic 33, 3) := by decide +kernel
theorem dX4_aside_9 : decode cX4_aside 9 = .ok (.iload_n 2, 1) := by decide +kernel
theorem dX4_aside_10 : decode cX4_aside 10 = .ok (.aload_n 0, 1) := by decide +kernel
theorem dX4_aside_11 : decode cX4_aside 11 = .ok (.getfield 18, 3) := by decide +kernel
theorem dX4_aside_14 : decode cX4_aside 14 = .ok (.isub, 1) := by decide +kernel
theorem dX4_aside_15 : decode cX4_aside 15 = .ok (.invokestatic 33, 3) := by decide +kernel
theorem dX4_aside_18 : decode cX4_aside 18 = .ok (.iadd, 1) := by decide +kernel
theorem dX4_aside_19 : decode cX4_aside 19 = .ok (.ireturn, 1) := by decide +kernel
set_option maxRecDepth 20000 in
theorem ggX4_bendInColumns_X4_aside : GoodIn wsX4_bendInColumns wsX4_aside := goodIn_r _ [6, 1, 7, 8, 9, 10, 11, 18, 19, 20, 21] (by decide +kernel) (by decide +kernel)
set_option maxRecDepth 20000 in
theorem gX4_bendInColumns_X4_aside : GoodIn wsX4_bendInColumns (wsV RX4 37 RX4 yX4_aside wsX4_aside) := goodIn_app (goodIn_of _ (by decide +kernel)) ggX4_bendInColumns_X4_aside
set_option maxRecDepth 20000 in
theorem ggX4_bendInColumns_X4_bend : GoodIn wsX4_bendInColumns wsX4_bend := goodIn_r _ [15, 16, 17, 18, 19, 20, 21] (by decide +kernel) (by decide +kernel)
set_option maxRecDepth 20000 in
theorem gX4_bendInColumns_X4_bend : GoodIn wsX4_bendInColumns (wsV RX4 40 RX4 yX4_bend wsX4_bend) := goodIn_app (goodIn_of _ (by decide +kernel)) ggX4_bendInColumns_X4_bend
theorem dX4_bendInColumns_0 : decode cX4_bendInColumns 0 = .ok (.aload_n 0, 1) := by decide +kernel
theorem dX4_bendInColumns_1 : decode cX4_bendInColumns 1 = .ok (.iload_n 1, 1) := by decide +kernel
theorem dX4_bendInColumns_2 : decode cX4_bendInColumns 2 = .ok (.aload_n 0, 1) := by decide +kernel
theorem dX4_bendInColumns_3 : decode cX4_bendInColumns 3 = .ok (.getfield 15, 3) := by decide +kernel
theorem dX4_bendInColumns_6 : decode cX4_bendInColumns 6 = .ok (.isub, 1) := by decide +kernel
theorem dX4_bendInColumns_7 : decode cX4_bendInColumns 7 = .ok (.aload_n 0, 1) := by decide +kernel
theorem dX4_bendInColumns_8 : decode cX4_bendInColumns 8 = .ok (.iload_n 1, 1) := by decide +kernel
theorem dX4_bendInColumns_9 : decode cX4_bendInColumns 9 = .ok (.iload_n 2, 1) := by decide +kernel
theorem dX4_bendInColumns_10 : decode cX4_bendInColumns 10 = .ok (.invokevirtual 37, 3) := by decide +kernel
theorem dX4_bendInColumns_13 : decode cX4_bendInColumns 13 = .ok (.invokevirtual 40, 3) := by decide +kernel
theorem dX4_bendInColumns_16 : decode cX4_bendInColumns 16 = .ok (.ireturn, 1) := by decide +kernel
set_option maxRecDepth 20000 in
theorem ggX4_bendInRows_X4_aside : GoodIn wsX4_bendInRows wsX4_aside := goodIn_r _ [7, 8, 9, 10, 11, 12, 1, 18, 19, 20, 21] (by decide +kernel) (by decide +kernel)
set_option maxRecDepth 20000 in
theorem gX4_bendInRows_X4_aside : GoodIn wsX4_bendInRows (wsV RX4 37 RX4 yX4_aside wsX4_aside) := goodIn_app (goodIn_of _ (by decide +kernel)) ggX4_bendInRows_X4_aside
set_option maxRecDepth 20000 in
theorem ggX4_bendInRows_X4_bend : GoodIn wsX4_bendInRows wsX4_bend := goodIn_r _ [16, 2, 17, 18, 19, 20, 21] (by decide +kernel) (by decide +kernel)
set_option maxRecDepth 20000 in
theorem gX4_bendInRows_X4_bend : GoodIn wsX4_bendInRows (wsV RX4 40 RX4 yX4_bend wsX4_bend) := goodIn_app (goodIn_of _ (by decide +kernel)) ggX4_bendInRows_X4_bend
theorem dX4_bendInRows_0 : decode cX4_bendInRows 0 = .ok (.aload_n 0, 1) := by decide +kernel
theorem dX4_bendInRows_1 : decode cX4_bendInRows 1 = .ok (.iload_n 2, 1) := by decide +kernel
theorem dX4_bendInRows_2 : decode cX4_bendInRows 2 = .ok (.aload_n 0, 1) := by decide +kernel
theorem dX4_bendInRows_3 : decode cX4_bendInRows 3 = .ok (.getfield 18, 3) := by decide +kernel
theorem dX4_bendInRows_6 : decode cX4_bendInRows 6 = .ok (.isub, 1) := by decide +kernel
theorem dX4_bendInRows_7 : decode cX4_bendInRows 7 = .ok (.aload_n 0, 1) := by decide +kernel
theorem dX4_bendInRows_8 : decode cX4_bendInRows 8 = .ok (.iload_n 1, 1) := by decide +kernel
theorem dX4_bendInRows_9 : decode cX4_bendInRows 9 = .ok (.iload_n 2, 1) := by decide +kernel
theorem dX4_bendInRows_10 : decode cX4_bendInRows 10 = .ok (.invokevirtual 37, 3) := by decide +kernel
theorem dX4_bendInRows_13 : decode cX4_bendInRows 13 = .ok (.invokevirtual 40, 3) := by decide +kernel
theorem dX4_bendInRows_16 : decode cX4_bendInRows 16 = .ok (.istore_n 3, 1) := by decide +kernel
theorem dX4_bendInRows_17 : decode cX4_bendInRows 17 = .ok (.aload_n 0, 1) := by decide +kernel
theorem dX4_bendInRows_18 : decode cX4_bendInRows 18 = .ok (.getfield 9, 3) := by decide +kernel
theorem dX4_bendInRows_21 : decode cX4_bendInRows 21 = .ok (.iconst 2, 1) := by decide +kernel
theorem dX4_bendInRows_22 : decode cX4_bendInRows 22 = .ok (.if_icmp .ne 8, 3) := by decide +kernel
theorem dX4_bendInRows_25 : decode cX4_bendInRows 25 = .ok (.iload_n 3, 1) := by decide +kernel
theorem dX4_bendInRows_26 : decode cX4_bendInRows 26 = .ok (.ineg, 1) := by decide +kernel
theorem dX4_bendInRows_27 : decode cX4_bendInRows 27 = .ok (.goto 4, 3) := by decide +kernel
theorem dX4_bendInRows_30 : decode cX4_bendInRows 30 = .ok (.iload_n 3, 1) := by decide +kernel
theorem dX4_bendInRows_31 : decode cX4_bendInRows 31 = .ok (.ireturn, 1) := by decide +kernel
theorem dX4_bend_0 : decode cX4_bend 0 = .ok (.iload_n 2, 1) := by decide +kernel
theorem dX4_bend_1 : decode cX4_bend 1 = .ok (.ifCond .ne 5, 3) := by decide +kernel
theorem dX4_bend_4 : decode cX4_bend 4 = .ok (.iconst 0, 1) := by decide +kernel
theorem dX4_bend_5 : decode cX4_bend 5 = .ok (.ireturn, 1) := by decide +kernel
theorem dX4_bend_6 : decode cX4_bend 6 = .ok (.aload_n 0, 1) := by decide +kernel
theorem dX4_bend_7 : decode cX4_bend 7 = .ok (.getfield 9, 3) := by decide +kernel
theorem dX4_bend_10 : decode cX4_bend 10 = .ok (.lookupswitch 48 #[(0, 26), (1, 35)], 26) := by decide +kernel
theorem dX4_bend_36 : decode cX4_bend 36 = .ok (.aload_n 0, 1) := by decide +kernel
theorem dX4_bend_37 : decode cX4_bend 37 = .ok (.getfield 21, 3) := by decide +kernel
theorem dX4_bend_40 : decode cX4_bend 40 = .ok (.iload_n 1, 1) := by decide +kernel
theorem dX4_bend_41 : decode cX4_bend 41 = .ok (.imul, 1) := by decide +kernel
theorem dX4_bend_42 : decode cX4_bend 42 = .ok (.iload_n 2, 1) := by decide +kernel
theorem dX4_bend_43 : decode cX4_bend 43 = .ok (.idiv, 1) := by decide +kernel
theorem dX4_bend_44 : decode cX4_bend 44 = .ok (.ireturn, 1) := by decide +kernel
theorem dX4_bend_45 : decode cX4_bend 45 = .ok (.iconst 4, 1) := by decide +kernel
theorem dX4_bend_46 : decode cX4_bend 46 = .ok (.aload_n 0, 1) := by decide +kernel
theorem dX4_bend_47 : decode cX4_bend 47 = .ok (.getfield 21, 3) := by decide +kernel
theorem dX4_bend_50 : decode cX4_bend 50 = .ok (.imul, 1) := by decide +kernel
theorem dX4_bend_51 : decode cX4_bend 51 = .ok (.iload_n 1, 1) := by decide +kernel
theorem dX4_bend_52 : decode cX4_bend 52 = .ok (.imul, 1) := by decide +kernel
theorem dX4_bend_53 : decode cX4_bend 53 = .ok (.iload_n 2, 1) := by decide +kernel
theorem dX4_bend_54 : decode cX4_bend 54 = .ok (.iload_n 2, 1) := by decide +kernel
theorem dX4_bend_55 : decode cX4_bend 55 = .ok (.imul, 1) := by decide +kernel
theorem dX4_bend_56 : decode cX4_bend 56 = .ok (.idiv, 1) := by decide +kernel
theorem dX4_bend_57 : decode cX4_bend 57 = .ok (.ireturn, 1) := by decide +kernel
theorem dX4_bend_58 : decode cX4_bend 58 = .ok (.aload_n 0, 1) := by decide +kernel
theorem dX4_bend_59 : decode cX4_bend 59 = .ok (.getfield 21, 3) := by decide +kernel
theorem dX4_bend_62 : decode cX4_bend 62 = .ok (.iload_n 1, 1) := by decide +kernel
theorem dX4_bend_63 : decode cX4_bend 63 = .ok (.imul, 1) := by decide +kernel
theorem dX4_bend_64 : decode cX4_bend 64 = .ok (.bipush 8, 2) := by decide +kernel
theorem dX4_bend_66 : decode cX4_bend 66 = .ok (.idiv, 1) := by decide +kernel
theorem dX4_bend_67 : decode cX4_bend 67 = .ok (.ireturn, 1) := by decide +kernel
set_option maxRecDepth 20000 in
theorem ggX4_shortens_X4_aside : GoodIn wsX4_shortens wsX4_aside := goodIn_r _ [7, 8, 9, 10, 11, 12, 13, 14, 15, 16, 17] (by decide +kernel) (by decide +kernel)
set_option maxRecDepth 20000 in
theorem gX4_shortens_X4_aside : GoodIn wsX4_shortens (wsV RX4 37 RX4 yX4_aside wsX4_aside) := goodIn_app (goodIn_of _ (by decide +kernel)) ggX4_shortens_X4_aside
theorem dX4_shortens_0 : decode cX4_shortens 0 = .ok (.aload_n 0, 1) := by decide +kernel
theorem dX4_shortens_1 : decode cX4_shortens 1 = .ok (.getfield 9, 3) := by decide +kernel
theorem dX4_shortens_4 : decode cX4_shortens 4 = .ok (.iconst 2, 1) := by decide +kernel
theorem dX4_shortens_5 : decode cX4_shortens 5 = .ok (.if_icmp .ne 7, 3) := by decide +kernel
theorem dX4_shortens_8 : decode cX4_shortens 8 = .ok (.iconst 0, 1) := by decide +kernel
theorem dX4_shortens_9 : decode cX4_shortens 9 = .ok (.goto 16, 3) := by decide +kernel
theorem dX4_shortens_12 : decode cX4_shortens 12 = .ok (.iconst 2, 1) := by decide +kernel
theorem dX4_shortens_13 : decode cX4_shortens 13 = .ok (.aload_n 0, 1) := by decide +kernel
theorem dX4_shortens_14 : decode cX4_shortens 14 = .ok (.getfield 21, 3) := by decide +kernel
theorem dX4_shortens_17 : decode cX4_shortens 17 = .ok (.imul, 1) := by decide +kernel
theorem dX4_shortens_18 : decode cX4_shortens 18 = .ok (.aload_n 0, 1) := by decide +kernel
theorem dX4_shortens_19 : decode cX4_shortens 19 = .ok (.iload_n 1, 1) := by decide +kernel
theorem dX4_shortens_20 : decode cX4_shortens 20 = .ok (.iload_n 2, 1) := by decide +kernel
theorem dX4_shortens_21 : decode cX4_shortens 21 = .ok (.invokevirtual 37, 3) := by decide +kernel
theorem dX4_shortens_24 : decode cX4_shortens 24 = .ok (.imul, 1) := by decide +kernel
theorem dX4_shortens_25 : decode cX4_shortens 25 = .ok (.ireturn, 1) := by decide +kernel
set_option maxRecDepth 20000 in
theorem ggX5_init_Jx4a65c_init_da8c8 : GoodIn wsX5_init wsJx4a65c_init_da8c8 := goodIn_r _ [14, 15, 16, 17, 18, 19, 20, 21, 22, 23, 24, 25, 26, 2, 3, 101, 102, 103] (by decide +kernel) (by decide +kernel)
set_option maxRecDepth 20000 in
theorem gX5_init_Jx4a65c_init_da8c8 : GoodIn wsX5_init (wsJx4a65c_init_da8c8) := ggX5_init_Jx4a65c_init_da8c8
set_option maxRecDepth 20000 in
theorem ggX5_init_X5_shootAll : GoodIn wsX5_init wsX5_shootAll := goodIn_r _ [31, 9, 10, 11, 32, 33, 30, 34, 35, 36, 37, 38, 39, 40, 41, 7, 42, 43, 44, 45, 6, 46, 47, 48, 49, 50, 51, 52, 53, 54, 55, 56, 57, 58, 59, 60, 61, 62, 63, 16, 64, 65, 66, 67, 68, 69, 70, 71, 72, 73, 74, 75, 76, 77, 78, 79, 80, 81, 82, 83, 84, 85, 86, 87, 88, 89, 90, 91, 92, 93, 94, 95, 96, 97, 98, 99, 100, 104, 105, 106, 107, 101, 102, 103, 108, 109, 110, 111] (by decide +kernel) (by decide +kernel)
set_option maxRecDepth 20000 in
theorem gX5_init_X5_shootAll : GoodIn wsX5_init (wsV RX5 28 RX5 yX5_shootAll wsX5_shootAll) := goodIn_app (goodIn_of _ (by decide +kernel)) ggX5_init_X5_shootAll
theorem dX5_init_0 : decode cX5_init 0 = .ok (.aload_n 0, 1) := by decide +kernel
theorem dX5_init_1 : decode cX5_init 1 = .ok (.invokespecial 3, 3) := by decide +kernel
theorem dX5_init_4 : decode cX5_init 4 = .ok (.aload_n 0, 1) := by decide +kernel
theorem dX5_init_5 : decode cX5_init 5 = .ok (.new 9, 3) := by decide +kernel
theorem dX5_init_8 : decode cX5_init 8 = .ok (.dup, 1) := by decide +kernel
theorem dX5_init_9 : decode cX5_init 9 = .ok (.invokespecial 11, 3) := by decide +kernel
theorem dX5_init_12 : decode cX5_init 12 = .ok (.putfield 12, 3) := by decide +kernel
theorem dX5_init_15 : decode cX5_init 15 = .ok (.aload_n 0, 1) := by decide +kernel
theorem dX5_init_16 : decode cX5_init 16 = .ok (.sipush 484, 3) := by decide +kernel
theorem dX5_init_19 : decode cX5_init 19 = .ok (.newarray .int, 2) := by decide +kernel
theorem dX5_init_21 : decode cX5_init 21 = .ok (.putfield 18, 3) := by decide +kernel
theorem dX5_init_24 : decode cX5_init 24 = .ok (.aload_n 0, 1) := by decide +kernel
theorem dX5_init_25 : decode cX5_init 25 = .ok (.sipush 484, 3) := by decide +kernel
theorem dX5_init_28 : decode cX5_init 28 = .ok (.newarray .int, 2) := by decide +kernel
theorem dX5_init_30 : decode cX5_init 30 = .ok (.putfield 22, 3) := by decide +kernel
theorem dX5_init_33 : decode cX5_init 33 = .ok (.aload_n 0, 1) := by decide +kernel
theorem dX5_init_34 : decode cX5_init 34 = .ok (.sipush 484, 3) := by decide +kernel
theorem dX5_init_37 : decode cX5_init 37 = .ok (.newarray .int, 2) := by decide +kernel
theorem dX5_init_39 : decode cX5_init 39 = .ok (.putfield 25, 3) := by decide +kernel
theorem dX5_init_42 : decode cX5_init 42 = .ok (.aload_n 0, 1) := by decide +kernel
theorem dX5_init_43 : decode cX5_init 43 = .ok (.invokevirtual 28, 3) := by decide +kernel
theorem dX5_init_46 : decode cX5_init 46 = .ok (.return_, 1) := by decide +kernel
theorem dX5_placeOf_0 : decode cX5_placeOf 0 = .ok (.iload_n 1, 1) := by decide +kernel
theorem dX5_placeOf_1 : decode cX5_placeOf 1 = .ok (.bipush 10, 2) := by decide +kernel
theorem dX5_placeOf_3 : decode cX5_placeOf 3 = .ok (.iadd, 1) := by decide +kernel
theorem dX5_placeOf_4 : decode cX5_placeOf 4 = .ok (.bipush 22, 2) := by decide +kernel
theorem dX5_placeOf_6 : decode cX5_placeOf 6 = .ok (.imul, 1) := by decide +kernel
theorem dX5_placeOf_7 : decode cX5_placeOf 7 = .ok (.iload_n 0, 1) := by decide +kernel
theorem dX5_placeOf_8 : decode cX5_placeOf 8 = .ok (.iadd, 1) := by decide +kernel
theorem dX5_placeOf_9 : decode cX5_placeOf 9 = .ok (.bipush 10, 2) := by decide +kernel
theorem dX5_placeOf_11 : decode cX5_placeOf 11 = .ok (.iadd, 1) := by decide +kernel
theorem dX5_placeOf_12 : decode cX5_placeOf 12 = .ok (.ireturn, 1) := by decide +kernel
theorem dX5_columnOf_0 : decode cX5_columnOf 0 = .ok (.iload_n 0, 1) := by decide +kernel
theorem dX5_columnOf_1 : decode cX5_columnOf 1 = .ok (.bipush 22, 2) := by decide +kernel
theorem dX5_columnOf_3 : decode cX5_columnOf 3 = .ok (.irem, 1) := by decide +kernel
theorem dX5_columnOf_4 : decode cX5_columnOf 4 = .ok (.bipush 10, 2) := by decide +kernel
theorem dX5_columnOf_6 : decode cX5_columnOf 6 = .ok (.isub, 1) := by decide +kernel
theorem dX5_columnOf_7 : decode cX5_columnOf 7 = .ok (.ireturn, 1) := by decide +kernel
theorem dX5_rowOf_0 : decode cX5_rowOf 0 = .ok (.iload_n 0, 1) := by decide +kernel
theorem dX5_rowOf_1 : decode cX5_rowOf 1 = .ok (.bipush 22, 2) := by decide +kernel
theorem dX5_rowOf_3 : decode cX5_rowOf 3 = .ok (.idiv, 1) := by decide +kernel
theorem dX5_rowOf_4 : decode cX5_rowOf 4 = .ok (.bipush 10, 2) := by decide +kernel
theorem dX5_rowOf_6 : decode cX5_rowOf 6 = .ok (.isub, 1) := by decide +kernel
theorem dX5_rowOf_7 : decode cX5_rowOf 7 = .ok (.ireturn, 1) := by decide +kernel
set_option maxRecDepth 20000 in
theorem ggX5_count_Jx4a65c_size_8abf5 : GoodIn wsX5_count wsJx4a65c_size_8abf5 := goodIn_r _ [6, 7, 12, 13, 14] (by decide +kernel) (by decide +kernel)
set_option maxRecDepth 20000 in
theorem gX5_count_Jx4a65c_size_8abf5 : GoodIn wsX5_count (wsV RX5 31 RJx4a65c yJx4a65c_size_8abf5 wsJx4a65c_size_8abf5) := goodIn_app (goodIn_of _ (by decide +kernel)) ggX5_count_Jx4a65c_size_8abf5
theorem dX5_count_0 : decode cX5_count 0 = .ok (.aload_n 0, 1) := by decide +kernel
theorem dX5_count_1 : decode cX5_count 1 = .ok (.getfield 12, 3) := by decide +kernel
theorem dX5_count_4 : decode cX5_count 4 = .ok (.invokevirtual 31, 3) := by decide +kernel
theorem dX5_count_7 : decode cX5_count 7 = .ok (.ireturn, 1) := by decide +kernel
set_option maxRecDepth 20000 in
theorem ggX5_isFull_Jx4a65c_size_8abf5 : GoodIn wsX5_isFull wsJx4a65c_size_8abf5 := goodIn_r _ [6, 7, 12, 13, 14] (by decide +kernel) (by decide +kernel)
set_option maxRecDepth 20000 in
theorem gX5_isFull_Jx4a65c_size_8abf5 : GoodIn wsX5_isFull (wsV RX5 31 RJx4a65c yJx4a65c_size_8abf5 wsJx4a65c_size_8abf5) := goodIn_app (goodIn_of _ (by decide +kernel)) ggX5_isFull_Jx4a65c_size_8abf5
theorem dX5_isFull_0 : decode cX5_isFull 0 = .ok (.aload_n 0, 1) := by decide +kernel
theorem dX5_isFull_1 : decode cX5_isFull 1 = .ok (.getfield 12, 3) := by decide +kernel
theorem dX5_isFull_4 : decode cX5_isFull 4 = .ok (.invokevirtual 31, 3) := by decide +kernel
theorem dX5_isFull_7 : decode cX5_isFull 7 = .ok (.bipush 6, 2) := by decide +kernel
theorem dX5_isFull_9 : decode cX5_isFull 9 = .ok (.if_icmp .lt 7, 3) := by decide +kernel
theorem dX5_isFull_12 : decode cX5_isFull 12 = .ok (.iconst 1, 1) := by decide +kernel
theorem dX5_isFull_13 : decode cX5_isFull 13 = .ok (.goto 4, 3) := by decide +kernel
theorem dX5_isFull_16 : decode cX5_isFull 16 = .ok (.iconst 0, 1) := by decide +kernel
theorem dX5_isFull_17 : decode cX5_isFull 17 = .ok (.ireturn, 1) := by decide +kernel
set_option maxRecDepth 20000 in
theorem ggX5_massAt_Jx4a65c_size_8abf5 : GoodIn wsX5_massAt wsJx4a65c_size_8abf5 := goodIn_r _ [7, 8, 30, 31, 32] (by decide +kernel) (by decide +kernel)
set_option maxRecDepth 20000 in
theorem gX5_massAt_Jx4a65c_size_8abf5 : GoodIn wsX5_massAt (wsV RX5 31 RJx4a65c yJx4a65c_size_8abf5 wsJx4a65c_size_8abf5) := goodIn_app (goodIn_of _ (by decide +kernel)) ggX5_massAt_Jx4a65c_size_8abf5
set_option maxRecDepth 20000 in
theorem ggX5_massAt_Jx4a65c_get_915e3 : GoodIn wsX5_massAt wsJx4a65c_get_915e3 := goodIn_r _ [12, 8, 13, 14, 15, 16, 17, 18, 19, 20, 21, 22, 23, 6, 24, 25, 30, 31, 32] (by decide +kernel) (by decide +kernel)
set_option maxRecDepth 20000 in
theorem gX5_massAt_Jx4a65c_get_915e3 : GoodIn wsX5_massAt (wsV RX5 35 RJx4a65c yJx4a65c_get_915e3 wsJx4a65c_get_915e3) := goodIn_app (goodIn_of _ (by decide +kernel)) ggX5_massAt_Jx4a65c_get_915e3
theorem dX5_massAt_0 : decode cX5_massAt 0 = .ok (.iload_n 1, 1) := by decide +kernel
theorem dX5_massAt_1 : decode cX5_massAt 1 = .ok (.ifCond .lt 28, 3) := by decide +kernel
theorem dX5_massAt_4 : decode cX5_massAt 4 = .ok (.iload_n 1, 1) := by decide +kernel
theorem dX5_massAt_5 : decode cX5_massAt 5 = .ok (.aload_n 0, 1) := by decide +kernel
theorem dX5_massAt_6 : decode cX5_massAt 6 = .ok (.getfield 12, 3) := by decide +kernel
theorem dX5_massAt_9 : decode cX5_massAt 9 = .ok (.invokevirtual 31, 3) := by decide +kernel
theorem dX5_massAt_12 : decode cX5_massAt 12 = .ok (.if_icmp .ge 17, 3) := by decide +kernel
theorem dX5_massAt_15 : decode cX5_massAt 15 = .ok (.aload_n 0, 1) := by decide +kernel
theorem dX5_massAt_16 : decode cX5_massAt 16 = .ok (.getfield 12, 3) := by decide +kernel
theorem dX5_massAt_19 : decode cX5_massAt 19 = .ok (.iload_n 1, 1) := by decide +kernel
theorem dX5_massAt_20 : decode cX5_massAt 20 = .ok (.invokevirtual 35, 3) := by decide +kernel
theorem dX5_massAt_23 : decode cX5_massAt 23 = .ok (.checkcast 39, 3) := by decide +kernel
theorem dX5_massAt_26 : decode cX5_massAt 26 = .ok (.goto 4, 3) := by decide +kernel
theorem dX5_massAt_29 : decode cX5_massAt 29 = .ok (.aconst_null, 1) := by decide +kernel
theorem dX5_massAt_30 : decode cX5_massAt 30 = .ok (.areturn, 1) := by decide +kernel
set_option maxRecDepth 20000 in
theorem ggX5_add_Jx4a65c_add_9ea2d : GoodIn wsX5_add wsJx4a65c_add_9ea2d := goodIn_r _ [6, 7, 8, 9, 10, 11, 12, 13, 5, 14, 15, 16, 17, 18, 19, 20, 21, 22, 23, 24, 25, 26, 27, 28, 29, 30, 31, 32, 33, 34, 35, 36, 37, 38, 39, 40, 41, 42, 43, 44, 45, 46, 47, 48, 49, 50, 51, 52, 53, 54, 55, 56, 57, 137, 138, 139] (by decide +kernel) (by decide +kernel)
set_option maxRecDepth 20000 in
theorem gX5_add_Jx4a65c_add_9ea2d : GoodIn wsX5_add (wsV RX5 41 RJx4a65c yJx4a65c_add_9ea2d wsJx4a65c_add_9ea2d) := goodIn_app (goodIn_of _ (by decide +kernel)) ggX5_add_Jx4a65c_add_9ea2d
set_option maxRecDepth 20000 in
theorem ggX5_add_X5_shootAll : GoodIn wsX5_add wsX5_shootAll := goodIn_r _ [62, 63, 64, 65, 66, 67, 61, 68, 69, 70, 71, 72, 73, 74, 75, 1, 76, 77, 78, 79, 5, 80, 10, 81, 82, 83, 84, 85, 86, 87, 88, 89, 90, 91, 92, 93, 94, 95, 96, 9, 97, 98, 99, 100, 101, 102, 103, 104, 105, 106, 107, 108, 26, 109, 110, 111, 112, 113, 114, 115, 116, 117, 118, 119, 120, 121, 122, 123, 124, 125, 126, 127, 128, 129, 130, 131, 132, 133, 134, 135, 136, 137, 138, 139, 140, 141, 142, 143] (by decide +kernel) (by decide +kernel)
set_option maxRecDepth 20000 in
theorem gX5_add_X5_shootAll : GoodIn wsX5_add (wsV RX5 28 RX5 yX5_shootAll wsX5_shootAll) := goodIn_app (goodIn_of _ (by decide +kernel)) ggX5_add_X5_shootAll
set_option maxRecDepth 20000 in
theorem ggX5_add_Jx4a65c_size_8abf5 : GoodIn wsX5_add wsJx4a65c_size_8abf5 := goodIn_r _ [80, 10, 137, 138, 139] (by decide +kernel) (by decide +kernel)
set_option maxRecDepth 20000 in
theorem gX5_add_Jx4a65c_size_8abf5 : GoodIn wsX5_add (wsV RX5 31 RJx4a65c yJx4a65c_size_8abf5 wsJx4a65c_size_8abf5) := goodIn_app (goodIn_of _ (by decide +kernel)) ggX5_add_Jx4a65c_size_8abf5
theorem dX5_add_0 : decode cX5_add 0 = .ok (.aload_n 0, 1) := by decide +kernel
theorem dX5_add_1 : decode cX5_add 1 = .ok (.getfield 12, 3) := by decide +kernel
theorem dX5_add_4 : decode cX5_add 4 = .ok (.aload_n 1, 1) := by decide +kernel
theorem dX5_add_5 : decode cX5_add 5 = .ok (.invokevirtual 41, 3) := by decide +kernel
theorem dX5_add_8 : decode cX5_add 8 = .ok (.pop, 1) := by decide +kernel
theorem dX5_add_9 : decode cX5_add 9 = .ok (.aload_n 0, 1) := by decide +kernel
theorem dX5_add_10 : decode cX5_add 10 = .ok (.invokevirtual 28, 3) := by decide +kernel
theorem dX5_add_13 : decode cX5_add 13 = .ok (.aload_n 0, 1) := by decide +kernel
theorem dX5_add_14 : decode cX5_add 14 = .ok (.getfield 12, 3) := by decide +kernel
theorem dX5_add_17 : decode cX5_add 17 = .ok (.invokevirtual 31, 3) := by decide +kernel
theorem dX5_add_20 : decode cX5_add 20 = .ok (.iconst 1, 1) := by decide +kernel
theorem dX5_add_21 : decode cX5_add 21 = .ok (.isub, 1) := by decide +kernel
theorem dX5_add_22 : decode cX5_add 22 = .ok (.ireturn, 1) := by decide +kernel
set_option maxRecDepth 20000 in
theorem ggX5_comesFromColumn_X5_isPlace : GoodIn wsX5_comesFromColumn wsX5_isPlace := goodIn_r _ [6, 1, 7, 8, 9, 10] (by decide +kernel) (by decide +kernel)
set_option maxRecDepth 20000 in
theorem gX5_comesFromColumn_X5_isPlace : GoodIn wsX5_comesFromColumn (wsV RX5 45 RX5 yX5_isPlace wsX5_isPlace) := goodIn_app (goodIn_of _ (by decide +kernel)) ggX5_comesFromColumn_X5_isPlace
theorem dX5_comesFromColumn_0 : decode cX5_comesFromColumn 0 = .ok (.aload_n 0, 1) := by decide +kernel
theorem dX5_comesFromColumn_1 : decode cX5_comesFromColumn 1 = .ok (.iload_n 1, 1) := by decide +kernel
theorem dX5_comesFromColumn_2 : decode cX5_comesFromColumn 2 = .ok (.invokevirtual 45, 3) := by decide +kernel
theorem dX5_comesFromColumn_5 : decode cX5_comesFromColumn 5 = .ok (.ifCond .eq 12, 3) := by decide +kernel
theorem dX5_comesFromColumn_8 : decode cX5_comesFromColumn 8 = .ok (.aload_n 0, 1) := by decide +kernel
theorem dX5_comesFromColumn_9 : decode cX5_comesFromColumn 9 = .ok (.getfield 18, 3) := by decide +kernel
theorem dX5_comesFromColumn_12 : decode cX5_comesFromColumn 12 = .ok (.iload_n 1, 1) := by decide +kernel
theorem dX5_comesFromColumn_13 : decode cX5_comesFromColumn 13 = .ok (.iaload, 1) := by decide +kernel
theorem dX5_comesFromColumn_14 : decode cX5_comesFromColumn 14 = .ok (.goto 4, 3) := by decide +kernel
theorem dX5_comesFromColumn_17 : decode cX5_comesFromColumn 17 = .ok (.iconst 0, 1) := by decide +kernel
theorem dX5_comesFromColumn_18 : decode cX5_comesFromColumn 18 = .ok (.ireturn, 1) := by decide +kernel
set_option maxRecDepth 20000 in
theorem ggX5_comesFromRow_X5_isPlace : GoodIn wsX5_comesFromRow wsX5_isPlace := goodIn_r _ [6, 7, 8, 9, 10, 11] (by decide +kernel) (by decide +kernel)
set_option maxRecDepth 20000 in
theorem gX5_comesFromRow_X5_isPlace : GoodIn wsX5_comesFromRow (wsV RX5 45 RX5 yX5_isPlace wsX5_isPlace) := goodIn_app (goodIn_of _ (by decide +kernel)) ggX5_comesFromRow_X5_isPlace
theorem dX5_comesFromRow_0 : decode cX5_comesFromRow 0 = .ok (.aload_n 0, 1) := by decide +kernel
theorem dX5_comesFromRow_1 : decode cX5_comesFromRow 1 = .ok (.iload_n 1, 1) := by decide +kernel
theorem dX5_comesFromRow_2 : decode cX5_comesFromRow 2 = .ok (.invokevirtual 45, 3) := by decide +kernel
theorem dX5_comesFromRow_5 : decode cX5_comesFromRow 5 = .ok (.ifCond .eq 12, 3) := by decide +kernel
theorem dX5_comesFromRow_8 : decode cX5_comesFromRow 8 = .ok (.aload_n 0, 1) := by decide +kernel
theorem dX5_comesFromRow_9 : decode cX5_comesFromRow 9 = .ok (.getfield 22, 3) := by decide +kernel
theorem dX5_comesFromRow_12 : decode cX5_comesFromRow 12 = .ok (.iload_n 1, 1) := by decide +kernel
theorem dX5_comesFromRow_13 : decode cX5_comesFromRow 13 = .ok (.iaload, 1) := by decide +kernel
theorem dX5_comesFromRow_14 : decode cX5_comesFromRow 14 = .ok (.goto 4, 3) := by decide +kernel
theorem dX5_comesFromRow_17 : decode cX5_comesFromRow 17 = .ok (.iconst 0, 1) := by decide +kernel
theorem dX5_comesFromRow_18 : decode cX5_comesFromRow 18 = .ok (.ireturn, 1) := by decide +kernel
set_option maxRecDepth 20000 in
theorem ggX5_wayAt_X5_isPlace : GoodIn wsX5_wayAt wsX5_isPlace := goodIn_r _ [6, 7, 8, 9, 10, 11] (by decide +kernel) (by decide +kernel)
set_option maxRecDepth 20000 in
theorem gX5_wayAt_X5_isPlace : GoodIn wsX5_wayAt (wsV RX5 45 RX5 yX5_isPlace wsX5_isPlace) := goodIn_app (goodIn_of _ (by decide +kernel)) ggX5_wayAt_X5_isPlace
theorem dX5_wayAt_0 : decode cX5_wayAt 0 = .ok (.aload_n 0, 1) := by decide +kernel
theorem dX5_wayAt_1 : decode cX5_wayAt 1 = .ok (.iload_n 1, 1) := by decide +kernel
theorem dX5_wayAt_2 : decode cX5_wayAt 2 = .ok (.invokevirtual 45, 3) := by decide +kernel
theorem dX5_wayAt_5 : decode cX5_wayAt 5 = .ok (.ifCond .eq 12, 3) := by decide +kernel
theorem dX5_wayAt_8 : decode cX5_wayAt 8 = .ok (.aload_n 0, 1) := by decide +kernel
theorem dX5_wayAt_9 : decode cX5_wayAt 9 = .ok (.getfield 25, 3) := by decide +kernel
theorem dX5_wayAt_12 : decode cX5_wayAt 12 = .ok (.iload_n 1, 1) := by decide +kernel
theorem dX5_wayAt_13 : decode cX5_wayAt 13 = .ok (.iaload, 1) := by decide +kernel
theorem dX5_wayAt_14 : decode cX5_wayAt 14 = .ok (.goto 4, 3) := by decide +kernel
theorem dX5_wayAt_17 : decode cX5_wayAt 17 = .ok (.iconst 0, 1) := by decide +kernel
theorem dX5_wayAt_18 : decode cX5_wayAt 18 = .ok (.ireturn, 1) := by decide +kernel
set_option maxRecDepth 20000 in
theorem ggX5_comesFrom_X5_isPlace : GoodIn wsX5_comesFrom wsX5_isPlace := goodIn_r _ [7, 1, 8, 9, 10, 11] (by decide +kernel) (by decide +kernel)
set_option maxRecDepth 20000 in
theorem gX5_comesFrom_X5_isPlace : GoodIn wsX5_comesFrom (wsV RX5 45 RX5 yX5_isPlace wsX5_isPlace) := goodIn_app (goodIn_of _ (by decide +kernel)) ggX5_comesFrom_X5_isPlace
theorem dX5_comesFrom_0 : decode cX5_comesFrom 0 = .ok (.aload_n 0, 1) := by decide +kernel
theorem dX5_comesFrom_1 : decode cX5_comesFrom 1 = .ok (.iload_n 1, 1) := by decide +kernel
theorem dX5_comesFrom_2 : decode cX5_comesFrom 2 = .ok (.invokevirtual 45, 3) := by decide +kernel
theorem dX5_comesFrom_5 : decode cX5_comesFrom 5 = .ok (.ifCond .eq 27, 3) := by decide +kernel
theorem dX5_comesFrom_8 : decode cX5_comesFrom 8 = .ok (.aload_n 0, 1) := by decide +kernel
theorem dX5_comesFrom_9 : decode cX5_comesFrom 9 = .ok (.getfield 18, 3) := by decide +kernel
theorem dX5_comesFrom_12 : decode cX5_comesFrom 12 = .ok (.iload_n 1, 1) := by decide +kernel
theorem dX5_comesFrom_13 : decode cX5_comesFrom 13 = .ok (.iaload, 1) := by decide +kernel
theorem dX5_comesFrom_14 : decode cX5_comesFrom 14 = .ok (.iload_n 2, 1) := by decide +kernel
theorem dX5_comesFrom_15 : decode cX5_comesFrom 15 = .ok (.if_icmp .ne 17, 3) := by decide +kernel
theorem dX5_comesFrom_18 : decode cX5_comesFrom 18 = .ok (.aload_n 0, 1) := by decide +kernel
theorem dX5_comesFrom_19 : decode cX5_comesFrom 19 = .ok (.getfield 22, 3) := by decide +kernel
theorem dX5_comesFrom_22 : decode cX5_comesFrom 22 = .ok (.iload_n 1, 1) := by decide +kernel
theorem dX5_comesFrom_23 : decode cX5_comesFrom 23 = .ok (.iaload, 1) := by decide +kernel
theorem dX5_comesFrom_24 : decode cX5_comesFrom 24 = .ok (.iload_n 3, 1) := by decide +kernel
theorem dX5_comesFrom_25 : decode cX5_comesFrom 25 = .ok (.if_icmp .ne 7, 3) := by decide +kernel
theorem dX5_comesFrom_28 : decode cX5_comesFrom 28 = .ok (.iconst 1, 1) := by decide +kernel
theorem dX5_comesFrom_29 : decode cX5_comesFrom 29 = .ok (.goto 4, 3) := by decide +kernel
theorem dX5_comesFrom_32 : decode cX5_comesFrom 32 = .ok (.iconst 0, 1) := by decide +kernel
theorem dX5_comesFrom_33 : decode cX5_comesFrom 33 = .ok (.ireturn, 1) := by decide +kernel
set_option maxRecDepth 20000 in
theorem ggX5_brightnessAt_X5_turnAt : GoodIn wsX5_brightnessAt wsX5_turnAt := goodIn_r _ [5, 6, 7, 8, 9, 10, 4, 11, 12, 13, 14, 15] (by decide +kernel) (by decide +kernel)
set_option maxRecDepth 20000 in
theorem gX5_brightnessAt_X5_turnAt : GoodIn wsX5_brightnessAt (wsV RX5 49 RX5 yX5_turnAt wsX5_turnAt) := goodIn_app (goodIn_of _ (by decide +kernel)) ggX5_brightnessAt_X5_turnAt
theorem dX5_brightnessAt_0 : decode cX5_brightnessAt 0 = .ok (.aload_n 0, 1) := by decide +kernel
theorem dX5_brightnessAt_1 : decode cX5_brightnessAt 1 = .ok (.iload_n 1, 1) := by decide +kernel
theorem dX5_brightnessAt_2 : decode cX5_brightnessAt 2 = .ok (.invokevirtual 49, 3) := by decide +kernel
theorem dX5_brightnessAt_5 : decode cX5_brightnessAt 5 = .ok (.istore_n 2, 1) := by decide +kernel
theorem dX5_brightnessAt_6 : decode cX5_brightnessAt 6 = .ok (.iload_n 2, 1) := by decide +kernel
theorem dX5_brightnessAt_7 : decode cX5_brightnessAt 7 = .ok (.ifCond .ne 8, 3) := by decide +kernel
theorem dX5_brightnessAt_10 : decode cX5_brightnessAt 10 = .ok (.bipush 24, 2) := by decide +kernel
theorem dX5_brightnessAt_12 : decode cX5_brightnessAt 12 = .ok (.goto 7, 3) := by decide +kernel
theorem dX5_brightnessAt_15 : decode cX5_brightnessAt 15 = .ok (.bipush 24, 2) := by decide +kernel
theorem dX5_brightnessAt_17 : decode cX5_brightnessAt 17 = .ok (.iload_n 2, 1) := by decide +kernel
theorem dX5_brightnessAt_18 : decode cX5_brightnessAt 18 = .ok (.idiv, 1) := by decide +kernel
theorem dX5_brightnessAt_19 : decode cX5_brightnessAt 19 = .ok (.ireturn, 1) := by decide +kernel
set_option maxRecDepth 20000 in
theorem ggX5_countFrom_X5_placeOf : GoodIn wsX5_countFrom wsX5_placeOf := goodIn_r _ [4] (by decide +kernel) (by decide +kernel)
