def wsL_goes_r29 : List Cond := [Cond.instanceMethod yX8_isSeason, Cond.selects RX8 yX8_isSeason yX8_isSeason, Cond.code yX8_isSeason cX8_isSeason 1 (some .boolean), Cond.methodLink RX8 192 yX0_hasFrameOf, Cond.instanceMethod yX0_hasFrameOf, Cond.selects RX0 yX0_hasFrameOf yX0_hasFrameOf, Cond.code yX0_hasFrameOf cX0_hasFrameOf 3 (some .boolean), Cond.methodLink RX0 36 yX0_frameAt, Cond.methodLink RX8 195 yX0_isFull, Cond.instanceMethod yX0_isFull, Cond.selects RX0 yX0_isFull yX0_isFull, Cond.code yX0_isFull cX0_isFull 1 (some .boolean), Cond.methodLink RX8 198 yX8_framedSky, Cond.instanceMethod yX8_framedSky, Cond.selects RX8 yX8_framedSky yX8_framedSky, Cond.code yX8_framedSky cX8_framedSky 5 (some (.object "Delaylens$Frame")), Cond.classLink RX8 298 RX3, Cond.instantiable RX3 2, Cond.methodLink RX8 346 Lib.Math.min.name, Cond.methodLink RX8 343 yX3_init, Cond.instanceMethod yX3_init, Cond.code yX3_init cX3_init 2 none, Cond.methodLink RX3 3 objectInit, Cond.fieldLink RX3 15 "Delaylens$Frame" "day" "I"]
def wsL_goes_r30 : List Cond := [Cond.methodLink RX3 19 yJ7_fill_53178, Cond.methodLink RX8 349 yX3_setLight, Cond.instanceMethod yX3_setLight, Cond.selects RX3 yX3_setLight yX3_setLight, Cond.code yX3_setLight cX3_setLight 4 none, Cond.methodLink RX8 202 yX0_add, Cond.instanceMethod yX0_add, Cond.selects RX0 yX0_add yX0_add, Cond.code yX0_add cX0_add 2 (some .int), Cond.methodLink RX0 44 yJx4a65c_add_9ea2d, Cond.methodLink RL 175 yL_pass, Cond.static yL_pass, Cond.codeWith yL_pass cL_pass 3 (some .int) [(0, 5, 6, 13), (0, 5, 10, 16)], Cond.methodLink RL 52 yX8_pass, Cond.instanceMethod yX8_pass, Cond.selects RX8 yX8_pass yX8_pass, Cond.code yX8_pass cX8_pass 2 (some .int), Cond.methodLink RL 189 yL_isKept, Cond.static yL_isKept, Cond.code yL_isKept cL_isKept 4 (some .boolean), Cond.methodLink RL 193 yL_isRight, Cond.static yL_isRight, Cond.code yL_isRight cL_isRight 11 (some .boolean), Cond.constant RL 133 (-2000000000)]
def wsL_goes_r31 : List Cond := [Cond.methodLink RL 131 yL_hits, Cond.static yL_hits, Cond.codeWith yL_hits cL_hits 4 (some .int) [(0, 6, 7, 13)], Cond.methodLink RL 75 yX8_hits, Cond.instanceMethod yX8_hits, Cond.selects RX8 yX8_hits yX8_hits, Cond.code yX8_hits cX8_hits 3 (some .int), Cond.methodLink RX8 280 yX5_countFrom, Cond.instanceMethod yX5_countFrom, Cond.selects RX5 yX5_countFrom yX5_countFrom, Cond.code yX5_countFrom cX5_countFrom 6 (some .int), Cond.methodLink RX5 53 yX5_placeOf, Cond.methodLink RX5 57 yX5_comesFrom, Cond.methodLink RL 134 yL_delay, Cond.static yL_delay, Cond.codeWith yL_delay cL_delay 5 (some .int) [(0, 7, 8, 23)], Cond.methodLink RL 78 yX8_delay, Cond.instanceMethod yX8_delay, Cond.selects RX8 yX8_delay yX8_delay, Cond.code yX8_delay cX8_delay 5 (some .int), Cond.methodLink RL 197 yL_anew, Cond.static yL_anew, Cond.codeWith yL_anew cL_anew 3 (some .int) [(0, 5, 6, 23)], Cond.methodLink RL 69 yX8_imagesAnew]
def wsL_goes_r32 : List Cond := [Cond.instanceMethod yX8_imagesAnew, Cond.selects RX8 yX8_imagesAnew yX8_imagesAnew, Cond.code yX8_imagesAnew cX8_imagesAnew 3 (some .int), Cond.methodLink RX8 260 yX5_shotFrom, Cond.instanceMethod yX5_shotFrom, Cond.selects RX5 yX5_shotFrom yX5_shotFrom, Cond.code yX5_shotFrom cX5_shotFrom 6 (some .int), Cond.methodLink RL 200 yL_areAll, Cond.static yL_areAll, Cond.code yL_areAll cL_areAll 6 (some .boolean), Cond.methodLink RL 136 yX8_lost, Cond.instanceMethod yX8_lost, Cond.selects RX8 yX8_lost yX8_lost, Cond.code yX8_lost cX8_lost 1 (some .int), Cond.methodLink RX8 283 yX5_countFromBeyond, Cond.instanceMethod yX5_countFromBeyond, Cond.selects RX5 yX5_countFromBeyond yX5_countFromBeyond, Cond.code yX5_countFromBeyond cX5_countFromBeyond 5 (some .int), Cond.methodLink RX5 61 yX5_comesFromColumn, Cond.methodLink RX5 64 yX5_comesFromRow]
def wsL_goes : List Cond := .code yL_goes cL_goes 10 (some .boolean) :: ((wsL_goes_r1 ++ (wsL_goes_r2 ++ (wsL_goes_r3 ++ (wsL_goes_r4 ++ (wsL_goes_r5 ++ (wsL_goes_r6 ++ (wsL_goes_r7 ++ (wsL_goes_r8 ++ (wsL_goes_r9 ++ (wsL_goes_r10 ++ (wsL_goes_r11 ++ (wsL_goes_r12 ++ (wsL_goes_r13 ++ (wsL_goes_r14 ++ (wsL_goes_r15 ++ (wsL_goes_r16 ++ (wsL_goes_r17 ++ (wsL_goes_r18 ++ (wsL_goes_r19 ++ (wsL_goes_r20 ++ (wsL_goes_r21 ++ (wsL_goes_r22 ++ (wsL_goes_r23 ++ (wsL_goes_r24 ++ (wsL_goes_r25 ++ (wsL_goes_r26 ++ (wsL_goes_r27 ++ (wsL_goes_r28 ++ (wsL_goes_r29 ++ (wsL_goes_r30 ++ (wsL_goes_r31 ++ wsL_goes_r32))))))))))))))))))))))))))))))) ++ wsX80 ++ wsX50 ++ wsJx4a65c0 ++ wsX00 ++ wsX10 ++ wsX40 ++ wsX60 ++ wsX20 ++ wsX70 ++ wsX30 ++ (vx_atS RX8 82 "java/lang/IllegalStateException" ["java/lang/RuntimeException", "java/lang/Exception"]).filter goodWord ++ (vx_atS RX8 71 "java/lang/IllegalArgumentException" ["java/lang/RuntimeException", "java/lang/Exception"]).filter goodWord ++ (vx_atS RX8 103 "java/lang/IndexOutOfBoundsException" ["java/lang/RuntimeException", "java/lang/Exception"]).filter goodWord)
set_option maxRecDepth 20000 in
theorem ggX0_init_Jx4a65c_init_da8c8 : GoodIn wsX0_init wsJx4a65c_init_da8c8 := goodIn_r _ [14, 15, 16, 17, 18, 19, 20, 21, 22, 23, 24, 25, 26, 2, 3, 27, 28, 29] (by decide +kernel) (by decide +kernel)
set_option maxRecDepth 20000 in
theorem gX0_init_Jx4a65c_init_da8c8 : GoodIn wsX0_init (wsJx4a65c_init_da8c8) := ggX0_init_Jx4a65c_init_da8c8
theorem dX0_init_0 : decode cX0_init 0 = .ok (.aload_n 0, 1) := by decide +kernel
theorem dX0_init_1 : decode cX0_init 1 = .ok (.invokespecial 3, 3) := by decide +kernel
theorem dX0_init_4 : decode cX0_init 4 = .ok (.aload_n 0, 1) := by decide +kernel
theorem dX0_init_5 : decode cX0_init 5 = .ok (.new 9, 3) := by decide +kernel
theorem dX0_init_8 : decode cX0_init 8 = .ok (.dup, 1) := by decide +kernel
theorem dX0_init_9 : decode cX0_init 9 = .ok (.invokespecial 11, 3) := by decide +kernel
theorem dX0_init_12 : decode cX0_init 12 = .ok (.putfield 12, 3) := by decide +kernel
theorem dX0_init_15 : decode cX0_init 15 = .ok (.aload_n 0, 1) := by decide +kernel
theorem dX0_init_16 : decode cX0_init 16 = .ok (.sipush 151, 3) := by decide +kernel
theorem dX0_init_19 : decode cX0_init 19 = .ok (.newarray .long, 2) := by decide +kernel
theorem dX0_init_21 : decode cX0_init 21 = .ok (.putfield 18, 3) := by decide +kernel
theorem dX0_init_24 : decode cX0_init 24 = .ok (.aload_n 0, 1) := by decide +kernel
theorem dX0_init_25 : decode cX0_init 25 = .ok (.sipush 151, 3) := by decide +kernel
theorem dX0_init_28 : decode cX0_init 28 = .ok (.newarray .int, 2) := by decide +kernel
theorem dX0_init_30 : decode cX0_init 30 = .ok (.putfield 22, 3) := by decide +kernel
theorem dX0_init_33 : decode cX0_init 33 = .ok (.return_, 1) := by decide +kernel
set_option maxRecDepth 20000 in
theorem ggX0_count_Jx4a65c_size_8abf5 : GoodIn wsX0_count wsJx4a65c_size_8abf5 := goodIn_r _ [6, 7, 11, 12, 13] (by decide +kernel) (by decide +kernel)
set_option maxRecDepth 20000 in
theorem gX0_count_Jx4a65c_size_8abf5 : GoodIn wsX0_count (wsV RX0 26 RJx4a65c yJx4a65c_size_8abf5 wsJx4a65c_size_8abf5) := goodIn_app (goodIn_of _ (by decide +kernel)) ggX0_count_Jx4a65c_size_8abf5
theorem dX0_count_0 : decode cX0_count 0 = .ok (.aload_n 0, 1) := by decide +kernel
theorem dX0_count_1 : decode cX0_count 1 = .ok (.getfield 12, 3) := by decide +kernel
theorem dX0_count_4 : decode cX0_count 4 = .ok (.invokevirtual 26, 3) := by decide +kernel
theorem dX0_count_7 : decode cX0_count 7 = .ok (.ireturn, 1) := by decide +kernel
set_option maxRecDepth 20000 in
theorem ggX0_isFull_Jx4a65c_size_8abf5 : GoodIn wsX0_isFull wsJx4a65c_size_8abf5 := goodIn_r _ [6, 7, 11, 12, 13] (by decide +kernel) (by decide +kernel)
set_option maxRecDepth 20000 in
theorem gX0_isFull_Jx4a65c_size_8abf5 : GoodIn wsX0_isFull (wsV RX0 26 RJx4a65c yJx4a65c_size_8abf5 wsJx4a65c_size_8abf5) := goodIn_app (goodIn_of _ (by decide +kernel)) ggX0_isFull_Jx4a65c_size_8abf5
theorem dX0_isFull_0 : decode cX0_isFull 0 = .ok (.aload_n 0, 1) := by decide +kernel
theorem dX0_isFull_1 : decode cX0_isFull 1 = .ok (.getfield 12, 3) := by decide +kernel
theorem dX0_isFull_4 : decode cX0_isFull 4 = .ok (.invokevirtual 26, 3) := by decide +kernel
theorem dX0_isFull_7 : decode cX0_isFull 7 = .ok (.bipush 60, 2) := by decide +kernel
theorem dX0_isFull_9 : decode cX0_isFull 9 = .ok (.if_icmp .lt 7, 3) := by decide +kernel
theorem dX0_isFull_12 : decode cX0_isFull 12 = .ok (.iconst 1, 1) := by decide +kernel
theorem dX0_isFull_13 : decode cX0_isFull 13 = .ok (.goto 4, 3) := by decide +kernel
theorem dX0_isFull_16 : decode cX0_isFull 16 = .ok (.iconst 0, 1) := by decide +kernel
theorem dX0_isFull_17 : decode cX0_isFull 17 = .ok (.ireturn, 1) := by decide +kernel
set_option maxRecDepth 20000 in
theorem ggX0_frameAt_Jx4a65c_size_8abf5 : GoodIn wsX0_frameAt wsJx4a65c_size_8abf5 := goodIn_r _ [7, 8, 29, 30, 31] (by decide +kernel) (by decide +kernel)
set_option maxRecDepth 20000 in
theorem gX0_frameAt_Jx4a65c_size_8abf5 : GoodIn wsX0_frameAt (wsV RX0 26 RJx4a65c yJx4a65c_size_8abf5 wsJx4a65c_size_8abf5) := goodIn_app (goodIn_of _ (by decide +kernel)) ggX0_frameAt_Jx4a65c_size_8abf5
set_option maxRecDepth 20000 in
theorem ggX0_frameAt_Jx4a65c_get_915e3 : GoodIn wsX0_frameAt wsJx4a65c_get_915e3 := goodIn_r _ [12, 8, 13, 14, 15, 16, 17, 18, 19, 20, 21, 22, 23, 6, 24, 25, 29, 30, 31] (by decide +kernel) (by decide +kernel)
set_option maxRecDepth 20000 in
theorem gX0_frameAt_Jx4a65c_get_915e3 : GoodIn wsX0_frameAt (wsV RX0 30 RJx4a65c yJx4a65c_get_915e3 wsJx4a65c_get_915e3) := goodIn_app (goodIn_of _ (by decide +kernel)) ggX0_frameAt_Jx4a65c_get_915e3
theorem dX0_frameAt_0 : decode cX0_frameAt 0 = .ok (.iload_n 1, 1) := by decide +kernel
theorem dX0_frameAt_1 : decode cX0_frameAt 1 = .ok (.ifCond .lt 28, 3) := by decide +kernel
theorem dX0_frameAt_4 : decode cX0_frameAt 4 = .ok (.iload_n 1, 1) := by decide +kernel
theorem dX0_frameAt_5 : decode cX0_frameAt 5 = .ok (.aload_n 0, 1) := by decide +kernel
theorem dX0_frameAt_6 : decode cX0_frameAt 6 = .ok (.getfield 12, 3) := by decide +kernel
theorem dX0_frameAt_9 : decode cX0_frameAt 9 = .ok (.invokevirtual 26, 3) := by decide +kernel
theorem dX0_frameAt_12 : decode cX0_frameAt 12 = .ok (.if_icmp .ge 17, 3) := by decide +kernel
theorem dX0_frameAt_15 : decode cX0_frameAt 15 = .ok (.aload_n 0, 1) := by decide +kernel
theorem dX0_frameAt_16 : decode cX0_frameAt 16 = .ok (.getfield 12, 3) := by decide +kernel
theorem dX0_frameAt_19 : decode cX0_frameAt 19 = .ok (.iload_n 1, 1) := by decide +kernel
theorem dX0_frameAt_20 : decode cX0_frameAt 20 = .ok (.invokevirtual 30, 3) := by decide +kernel
theorem dX0_frameAt_23 : decode cX0_frameAt 23 = .ok (.checkcast 34, 3) := by decide +kernel
theorem dX0_frameAt_26 : decode cX0_frameAt 26 = .ok (.goto 4, 3) := by decide +kernel
theorem dX0_frameAt_29 : decode cX0_frameAt 29 = .ok (.aconst_null, 1) := by decide +kernel
theorem dX0_frameAt_30 : decode cX0_frameAt 30 = .ok (.areturn, 1) := by decide +kernel
set_option maxRecDepth 20000 in
theorem ggX0_hasFrameOf_Jx4a65c_size_8abf5 : GoodIn wsX0_hasFrameOf wsJx4a65c_size_8abf5 := goodIn_r _ [6, 7, 36, 37, 38] (by decide +kernel) (by decide +kernel)
set_option maxRecDepth 20000 in
theorem gX0_hasFrameOf_Jx4a65c_size_8abf5 : GoodIn wsX0_hasFrameOf (wsV RX0 26 RJx4a65c yJx4a65c_size_8abf5 wsJx4a65c_size_8abf5) := goodIn_app (goodIn_of _ (by decide +kernel)) ggX0_hasFrameOf_Jx4a65c_size_8abf5
set_option maxRecDepth 20000 in
theorem ggX0_hasFrameOf_X0_frameAt : GoodIn wsX0_hasFrameOf wsX0_frameAt := goodIn_r _ [12, 1, 13, 2, 3, 4, 5, 6, 7, 14, 15, 16, 17, 18, 19, 20, 21, 22, 23, 24, 25, 26, 27, 28, 29, 30, 31, 32, 33, 36, 37, 38] (by decide +kernel) (by decide +kernel)
set_option maxRecDepth 20000 in
theorem gX0_hasFrameOf_X0_frameAt : GoodIn wsX0_hasFrameOf (wsV RX0 36 RX0 yX0_frameAt wsX0_frameAt) := goodIn_app (goodIn_of _ (by decide +kernel)) ggX0_hasFrameOf_X0_frameAt
theorem dX0_hasFrameOf_0 : decode cX0_hasFrameOf 0 = .ok (.aload_n 0, 1) := by decide +kernel
theorem dX0_hasFrameOf_1 : decode cX0_hasFrameOf 1 = .ok (.aload_n 0, 1) := by decide +kernel
theorem dX0_hasFrameOf_2 : decode cX0_hasFrameOf 2 = .ok (.getfield 12, 3) := by decide +kernel
theorem dX0_hasFrameOf_5 : decode cX0_hasFrameOf 5 = .ok (.invokevirtual 26, 3) := by decide +kernel
theorem dX0_hasFrameOf_8 : decode cX0_hasFrameOf 8 = .ok (.iconst 1, 1) := by decide +kernel
theorem dX0_hasFrameOf_9 : decode cX0_hasFrameOf 9 = .ok (.isub, 1) := by decide +kernel
theorem dX0_hasFrameOf_10 : decode cX0_hasFrameOf 10 = .ok (.invokevirtual 36, 3) := by decide +kernel
theorem dX0_hasFrameOf_13 : decode cX0_hasFrameOf 13 = .ok (.astore_n 2, 1) := by decide +kernel
theorem dX0_hasFrameOf_14 : decode cX0_hasFrameOf 14 = .ok (.aload_n 2, 1) := by decide +kernel
theorem dX0_hasFrameOf_15 : decode cX0_hasFrameOf 15 = .ok (.ifnull 15, 3) := by decide +kernel
theorem dX0_hasFrameOf_18 : decode cX0_hasFrameOf 18 = .ok (.aload_n 2, 1) := by decide +kernel
theorem dX0_hasFrameOf_19 : decode cX0_hasFrameOf 19 = .ok (.getfield 40, 3) := by decide +kernel
theorem dX0_hasFrameOf_22 : decode cX0_hasFrameOf 22 = .ok (.iload_n 1, 1) := by decide +kernel
theorem dX0_hasFrameOf_23 : decode cX0_hasFrameOf 23 = .ok (.if_icmp .ne 7, 3) := by decide +kernel
theorem dX0_hasFrameOf_26 : decode cX0_hasFrameOf 26 = .ok (.iconst 1, 1) := by decide +kernel
theorem dX0_hasFrameOf_27 : decode cX0_hasFrameOf 27 = .ok (.goto 4, 3) := by decide +kernel
theorem dX0_hasFrameOf_30 : decode cX0_hasFrameOf 30 = .ok (.iconst 0, 1) := by decide +kernel
theorem dX0_hasFrameOf_31 : decode cX0_hasFrameOf 31 = .ok (.ireturn, 1) := by decide +kernel
set_option maxRecDepth 20000 in
theorem ggX0_add_Jx4a65c_add_9ea2d : GoodIn wsX0_add wsJx4a65c_add_9ea2d := goodIn_r _ [6, 7, 8, 9, 10, 11, 12, 13, 5, 14, 15, 16, 17, 18, 19, 20, 21, 22, 23, 24, 25, 26, 27, 28, 29, 30, 31, 32, 33, 34, 35, 36, 37, 38, 39, 40, 41, 42, 43, 44, 45, 46, 47, 48, 49, 50, 51, 52, 53, 54, 55, 56, 57, 65, 66, 67] (by decide +kernel) (by decide +kernel)
set_option maxRecDepth 20000 in
theorem gX0_add_Jx4a65c_add_9ea2d : GoodIn wsX0_add (wsV RX0 44 RJx4a65c yJx4a65c_add_9ea2d wsJx4a65c_add_9ea2d) := goodIn_app (goodIn_of _ (by decide +kernel)) ggX0_add_Jx4a65c_add_9ea2d
set_option maxRecDepth 20000 in
theorem ggX0_add_Jx4a65c_size_8abf5 : GoodIn wsX0_add wsJx4a65c_size_8abf5 := goodIn_r _ [61, 10, 65, 66, 67] (by decide +kernel) (by decide +kernel)
set_option maxRecDepth 20000 in
theorem gX0_add_Jx4a65c_size_8abf5 : GoodIn wsX0_add (wsV RX0 26 RJx4a65c yJx4a65c_size_8abf5 wsJx4a65c_size_8abf5) := goodIn_app (goodIn_of _ (by decide +kernel)) ggX0_add_Jx4a65c_size_8abf5
theorem dX0_add_0 : decode cX0_add 0 = .ok (.aload_n 0, 1) := by decide +kernel
theorem dX0_add_1 : decode cX0_add 1 = .ok (.getfield 12, 3) := by decide +kernel
theorem dX0_add_4 : decode cX0_add 4 = .ok (.aload_n 1, 1) := by decide +kernel
theorem dX0_add_5 : decode cX0_add 5 = .ok (.invokevirtual 44, 3) := by decide +kernel
theorem dX0_add_8 : decode cX0_add 8 = .ok (.pop, 1) := by decide +kernel
theorem dX0_add_9 : decode cX0_add 9 = .ok (.aload_n 0, 1) := by decide +kernel
theorem dX0_add_10 : decode cX0_add 10 = .ok (.getfield 12, 3) := by decide +kernel
theorem dX0_add_13 : decode cX0_add 13 = .ok (.invokevirtual 26, 3) := by decide +kernel
theorem dX0_add_16 : decode cX0_add 16 = .ok (.iconst 1, 1) := by decide +kernel
theorem dX0_add_17 : decode cX0_add 17 = .ok (.isub, 1) := by decide +kernel
theorem dX0_add_18 : decode cX0_add 18 = .ok (.ireturn, 1) := by decide +kernel
set_option maxRecDepth 20000 in
theorem ggX0_clear_Jx4a65c_clear_da8c8 : GoodIn wsX0_clear wsJx4a65c_clear_da8c8 := goodIn_r _ [6, 7, 8, 9, 10, 14, 15, 16] (by decide +kernel) (by decide +kernel)
set_option maxRecDepth 20000 in
theorem gX0_clear_Jx4a65c_clear_da8c8 : GoodIn wsX0_clear (wsV RX0 48 RJx4a65c yJx4a65c_clear_da8c8 wsJx4a65c_clear_da8c8) := goodIn_app (goodIn_of _ (by decide +kernel)) ggX0_clear_Jx4a65c_clear_da8c8
theorem dX0_clear_0 : decode cX0_clear 0 = .ok (.aload_n 0, 1) := by decide +kernel
theorem dX0_clear_1 : decode cX0_clear 1 = .ok (.getfield 12, 3) := by decide +kernel
theorem dX0_clear_4 : decode cX0_clear 4 = .ok (.invokevirtual 48, 3) := by decide +kernel
theorem dX0_clear_7 : decode cX0_clear 7 = .ok (.return_, 1) := by decide +kernel
set_option maxRecDepth 20000 in
theorem ggX0_measure_J7_fill_d0a16 : GoodIn wsX0_measure wsJ7_fill_d0a16 := goodIn_r _ [8] (by decide +kernel) (by decide +kernel)
set_option maxRecDepth 20000 in
theorem gX0_measure_J7_fill_d0a16 : GoodIn wsX0_measure (va_wsS RX0 51 yJ7_fill_d0a16 wsJ7_fill_d0a16) := goodIn_app (goodIn_of _ (by decide +kernel)) ggX0_measure_J7_fill_d0a16
set_option maxRecDepth 20000 in
theorem ggX0_measure_J7_fill_53178 : GoodIn wsX0_measure wsJ7_fill_53178 := goodIn_r _ [11] (by decide +kernel) (by decide +kernel)
set_option maxRecDepth 20000 in
theorem gX0_measure_J7_fill_53178 : GoodIn wsX0_measure (va_wsS RX0 57 yJ7_fill_53178 wsJ7_fill_53178) := goodIn_app (goodIn_of _ (by decide +kernel)) ggX0_measure_J7_fill_53178
set_option maxRecDepth 20000 in
theorem ggX0_measure_Jx4a65c_size_8abf5 : GoodIn wsX0_measure wsJx4a65c_size_8abf5 := goodIn_r _ [16, 17, 66, 67, 68] (by decide +kernel) (by decide +kernel)
set_option maxRecDepth 20000 in
theorem gX0_measure_Jx4a65c_size_8abf5 : GoodIn wsX0_measure (wsV RX0 26 RJx4a65c yJx4a65c_size_8abf5 wsJx4a65c_size_8abf5) := goodIn_app (goodIn_of _ (by decide +kernel)) ggX0_measure_Jx4a65c_size_8abf5
set_option maxRecDepth 20000 in
theorem ggX0_measure_Jx4a65c_get_915e3 : GoodIn wsX0_measure wsJx4a65c_get_915e3 := goodIn_r _ [21, 17, 22, 23, 24, 25, 26, 27, 28, 29, 30, 31, 32, 15, 33, 34, 66, 67, 68] (by decide +kernel) (by decide +kernel)
set_option maxRecDepth 20000 in
theorem gX0_measure_Jx4a65c_get_915e3 : GoodIn wsX0_measure (wsV RX0 30 RJx4a65c yJx4a65c_get_915e3 wsJx4a65c_get_915e3) := goodIn_app (goodIn_of _ (by decide +kernel)) ggX0_measure_Jx4a65c_get_915e3
set_option maxRecDepth 20000 in
theorem ggX0_measure_X3_lightAt : GoodIn wsX0_measure wsX3_lightAt := goodIn_r _ [39, 40, 41, 42, 43, 38, 44, 45, 46, 47, 64, 65] (by decide +kernel) (by decide +kernel)
set_option maxRecDepth 20000 in
theorem gX0_measure_X3_lightAt : GoodIn wsX0_measure (wsV RX0 60 RX3 yX3_lightAt wsX3_lightAt) := goodIn_app (goodIn_of _ (by decide +kernel)) ggX0_measure_X3_lightAt
set_option maxRecDepth 20000 in
theorem ggX0_measure_X0_addPair : GoodIn wsX0_measure wsX0_addPair := goodIn_r _ [52, 1, 53, 54, 55, 56, 2, 45, 46, 47, 61, 62, 63] (by decide +kernel) (by decide +kernel)
set_option maxRecDepth 20000 in
theorem gX0_measure_X0_addPair : GoodIn wsX0_measure (wsV RX0 64 RX0 yX0_addPair wsX0_addPair) := goodIn_app (goodIn_of _ (by decide +kernel)) ggX0_measure_X0_addPair
set_option maxRecDepth 20000 in
theorem ggX0_measure_X0_bestDelay : GoodIn wsX0_measure wsX0_bestDelay := goodIn_r _ [60, 2, 1, 61, 62, 63] (by decide +kernel) (by decide +kernel)
set_option maxRecDepth 20000 in
theorem gX0_measure_X0_bestDelay : GoodIn wsX0_measure (wsV RX0 68 RX0 yX0_bestDelay wsX0_bestDelay) := goodIn_app (goodIn_of _ (by decide +kernel)) ggX0_measure_X0_bestDelay
theorem dX0_measure_0 : decode cX0_measure 0 = .ok (.aload_n 0, 1) := by decide +kernel
theorem dX0_measure_1 : decode cX0_measure 1 = .ok (.getfield 18, 3) := by decide +kernel
theorem dX0_measure_4 : decode cX0_measure 4 = .ok (.lconst 0, 1) := by decide +kernel
theorem dX0_measure_5 : decode cX0_measure 5 = .ok (.invokestatic 51, 3) := by decide +kernel
theorem dX0_measure_8 : decode cX0_measure 8 = .ok (.aload_n 0, 1) := by decide +kernel
theorem dX0_measure_9 : decode cX0_measure 9 = .ok (.getfield 22, 3) := by decide +kernel
theorem dX0_measure_12 : decode cX0_measure 12 = .ok (.iconst 0, 1) := by decide +kernel
theorem dX0_measure_13 : decode cX0_measure 13 = .ok (.invokestatic 57, 3) := by decide +kernel
theorem dX0_measure_16 : decode cX0_measure 16 = .ok (.iconst 0, 1) := by decide +kernel
theorem dX0_measure_17 : decode cX0_measure 17 = .ok (.istore 6, 2) := by decide +kernel
theorem dX0_measure_19 : decode cX0_measure 19 = .ok (.iload 6, 2) := by decide +kernel
theorem dX0_measure_21 : decode cX0_measure 21 = .ok (.aload_n 0, 1) := by decide +kernel
theorem dX0_measure_22 : decode cX0_measure 22 = .ok (.getfield 12, 3) := by decide +kernel
theorem dX0_measure_25 : decode cX0_measure 25 = .ok (.invokevirtual 26, 3) := by decide +kernel
theorem dX0_measure_28 : decode cX0_measure 28 = .ok (.if_icmp .ge 127, 3) := by decide +kernel
theorem dX0_measure_31 : decode cX0_measure 31 = .ok (.aload_n 0, 1) := by decide +kernel
theorem dX0_measure_32 : decode cX0_measure 32 = .ok (.getfield 12, 3) := by decide +kernel
theorem dX0_measure_35 : decode cX0_measure 35 = .ok (.iload 6, 2) := by decide +kernel
theorem dX0_measure_37 : decode cX0_measure 37 = .ok (.invokevirtual 30, 3) := by decide +kernel
theorem dX0_measure_40 : decode cX0_measure 40 = .ok (.checkcast 34, 3) := by decide +kernel
theorem dX0_measure_43 : decode cX0_measure 43 = .ok (.iload_n 1, 1) := by decide +kernel
theorem dX0_measure_44 : decode cX0_measure 44 = .ok (.iload_n 2, 1) := by decide +kernel
theorem dX0_measure_45 : decode cX0_measure 45 = .ok (.invokevirtual 60, 3) := by decide +kernel
theorem dX0_measure_48 : decode cX0_measure 48 = .ok (.istore 7, 2) := by decide +kernel
theorem dX0_measure_50 : decode cX0_measure 50 = .ok (.iload 6, 2) := by decide +kernel
theorem dX0_measure_52 : decode cX0_measure 52 = .ok (.istore 8, 2) := by decide +kernel
theorem dX0_measure_54 : decode cX0_measure 54 = .ok (.iload 7, 2) := by decide +kernel
theorem dX0_measure_56 : decode cX0_measure 56 = .ok (.iconst (-1), 1) := by decide +kernel
theorem dX0_measure_57 : decode cX0_measure 57 = .ok (.if_icmp .eq 92, 3) := by decide +kernel
theorem dX0_measure_60 : decode cX0_measure 60 = .ok (.iload 8, 2) := by decide +kernel
theorem dX0_measure_62 : decode cX0_measure 62 = .ok (.aload_n 0, 1) := by decide +kernel
theorem dX0_measure_63 : decode cX0_measure 63 = .ok (.getfield 12, 3) := by decide +kernel
theorem dX0_measure_66 : decode cX0_measure 66 = .ok (.invokevirtual 26, 3) := by decide +kernel
theorem dX0_measure_69 : decode cX0_measure 69 = .ok (.if_icmp .ge 80, 3) := by decide +kernel
theorem dX0_measure_72 : decode cX0_measure 72 = .ok (.aload_n 0, 1) := by decide +kernel
theorem dX0_measure_73 : decode cX0_measure 73 = .ok (.getfield 12, 3) := by decide +kernel
theorem dX0_measure_76 : decode cX0_measure 76 = .ok (.iload 8, 2) := by decide +kernel
theorem dX0_measure_78 : decode cX0_measure 78 = .ok (.invokevirtual 30, 3) := by decide +kernel
theorem dX0_measure_81 : decode cX0_measure 81 = .ok (.checkcast 34, 3) := by decide +kernel
theorem dX0_measure_84 : decode cX0_measure 84 = .ok (.iload_n 1, 1) := by decide +kernel
theorem dX0_measure_85 : decode cX0_measure 85 = .ok (.iload_n 3, 1) := by decide +kernel
theorem dX0_measure_86 : decode cX0_measure 86 = .ok (.invokevirtual 60, 3) := by decide +kernel
theorem dX0_measure_89 : decode cX0_measure 89 = .ok (.istore 9, 2) := by decide +kernel
theorem dX0_measure_91 : decode cX0_measure 91 = .ok (.iload 9, 2) := by decide +kernel
theorem dX0_measure_93 : decode cX0_measure 93 = .ok (.iconst (-1), 1) := by decide +kernel
theorem dX0_measure_94 : decode cX0_measure 94 = .ok (.if_icmp .eq 49, 3) := by decide +kernel
theorem dX0_measure_97 : decode cX0_measure 97 = .ok (.aload_n 0, 1) := by decide +kernel
theorem dX0_measure_98 : decode cX0_measure 98 = .ok (.aload_n 0, 1) := by decide +kernel
theorem dX0_measure_99 : decode cX0_measure 99 = .ok (.getfield 12, 3) := by decide +kernel
theorem dX0_measure_102 : decode cX0_measure 102 = .ok (.iload 8, 2) := by decide +kernel
theorem dX0_measure_104 : decode cX0_measure 104 = .ok (.invokevirtual 30, 3) := by decide +kernel
theorem dX0_measure_107 : decode cX0_measure 107 = .ok (.checkcast 34, 3) := by decide +kernel
theorem dX0_measure_110 : decode cX0_measure 110 = .ok (.getfield 40, 3) := by decide +kernel
theorem dX0_measure_113 : decode cX0_measure 113 = .ok (.aload_n 0, 1) := by decide +kernel
theorem dX0_measure_114 : decode cX0_measure 114 = .ok (.getfield 12, 3) := by decide +kernel
theorem dX0_measure_117 : decode cX0_measure 117 = .ok (.iload 6, 2) := by decide +kernel
theorem dX0_measure_119 : decode cX0_measure 119 = .ok (.invokevirtual 30, 3) := by decide +kernel
theorem dX0_measure_122 : decode cX0_measure 122 = .ok (.checkcast 34, 3) := by decide +kernel
theorem dX0_measure_125 : decode cX0_measure 125 = .ok (.getfield 40, 3) := by decide +kernel
theorem dX0_measure_128 : decode cX0_measure 128 = .ok (.isub, 1) := by decide +kernel
theorem dX0_measure_129 : decode cX0_measure 129 = .ok (.iload 7, 2) := by decide +kernel
theorem dX0_measure_131 : decode cX0_measure 131 = .ok (.iload 5, 2) := by decide +kernel
theorem dX0_measure_133 : decode cX0_measure 133 = .ok (.imul, 1) := by decide +kernel
theorem dX0_measure_134 : decode cX0_measure 134 = .ok (.iload 9, 2) := by decide +kernel
theorem dX0_measure_136 : decode cX0_measure 136 = .ok (.iload 4, 2) := by decide +kernel
theorem dX0_measure_138 : decode cX0_measure 138 = .ok (.imul, 1) := by decide +kernel
theorem dX0_measure_139 : decode cX0_measure 139 = .ok (.isub, 1) := by decide +kernel
theorem dX0_measure_140 : decode cX0_measure 140 = .ok (.invokevirtual 64, 3) := by decide +kernel
theorem dX0_measure_143 : decode cX0_measure 143 = .ok (.iinc 8 1, 3) := by decide +kernel
theorem dX0_measure_146 : decode cX0_measure 146 = .ok (.goto (-92), 3) := by decide +kernel
theorem dX0_measure_149 : decode cX0_measure 149 = .ok (.iinc 6 1, 3) := by decide +kernel
theorem dX0_measure_152 : decode cX0_measure 152 = .ok (.goto (-133), 3) := by decide +kernel
theorem dX0_measure_155 : decode cX0_measure 155 = .ok (.aload_n 0, 1) := by decide +kernel
theorem dX0_measure_156 : decode cX0_measure 156 = .ok (.invokevirtual 68, 3) := by decide +kernel
theorem dX0_measure_159 : decode cX0_measure 159 = .ok (.ireturn, 1) := by decide +kernel
set_option maxRecDepth 20000 in
theorem ggX0_addPair_X8_isWithin : GoodIn wsX0_addPair wsX8_isWithin := goodIn_r _ [9] (by decide +kernel) (by decide +kernel)
set_option maxRecDepth 20000 in
theorem gX0_addPair_X8_isWithin_n71 : GoodIn wsX0_addPair (wsX8_isWithin) := ggX0_addPair_X8_isWithin
theorem dX0_addPair_0 : decode cX0_addPair 0 = .ok (.iload_n 1, 1) := by decide +kernel
theorem dX0_addPair_1 : decode cX0_addPair 1 = .ok (.iconst 0, 1) := by decide +kernel
theorem dX0_addPair_2 : decode cX0_addPair 2 = .ok (.sipush 150, 3) := by decide +kernel
theorem dX0_addPair_5 : decode cX0_addPair 5 = .ok (.invokestatic 71, 3) := by decide +kernel
theorem dX0_addPair_8 : decode cX0_addPair 8 = .ok (.ifCond .eq 27, 3) := by decide +kernel
theorem dX0_addPair_11 : decode cX0_addPair 11 = .ok (.aload_n 0, 1) := by decide +kernel
theorem dX0_addPair_12 : decode cX0_addPair 12 = .ok (.getfield 18, 3) := by decide +kernel
theorem dX0_addPair_15 : decode cX0_addPair 15 = .ok (.iload_n 1, 1) := by decide +kernel
theorem dX0_addPair_16 : decode cX0_addPair 16 = .ok (.dup2, 1) := by decide +kernel
theorem dX0_addPair_17 : decode cX0_addPair 17 = .ok (.laload, 1) := by decide +kernel
theorem dX0_addPair_18 : decode cX0_addPair 18 = .ok (.iload_n 2, 1) := by decide +kernel
theorem dX0_addPair_19 : decode cX0_addPair 19 = .ok (.invokestatic 75, 3) := by decide +kernel
theorem dX0_addPair_22 : decode cX0_addPair 22 = .ok (.i2l, 1) := by decide +kernel
theorem dX0_addPair_23 : decode cX0_addPair 23 = .ok (.ladd, 1) := by decide +kernel
theorem dX0_addPair_24 : decode cX0_addPair 24 = .ok (.lastore, 1) := by decide +kernel
theorem dX0_addPair_25 : decode cX0_addPair 25 = .ok (.aload_n 0, 1) := by decide +kernel
theorem dX0_addPair_26 : decode cX0_addPair 26 = .ok (.getfield 22, 3) := by decide +kernel
theorem dX0_addPair_29 : decode cX0_addPair 29 = .ok (.iload_n 1, 1) := by decide +kernel
theorem dX0_addPair_30 : decode cX0_addPair 30 = .ok (.dup2, 1) := by decide +kernel
theorem dX0_addPair_31 : decode cX0_addPair 31 = .ok (.iaload, 1) := by decide +kernel
theorem dX0_addPair_32 : decode cX0_addPair 32 = .ok (.iconst 1, 1) := by decide +kernel
theorem dX0_addPair_33 : decode cX0_addPair 33 = .ok (.iadd, 1) := by decide +kernel
theorem dX0_addPair_34 : decode cX0_addPair 34 = .ok (.iastore, 1) := by decide +kernel
theorem dX0_addPair_35 : decode cX0_addPair 35 = .ok (.return_, 1) := by decide +kernel
theorem dX0_bestDelay_0 : decode cX0_bestDelay 0 = .ok (.iconst (-1), 1) := by decide +kernel
theorem dX0_bestDelay_1 : decode cX0_bestDelay 1 = .ok (.istore_n 1, 1) := by decide +kernel
theorem dX0_bestDelay_2 : decode cX0_bestDelay 2 = .ok (.iconst 0, 1) := by decide +kernel
theorem dX0_bestDelay_3 : decode cX0_bestDelay 3 = .ok (.istore_n 2, 1) := by decide +kernel
theorem dX0_bestDelay_4 : decode cX0_bestDelay 4 = .ok (.iload_n 2, 1) := by decide +kernel
theorem dX0_bestDelay_5 : decode cX0_bestDelay 5 = .ok (.sipush 150, 3) := by decide +kernel
theorem dX0_bestDelay_8 : decode cX0_bestDelay 8 = .ok (.if_icmp .gt 58, 3) := by decide +kernel
theorem dX0_bestDelay_11 : decode cX0_bestDelay 11 = .ok (.aload_n 0, 1) := by decide +kernel
theorem dX0_bestDelay_12 : decode cX0_bestDelay 12 = .ok (.getfield 22, 3) := by decide +kernel
theorem dX0_bestDelay_15 : decode cX0_bestDelay 15 = .ok (.iload_n 2, 1) := by decide +kernel
theorem dX0_bestDelay_16 : decode cX0_bestDelay 16 = .ok (.iaload, 1) := by decide +kernel
theorem dX0_bestDelay_17 : decode cX0_bestDelay 17 = .ok (.iconst 3, 1) := by decide +kernel
theorem dX0_bestDelay_18 : decode cX0_bestDelay 18 = .ok (.if_icmp .lt 42, 3) := by decide +kernel
theorem dX0_bestDelay_21 : decode cX0_bestDelay 21 = .ok (.iload_n 1, 1) := by decide +kernel
theorem dX0_bestDelay_22 : decode cX0_bestDelay 22 = .ok (.iconst (-1), 1) := by decide +kernel
theorem dX0_bestDelay_23 : decode cX0_bestDelay 23 = .ok (.if_icmp .eq 35, 3) := by decide +kernel
theorem dX0_bestDelay_26 : decode cX0_bestDelay 26 = .ok (.aload_n 0, 1) := by decide +kernel
theorem dX0_bestDelay_27 : decode cX0_bestDelay 27 = .ok (.getfield 18, 3) := by decide +kernel
theorem dX0_bestDelay_30 : decode cX0_bestDelay 30 = .ok (.iload_n 2, 1) := by decide +kernel
theorem dX0_bestDelay_31 : decode cX0_bestDelay 31 = .ok (.laload, 1) := by decide +kernel
theorem dX0_bestDelay_32 : decode cX0_bestDelay 32 = .ok (.aload_n 0, 1) := by decide +kernel
theorem dX0_bestDelay_33 : decode cX0_bestDelay 33 = .ok (.getfield 22, 3) := by decide +kernel
theorem dX0_bestDelay_36 : decode cX0_bestDelay 36 = .ok (.iload_n 1, 1) := by decide +kernel
theorem dX0_bestDelay_37 : decode cX0_bestDelay 37 = .ok (.iaload, 1) := by decide +kernel
theorem dX0_bestDelay_38 : decode cX0_bestDelay 38 = .ok (.i2l, 1) := by decide +kernel
theorem dX0_bestDelay_39 : decode cX0_bestDelay 39 = .ok (.lmul, 1) := by decide +kernel
theorem dX0_bestDelay_40 : decode cX0_bestDelay 40 = .ok (.aload_n 0, 1) := by decide +kernel
theorem dX0_bestDelay_41 : decode cX0_bestDelay 41 = .ok (.getfield 18, 3) := by decide +kernel
theorem dX0_bestDelay_44 : decode cX0_bestDelay 44 = .ok (.iload_n 1, 1) := by decide +kernel
theorem dX0_bestDelay_45 : decode cX0_bestDelay 45 = .ok (.laload, 1) := by decide +kernel
theorem dX0_bestDelay_46 : decode cX0_bestDelay 46 = .ok (.aload_n 0, 1) := by decide +kernel
theorem dX0_bestDelay_47 : decode cX0_bestDelay 47 = .ok (.getfield 22, 3) := by decide +kernel
theorem dX0_bestDelay_50 : decode cX0_bestDelay 50 = .ok (.iload_n 2, 1) := by decide +kernel
theorem dX0_bestDelay_51 : decode cX0_bestDelay 51 = .ok (.iaload, 1) := by decide +kernel
theorem dX0_bestDelay_52 : decode cX0_bestDelay 52 = .ok (.i2l, 1) := by decide +kernel
theorem dX0_bestDelay_53 : decode cX0_bestDelay 53 = .ok (.lmul, 1) := by decide +kernel
theorem dX0_bestDelay_54 : decode cX0_bestDelay 54 = .ok (.lcmp, 1) := by decide +kernel
theorem dX0_bestDelay_55 : decode cX0_bestDelay 55 = .ok (.ifCond .ge 5, 3) := by decide +kernel
theorem dX0_bestDelay_58 : decode cX0_bestDelay 58 = .ok (.iload_n 2, 1) := by decide +kernel
theorem dX0_bestDelay_59 : decode cX0_bestDelay 59 = .ok (.istore_n 1, 1) := by decide +kernel
theorem dX0_bestDelay_60 : decode cX0_bestDelay 60 = .ok (.iinc 2 1, 3) := by decide +kernel
theorem dX0_bestDelay_63 : decode cX0_bestDelay 63 = .ok (.goto (-59), 3) := by decide +kernel
theorem dX0_bestDelay_66 : decode cX0_bestDelay 66 = .ok (.iload_n 1, 1) := by decide +kernel
theorem dX0_bestDelay_67 : decode cX0_bestDelay 67 = .ok (.ireturn, 1) := by decide +kernel
set_option maxRecDepth 20000 in
theorem ggX1_init_J7_fill_53178 : GoodIn wsX1_init wsJ7_fill_53178 := goodIn_r _ [14] (by decide +kernel) (by decide +kernel)
set_option maxRecDepth 20000 in
theorem gX1_init_J7_fill_53178 : GoodIn wsX1_init (va_wsS RX1 30 yJ7_fill_53178 wsJ7_fill_53178) := goodIn_app (goodIn_of _ (by decide +kernel)) ggX1_init_J7_fill_53178
theorem dX1_init_0 : decode cX1_init 0 = .ok (.aload_n 0, 1) := by decide +kernel
theorem dX1_init_1 : decode cX1_init 1 = .ok (.invokespecial 3, 3) := by decide +kernel
theorem dX1_init_4 : decode cX1_init 4 = .ok (.aload_n 0, 1) := by decide +kernel
theorem dX1_init_5 : decode cX1_init 5 = .ok (.iconst 2, 1) := by decide +kernel
theorem dX1_init_6 : decode cX1_init 6 = .ok (.newarray .int, 2) := by decide +kernel
theorem dX1_init_8 : decode cX1_init 8 = .ok (.putfield 9, 3) := by decide +kernel
theorem dX1_init_11 : decode cX1_init 11 = .ok (.aload_n 0, 1) := by decide +kernel
theorem dX1_init_12 : decode cX1_init 12 = .ok (.iconst 2, 1) := by decide +kernel
theorem dX1_init_13 : decode cX1_init 13 = .ok (.newarray .int, 2) := by decide +kernel
theorem dX1_init_15 : decode cX1_init 15 = .ok (.putfield 15, 3) := by decide +kernel
theorem dX1_init_18 : decode cX1_init 18 = .ok (.aload_n 0, 1) := by decide +kernel
theorem dX1_init_19 : decode cX1_init 19 = .ok (.iconst 0, 1) := by decide +kernel
theorem dX1_init_20 : decode cX1_init 20 = .ok (.putfield 18, 3) := by decide +kernel
theorem dX1_init_23 : decode cX1_init 23 = .ok (.aload_n 0, 1) := by decide +kernel
theorem dX1_init_24 : decode cX1_init 24 = .ok (.iconst 5, 1) := by decide +kernel
theorem dX1_init_25 : decode cX1_init 25 = .ok (.newarray .boolean, 2) := by decide +kernel
theorem dX1_init_27 : decode cX1_init 27 = .ok (.putfield 22, 3) := by decide +kernel
theorem dX1_init_30 : decode cX1_init 30 = .ok (.aload_n 0, 1) := by decide +kernel
theorem dX1_init_31 : decode cX1_init 31 = .ok (.iconst 0, 1) := by decide +kernel
theorem dX1_init_32 : decode cX1_init 32 = .ok (.putfield 26, 3) := by decide +kernel
theorem dX1_init_35 : decode cX1_init 35 = .ok (.aload_n 0, 1) := by decide +kernel
theorem dX1_init_36 : decode cX1_init 36 = .ok (.getfield 9, 3) := by decide +kernel
theorem dX1_init_39 : decode cX1_init 39 = .ok (.iconst (-1), 1) := by decide +kernel
theorem dX1_init_40 : decode cX1_init 40 = .ok (.invokestatic 30, 3) := by decide +kernel
theorem dX1_init_43 : decode cX1_init 43 = .ok (.aload_n 0, 1) := by decide +kernel
theorem dX1_init_44 : decode cX1_init 44 = .ok (.getfield 15, 3) := by decide +kernel
theorem dX1_init_47 : decode cX1_init 47 = .ok (.iconst (-1), 1) := by decide +kernel
theorem dX1_init_48 : decode cX1_init 48 = .ok (.invokestatic 30, 3) := by decide +kernel
theorem dX1_init_51 : decode cX1_init 51 = .ok (.return_, 1) := by decide +kernel
theorem dX1_hasHouse_0 : decode cX1_hasHouse 0 = .ok (.iload_n 1, 1) := by decide +kernel
theorem dX1_hasHouse_1 : decode cX1_hasHouse 1 = .ok (.ifCond .lt 12, 3) := by decide +kernel
theorem dX1_hasHouse_4 : decode cX1_hasHouse 4 = .ok (.iload_n 1, 1) := by decide +kernel
theorem dX1_hasHouse_5 : decode cX1_hasHouse 5 = .ok (.iconst 2, 1) := by decide +kernel
theorem dX1_hasHouse_6 : decode cX1_hasHouse 6 = .ok (.if_icmp .ge 7, 3) := by decide +kernel
theorem dX1_hasHouse_9 : decode cX1_hasHouse 9 = .ok (.iconst 1, 1) := by decide +kernel
theorem dX1_hasHouse_10 : decode cX1_hasHouse 10 = .ok (.goto 4, 3) := by decide +kernel
theorem dX1_hasHouse_13 : decode cX1_hasHouse 13 = .ok (.iconst 0, 1) := by decide +kernel
theorem dX1_hasHouse_14 : decode cX1_hasHouse 14 = .ok (.ireturn, 1) := by decide +kernel
theorem dX1_hasMind_0 : decode cX1_hasMind 0 = .ok (.iload_n 1, 1) := by decide +kernel
theorem dX1_hasMind_1 : decode cX1_hasMind 1 = .ok (.ifCond .lt 16, 3) := by decide +kernel
theorem dX1_hasMind_4 : decode cX1_hasMind 4 = .ok (.iload_n 1, 1) := by decide +kernel
theorem dX1_hasMind_5 : decode cX1_hasMind 5 = .ok (.aload_n 0, 1) := by decide +kernel
theorem dX1_hasMind_6 : decode cX1_hasMind 6 = .ok (.getfield 22, 3) := by decide +kernel
theorem dX1_hasMind_9 : decode cX1_hasMind 9 = .ok (.arraylength, 1) := by decide +kernel
theorem dX1_hasMind_10 : decode cX1_hasMind 10 = .ok (.if_icmp .ge 7, 3) := by decide +kernel
theorem dX1_hasMind_13 : decode cX1_hasMind 13 = .ok (.iconst 1, 1) := by decide +kernel
theorem dX1_hasMind_14 : decode cX1_hasMind 14 = .ok (.goto 4, 3) := by decide +kernel
theorem dX1_hasMind_17 : decode cX1_hasMind 17 = .ok (.iconst 0, 1) := by decide +kernel
theorem dX1_hasMind_18 : decode cX1_hasMind 18 = .ok (.ireturn, 1) := by decide +kernel
theorem dX1_areOpen_0 : decode cX1_areOpen 0 = .ok (.aload_n 0, 1) := by decide +kernel
theorem dX1_areOpen_1 : decode cX1_areOpen 1 = .ok (.getfield 26, 3) := by decide +kernel
theorem dX1_areOpen_4 : decode cX1_areOpen 4 = .ok (.ireturn, 1) := by decide +kernel
set_option maxRecDepth 20000 in
theorem ggX1_add_X1_hasHouse : GoodIn wsX1_add wsX1_hasHouse := goodIn_r _ [8] (by decide +kernel) (by decide +kernel)
set_option maxRecDepth 20000 in
theorem gX1_add_X1_hasHouse : GoodIn wsX1_add (wsV RX1 36 RX1 yX1_hasHouse wsX1_hasHouse) := goodIn_app (goodIn_of _ (by decide +kernel)) ggX1_add_X1_hasHouse
theorem dX1_add_0 : decode cX1_add 0 = .ok (.aload_n 0, 1) := by decide +kernel
theorem dX1_add_1 : decode cX1_add 1 = .ok (.iload_n 1, 1) := by decide +kernel
theorem dX1_add_2 : decode cX1_add 2 = .ok (.invokevirtual 36, 3) := by decide +kernel
theorem dX1_add_5 : decode cX1_add 5 = .ok (.ifCond .eq 27, 3) := by decide +kernel
theorem dX1_add_8 : decode cX1_add 8 = .ok (.aload_n 0, 1) := by decide +kernel
theorem dX1_add_9 : decode cX1_add 9 = .ok (.getfield 9, 3) := by decide +kernel
theorem dX1_add_12 : decode cX1_add 12 = .ok (.iload_n 1, 1) := by decide +kernel
theorem dX1_add_13 : decode cX1_add 13 = .ok (.iload_n 2, 1) := by decide +kernel
theorem dX1_add_14 : decode cX1_add 14 = .ok (.iastore, 1) := by decide +kernel
theorem dX1_add_15 : decode cX1_add 15 = .ok (.aload_n 0, 1) := by decide +kernel
theorem dX1_add_16 : decode cX1_add 16 = .ok (.getfield 15, 3) := by decide +kernel
theorem dX1_add_19 : decode cX1_add 19 = .ok (.iload_n 1, 1) := by decide +kernel
theorem dX1_add_20 : decode cX1_add 20 = .ok (.iload_n 3, 1) := by decide +kernel
theorem dX1_add_21 : decode cX1_add 21 = .ok (.iastore, 1) := by decide +kernel
theorem dX1_add_22 : decode cX1_add 22 = .ok (.aload_n 0, 1) := by decide +kernel
theorem dX1_add_23 : decode cX1_add 23 = .ok (.dup, 1) := by decide +kernel
theorem dX1_add_24 : decode cX1_add 24 = .ok (.getfield 18, 3) := by decide +kernel
theorem dX1_add_27 : decode cX1_add 27 = .ok (.iconst 1, 1) := by decide +kernel
theorem dX1_add_28 : decode cX1_add 28 = .ok (.iadd, 1) := by decide +kernel
theorem dX1_add_29 : decode cX1_add 29 = .ok (.putfield 18, 3) := by decide +kernel
theorem dX1_add_32 : decode cX1_add 32 = .ok (.aload_n 0, 1) := by decide +kernel
theorem dX1_add_33 : decode cX1_add 33 = .ok (.getfield 18, 3) := by decide +kernel
theorem dX1_add_36 : decode cX1_add 36 = .ok (.ireturn, 1) := by decide +kernel
set_option maxRecDepth 20000 in
theorem ggX1_growthBy_X1_hasHouse : GoodIn wsX1_growthBy wsX1_hasHouse := goodIn_r _ [6] (by decide +kernel) (by decide +kernel)
set_option maxRecDepth 20000 in
theorem gX1_growthBy_X1_hasHouse : GoodIn wsX1_growthBy (wsV RX1 36 RX1 yX1_hasHouse wsX1_hasHouse) := goodIn_app (goodIn_of _ (by decide +kernel)) ggX1_growthBy_X1_hasHouse
theorem dX1_growthBy_0 : decode cX1_growthBy 0 = .ok (.aload_n 0, 1) := by decide +kernel
theorem dX1_growthBy_1 : decode cX1_growthBy 1 = .ok (.iload_n 1, 1) := by decide +kernel
theorem dX1_growthBy_2 : decode cX1_growthBy 2 = .ok (.invokevirtual 36, 3) := by decide +kernel
theorem dX1_growthBy_5 : decode cX1_growthBy 5 = .ok (.ifCond .eq 12, 3) := by decide +kernel
theorem dX1_growthBy_8 : decode cX1_growthBy 8 = .ok (.aload_n 0, 1) := by decide +kernel
theorem dX1_growthBy_9 : decode cX1_growthBy 9 = .ok (.getfield 9, 3) := by decide +kernel
theorem dX1_growthBy_12 : decode cX1_growthBy 12 = .ok (.iload_n 1, 1) := by decide +kernel
theorem dX1_growthBy_13 : decode cX1_growthBy 13 = .ok (.iaload, 1) := by decide +kernel
theorem dX1_growthBy_14 : decode cX1_growthBy 14 = .ok (.goto 4, 3) := by decide +kernel
theorem dX1_growthBy_17 : decode cX1_growthBy 17 = .ok (.iconst (-1), 1) := by decide +kernel
theorem dX1_growthBy_18 : decode cX1_growthBy 18 = .ok (.ireturn, 1) := by decide +kernel
set_option maxRecDepth 20000 in
theorem ggX1_hasBooking_X1_massesThen : GoodIn wsX1_hasBooking wsX1_massesThen := goodIn_r _ [5, 6, 7, 8, 9, 4, 10, 11, 12, 13, 14, 15] (by decide +kernel) (by decide +kernel)
set_option maxRecDepth 20000 in
theorem gX1_hasBooking_X1_massesThen : GoodIn wsX1_hasBooking (wsV RX1 40 RX1 yX1_massesThen wsX1_massesThen) := goodIn_app (goodIn_of _ (by decide +kernel)) ggX1_hasBooking_X1_massesThen
theorem dX1_hasBooking_0 : decode cX1_hasBooking 0 = .ok (.aload_n 0, 1) := by decide +kernel
theorem dX1_hasBooking_1 : decode cX1_hasBooking 1 = .ok (.iload_n 1, 1) := by decide +kernel
theorem dX1_hasBooking_2 : decode cX1_hasBooking 2 = .ok (.invokevirtual 40, 3) := by decide +kernel
theorem dX1_hasBooking_5 : decode cX1_hasBooking 5 = .ok (.iconst (-1), 1) := by decide +kernel
theorem dX1_hasBooking_6 : decode cX1_hasBooking 6 = .ok (.if_icmp .eq 7, 3) := by decide +kernel
theorem dX1_hasBooking_9 : decode cX1_hasBooking 9 = .ok (.iconst 1, 1) := by decide +kernel
theorem dX1_hasBooking_10 : decode cX1_hasBooking 10 = .ok (.goto 4, 3) := by decide +kernel
theorem dX1_hasBooking_13 : decode cX1_hasBooking 13 = .ok (.iconst 0, 1) := by decide +kernel
theorem dX1_hasBooking_14 : decode cX1_hasBooking 14 = .ok (.ireturn, 1) := by decide +kernel
set_option maxRecDepth 20000 in
theorem ggX1_massesThen_X1_hasHouse : GoodIn wsX1_massesThen wsX1_hasHouse := goodIn_r _ [6] (by decide +kernel) (by decide +kernel)
set_option maxRecDepth 20000 in
theorem gX1_massesThen_X1_hasHouse : GoodIn wsX1_massesThen (wsV RX1 36 RX1 yX1_hasHouse wsX1_hasHouse) := goodIn_app (goodIn_of _ (by decide +kernel)) ggX1_massesThen_X1_hasHouse
theorem dX1_massesThen_0 : decode cX1_massesThen 0 = .ok (.aload_n 0, 1) := by decide +kernel
theorem dX1_massesThen_1 : decode cX1_massesThen 1 = .ok (.iload_n 1, 1) := by decide +kernel
theorem dX1_massesThen_2 : decode cX1_massesThen 2 = .ok (.invokevirtual 36, 3) := by decide +kernel
theorem dX1_massesThen_5 : decode cX1_massesThen 5 = .ok (.ifCond .eq 12, 3) := by decide +kernel
theorem dX1_massesThen_8 : decode cX1_massesThen 8 = .ok (.aload_n 0, 1) := by decide +kernel
theorem dX1_massesThen_9 : decode cX1_massesThen 9 = .ok (.getfield 15, 3) := by decide +kernel
theorem dX1_massesThen_12 : decode cX1_massesThen 12 = .ok (.iload_n 1, 1) := by decide +kernel
theorem dX1_massesThen_13 : decode cX1_massesThen 13 = .ok (.iaload, 1) := by decide +kernel
theorem dX1_massesThen_14 : decode cX1_massesThen 14 = .ok (.goto 4, 3) := by decide +kernel
theorem dX1_massesThen_17 : decode cX1_massesThen 17 = .ok (.iconst (-1), 1) := by decide +kernel
theorem dX1_massesThen_18 : decode cX1_massesThen 18 = .ok (.ireturn, 1) := by decide +kernel
set_option maxRecDepth 20000 in
theorem ggX1_setMind_X1_hasMind : GoodIn wsX1_setMind wsX1_hasMind := goodIn_r _ [7, 1, 8, 9, 10, 11, 12] (by decide +kernel) (by decide +kernel)
set_option maxRecDepth 20000 in
theorem gX1_setMind_X1_hasMind : GoodIn wsX1_setMind (wsV RX1 44 RX1 yX1_hasMind wsX1_hasMind) := goodIn_app (goodIn_of _ (by decide +kernel)) ggX1_setMind_X1_hasMind
theorem dX1_setMind_0 : decode cX1_setMind 0 = .ok (.aload_n 0, 1) := by decide +kernel
theorem dX1_setMind_1 : decode cX1_setMind 1 = .ok (.iload_n 1, 1) := by decide +kernel
theorem dX1_setMind_2 : decode cX1_setMind 2 = .ok (.invokevirtual 44, 3) := by decide +kernel
theorem dX1_setMind_5 : decode cX1_setMind 5 = .ok (.ifCond .eq 10, 3) := by decide +kernel
theorem dX1_setMind_8 : decode cX1_setMind 8 = .ok (.aload_n 0, 1) := by decide +kernel
theorem dX1_setMind_9 : decode cX1_setMind 9 = .ok (.getfield 22, 3) := by decide +kernel
theorem dX1_setMind_12 : decode cX1_setMind 12 = .ok (.iload_n 1, 1) := by decide +kernel
theorem dX1_setMind_13 : decode cX1_setMind 13 = .ok (.iload_n 2, 1) := by decide +kernel
theorem dX1_setMind_14 : decode cX1_setMind 14 = .ok (.bastore, 1) := by decide +kernel
theorem dX1_setMind_15 : decode cX1_setMind 15 = .ok (.iconst 0, 1) := by decide +kernel
theorem dX1_setMind_16 : decode cX1_setMind 16 = .ok (.istore_n 3, 1) := by decide +kernel
