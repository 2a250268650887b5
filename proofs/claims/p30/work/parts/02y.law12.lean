set_option maxRecDepth 20000 in
theorem ggL_law_L_goes_p32 : GoodIn wsL_law wsX80 := goodIn_r _ [767, 768, 769, 770, 771, 772, 773, 774, 775, 776, 777] (by decide +kernel) (by decide +kernel)
set_option maxRecDepth 20000 in
theorem ggL_law_L_goes_p33 : GoodIn wsL_law wsX50 := goodIn_r _ [778, 779, 780, 781] (by decide +kernel) (by decide +kernel)
set_option maxRecDepth 20000 in
theorem ggL_law_L_goes_p34 : GoodIn wsL_law wsJx4a65c0 := goodIn_r _ [782, 783, 784] (by decide +kernel) (by decide +kernel)
set_option maxRecDepth 20000 in
theorem ggL_law_L_goes_p35 : GoodIn wsL_law wsX00 := goodIn_r _ [785, 786, 787] (by decide +kernel) (by decide +kernel)
set_option maxRecDepth 20000 in
theorem ggL_law_L_goes_p36 : GoodIn wsL_law wsX10 := goodIn_r _ [788, 789, 790, 791, 792] (by decide +kernel) (by decide +kernel)
set_option maxRecDepth 20000 in
theorem ggL_law_L_goes_p37 : GoodIn wsL_law wsX40 := goodIn_r _ [793, 794, 795, 796] (by decide +kernel) (by decide +kernel)
set_option maxRecDepth 20000 in
theorem ggL_law_L_goes_p38 : GoodIn wsL_law wsX60 := goodIn_r _ [797, 798, 799, 800, 801, 802, 803] (by decide +kernel) (by decide +kernel)
set_option maxRecDepth 20000 in
theorem ggL_law_L_goes_p39 : GoodIn wsL_law wsX20 := goodIn_r _ [804, 805] (by decide +kernel) (by decide +kernel)
set_option maxRecDepth 20000 in
theorem ggL_law_L_goes_p40 : GoodIn wsL_law wsX70 := goodIn_r _ [806, 807, 808, 809] (by decide +kernel) (by decide +kernel)
set_option maxRecDepth 20000 in
theorem ggL_law_L_goes_p41 : GoodIn wsL_law wsX30 := goodIn_r _ [810, 811] (by decide +kernel) (by decide +kernel)
set_option maxRecDepth 20000 in
theorem ggL_law_L_goes_c : GoodIn wsL_law [Cond.code yL_goes cL_goes 10 (some .boolean)] := goodIn_r _ [3] (by decide +kernel) (by decide +kernel)
set_option maxRecDepth 20000 in
theorem ggL_law_L_goes : GoodIn wsL_law wsL_goes := fun w h => (List.mem_cons.mp h).elim (fun e => ggL_law_L_goes_c w (List.mem_cons.mpr (Or.inl e))) ((goodIn_app (goodIn_app (goodIn_app (goodIn_app (goodIn_app (goodIn_app (goodIn_app (goodIn_app (goodIn_app (goodIn_app (goodIn_app (goodIn_app (goodIn_app (goodIn_app ggL_law_L_goes_p0 (goodIn_app ggL_law_L_goes_p1 (goodIn_app ggL_law_L_goes_p2 (goodIn_app ggL_law_L_goes_p3 (goodIn_app ggL_law_L_goes_p4 (goodIn_app ggL_law_L_goes_p5 (goodIn_app ggL_law_L_goes_p6 (goodIn_app ggL_law_L_goes_p7 (goodIn_app ggL_law_L_goes_p8 (goodIn_app ggL_law_L_goes_p9 (goodIn_app ggL_law_L_goes_p10 (goodIn_app ggL_law_L_goes_p11 (goodIn_app ggL_law_L_goes_p12 (goodIn_app ggL_law_L_goes_p13 (goodIn_app ggL_law_L_goes_p14 (goodIn_app ggL_law_L_goes_p15 (goodIn_app ggL_law_L_goes_p16 (goodIn_app ggL_law_L_goes_p17 (goodIn_app ggL_law_L_goes_p18 (goodIn_app ggL_law_L_goes_p19 (goodIn_app ggL_law_L_goes_p20 (goodIn_app ggL_law_L_goes_p21 (goodIn_app ggL_law_L_goes_p22 (goodIn_app ggL_law_L_goes_p23 (goodIn_app ggL_law_L_goes_p24 (goodIn_app ggL_law_L_goes_p25 (goodIn_app ggL_law_L_goes_p26 (goodIn_app ggL_law_L_goes_p27 (goodIn_app ggL_law_L_goes_p28 (goodIn_app ggL_law_L_goes_p29 (goodIn_app ggL_law_L_goes_p30 ggL_law_L_goes_p31))))))))))))))))))))))))))))))) ggL_law_L_goes_p32) ggL_law_L_goes_p33) ggL_law_L_goes_p34) ggL_law_L_goes_p35) ggL_law_L_goes_p36) ggL_law_L_goes_p37) ggL_law_L_goes_p38) ggL_law_L_goes_p39) ggL_law_L_goes_p40) ggL_law_L_goes_p41) (goodIn_sub (fun _ h => List.mem_append_left _ (List.mem_append_left _ (List.mem_append_right _ h))) (by decide +kernel))) (goodIn_sub (fun _ h => List.mem_append_left _ (List.mem_append_right _ h)) (by decide +kernel))) (goodIn_sub (fun _ h => List.mem_append_right _ h) (by decide +kernel))) w)
set_option maxRecDepth 20000 in
theorem gL_law_L_goes : GoodIn wsL_law (va_wsS RL 204 yL_goes wsL_goes) := goodIn_app (goodIn_of _ (by decide +kernel)) ggL_law_L_goes
