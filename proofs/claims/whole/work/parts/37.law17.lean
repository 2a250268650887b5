set_option maxRecDepth 20000 in
theorem ggL_law_X9_dispute : GoodIn wsL_law wsX9_dispute := goodIn_r _ [976, 769, 183, 345, 346, 347, 5, 348, 349, 196, 197, 198, 988, 989, 990, 991, 992, 993, 994, 995, 996, 997, 998, 999, 1000, 1001, 1002, 1003, 1004, 1005, 1006, 1007, 1008, 1009, 1010, 1011, 1012, 1013, 1014, 1015, 1016, 1017, 1018, 1019, 1020, 1021, 1022, 1023, 1024, 1025, 1026] (by decide +kernel) (by decide +kernel)
set_option maxRecDepth 20000 in
theorem gL_law_X9_dispute : GoodIn wsL_law (wsV RL 198 RX9 yX9_dispute wsX9_dispute) := goodIn_app (goodIn_of _ (by decide +kernel)) ggL_law_X9_dispute
