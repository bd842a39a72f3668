set_option maxRecDepth 20000 in
theorem ggL_law_X2_walker : GoodIn wsL_law wsX2_walker := goodIn_ca (goodIn_r _ [205, 123, 124, 25, 169, 170, 171, 24, 172, 137, 206, 207, 208, 2, 209, 210, 29, 131, 211, 132, 191, 212, 213, 214, 215, 216, 217, 28, 218, 61, 219, 220, 221, 222, 223, 51, 52, 479, 480, 481, 492, 493, 494, 495, 496, 497, 498, 499, 500, 501, 502, 503, 504, 505, 506, 507, 508, 509, 510, 511, 512, 513, 514, 515, 516, 517, 518, 519] (by decide +kernel) (by decide +kernel)) (goodIn_sub (fun _ h => List.mem_append_right _ h) (by decide +kernel))
set_option maxRecDepth 20000 in
theorem gL_law_X2_walker : GoodIn wsL_law (wsV RL 103 RX2 yX2_walker wsX2_walker) := goodIn_app (goodIn_of _ (by decide +kernel)) ggL_law_X2_walker
