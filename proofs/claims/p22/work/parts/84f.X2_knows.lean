set_option maxRecDepth 20000 in
theorem ggL_law_X2_knows : GoodIn wsL_law wsX2_knows := goodIn_ca (goodIn_r _ [227, 123, 124, 25, 29, 168, 169, 170, 171, 24, 172, 137, 173, 174, 175, 176, 163, 177, 178, 2, 179, 479, 480, 481, 503, 504, 505, 506, 507, 508, 509, 510, 511, 512, 513, 514, 515, 516, 517, 518, 519, 492, 493, 494, 495, 496, 497, 498, 499, 500, 501, 502] (by decide +kernel) (by decide +kernel)) (goodIn_sub (fun _ h => List.mem_append_right _ h) (by decide +kernel))
set_option maxRecDepth 20000 in
theorem gL_law_X2_knows : GoodIn wsL_law (wsV RL 106 RX2 yX2_knows wsX2_knows) := goodIn_app (goodIn_of _ (by decide +kernel)) ggL_law_X2_knows
