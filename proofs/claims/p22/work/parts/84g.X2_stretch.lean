set_option maxRecDepth 20000 in
theorem ggL_law_X2_stretch : GoodIn wsL_law wsX2_stretch := goodIn_ca (goodIn_r _ [231, 123, 124, 25, 198, 199, 200, 24, 201, 113, 232, 233, 234, 2, 235, 236, 29, 237, 238, 239, 240, 241, 242, 28, 243, 61, 244, 45, 245, 246, 247, 248, 249, 250, 219, 51, 52, 479, 480, 481, 492, 493, 494, 495, 496, 497, 498, 499, 500, 501, 502, 503, 504, 505, 506, 507, 508, 509, 510, 511, 512, 513, 514, 515, 516, 517, 518, 519] (by decide +kernel) (by decide +kernel)) (goodIn_sub (fun _ h => List.mem_append_right _ h) (by decide +kernel))
set_option maxRecDepth 20000 in
theorem gL_law_X2_stretch : GoodIn wsL_law (wsV RL 108 RX2 yX2_stretch wsX2_stretch) := goodIn_app (goodIn_of _ (by decide +kernel)) ggL_law_X2_stretch
