set_option maxRecDepth 20000 in
theorem hL9_X3_isSame_0 (c : Cond) (hc : c = .code yX3_isSame cX3_isSame 12 (some .boolean)) : GoodIn wsL_law [c] := by
  subst hc
  exact goodIn_one 438 (by rfl) (by decide +kernel)
set_option maxRecDepth 20000 in
theorem hL9_X3_isSame_wsX3_isSame_r1 : GoodIn wsL_law wsX3_isSame_r1 := goodIn_r _ [85, 6, 144, 145, 146, 147, 405, 408, 407, 422, 86, 406, 439, 10, 11, 12, 440, 74, 75, 81, 404, 409, 410, 411] (by decide +kernel) (by decide +kernel)
set_option maxRecDepth 20000 in
theorem hL9_X3_isSame_wsX3_isSame_r2 : GoodIn wsL_law wsX3_isSame_r2 := goodIn_r _ [72, 412, 413, 414, 415, 143, 416, 417, 151, 441, 203, 204, 2, 205, 123, 124, 25, 169, 170, 171, 24, 172, 137, 206] (by decide +kernel) (by decide +kernel)
set_option maxRecDepth 20000 in
theorem hL9_X3_isSame_wsX3_isSame_r3 : GoodIn wsL_law wsX3_isSame_r3 := goodIn_r _ [207, 208, 209, 210, 29, 131, 211, 132, 191, 212, 213, 214, 215, 216, 217, 28, 218, 61, 219, 220, 221, 222, 223, 51] (by decide +kernel) (by decide +kernel)
set_option maxRecDepth 20000 in
theorem hL9_X3_isSame_wsX3_isSame_r4 : GoodIn wsL_law wsX3_isSame_r4 := goodIn_r _ [52, 442, 225, 226, 227, 168, 173, 174, 175, 176, 163, 177, 178, 179, 431, 432, 433, 434, 82, 443, 229, 230, 231, 198] (by decide +kernel) (by decide +kernel)
set_option maxRecDepth 20000 in
theorem hL9_X3_isSame_wsX3_isSame_r5 : GoodIn wsL_law wsX3_isSame_r5 := goodIn_r _ [199, 200, 201, 113, 232, 233, 234, 235, 236, 237, 238, 239, 240, 241, 242, 243, 244, 45, 245, 246, 247, 248, 249, 250] (by decide +kernel) (by decide +kernel)
set_option maxRecDepth 20000 in
theorem hL9_X3_isSame_wsX3_isSame_r6 : GoodIn wsL_law wsX3_isSame_r6 := goodIn_r _ [444, 445, 446, 447, 448, 449, 375, 376, 377, 55, 450, 451, 452, 453, 454, 455, 456, 457, 458, 459, 460, 461, 462, 463] (by decide +kernel) (by decide +kernel)
set_option maxRecDepth 20000 in
theorem hL9_X3_isSame_wsX3_isSame_r7 : GoodIn wsL_law wsX3_isSame_r7 := goodIn_r _ [464, 465, 466, 467, 468, 469, 470, 471, 472, 473, 474, 379, 380, 381, 382, 383, 384, 385, 108, 107, 386, 130, 158, 362] (by decide +kernel) (by decide +kernel)
set_option maxRecDepth 20000 in
theorem hL9_X3_isSame_wsX3_isSame_r8 : GoodIn wsL_law wsX3_isSame_r8 := goodIn_r _ [363, 364, 365, 366, 367, 368, 369, 50, 387, 388, 389, 390, 391, 392, 393, 394, 395, 475, 476, 477, 478] (by decide +kernel) (by decide +kernel)
set_option maxRecDepth 20000 in
theorem hL9_X3_isSame_wsX30 : GoodIn wsL_law wsX30 := goodIn_r _ [482, 483, 484, 485, 486, 487, 488, 489, 490, 491] (by decide +kernel) (by decide +kernel)
set_option maxRecDepth 20000 in
theorem hL9_X3_isSame_wsX40 : GoodIn wsL_law wsX40 := goodIn_r _ [520, 521, 522, 523, 524, 525, 526, 527, 528] (by decide +kernel) (by decide +kernel)
set_option maxRecDepth 20000 in
theorem hL9_X3_isSame_wsX20 : GoodIn wsL_law wsX20 := goodIn_r _ [479, 480, 481] (by decide +kernel) (by decide +kernel)
set_option maxRecDepth 20000 in
theorem hL9_X3_isSame_wsX10 : GoodIn wsL_law wsX10 := goodIn_r _ [492, 493, 494, 495, 496, 497, 498, 499, 500, 501, 502] (by decide +kernel) (by decide +kernel)
set_option maxRecDepth 20000 in
theorem hL9_X3_isSame_wsX00 : GoodIn wsL_law wsX00 := goodIn_r _ [503, 504, 505, 506, 507, 508, 509, 510, 511, 512, 513, 514, 515, 516, 517, 518, 519] (by decide +kernel) (by decide +kernel)
set_option maxRecDepth 20000 in
theorem ggL_law_X3_isSame : GoodIn wsL_law wsX3_isSame := goodIn_ca (goodIn_cons9 (hL9_X3_isSame_0 _ rfl) (goodIn_app (goodIn_app (goodIn_app (goodIn_app (goodIn_app (goodIn_app hL9_X3_isSame_wsX3_isSame_r1 (goodIn_app hL9_X3_isSame_wsX3_isSame_r2 (goodIn_app hL9_X3_isSame_wsX3_isSame_r3 (goodIn_app hL9_X3_isSame_wsX3_isSame_r4 (goodIn_app hL9_X3_isSame_wsX3_isSame_r5 (goodIn_app hL9_X3_isSame_wsX3_isSame_r6 (goodIn_app hL9_X3_isSame_wsX3_isSame_r7 hL9_X3_isSame_wsX3_isSame_r8))))))) hL9_X3_isSame_wsX30) hL9_X3_isSame_wsX40) hL9_X3_isSame_wsX20) hL9_X3_isSame_wsX10) hL9_X3_isSame_wsX00)) (goodIn_sub (fun _ h => List.mem_append_right _ h) (by decide +kernel))
set_option maxRecDepth 20000 in
theorem gL_law_X3_isSame : GoodIn wsL_law (wsV RL 131 RX3 yX3_isSame wsX3_isSame) := goodIn_app (goodIn_of _ (by decide +kernel)) ggL_law_X3_isSame
