theorem goodIn_cons9 {big ws : List Cond} {c : Cond} (hc : GoodIn big [c]) (h : GoodIn big ws) : GoodIn big (c :: ws) := fun w hw => (List.mem_cons.mp hw).elim (fun e => hc w (List.mem_cons.mpr (Or.inl e))) (h w)
theorem goodIn_one {big : List Cond} {c : Cond} (i : Nat) (h : big[i]? = some c) (hg : goodWord c = true) : GoodIn big [c] := fun w hw => by
  rw [List.mem_singleton.mp hw]
  exact ⟨List.mem_of_getElem? h, good_of_word hg⟩
set_option maxRecDepth 20000 in
theorem hL9_X3_pass_0 (c : Cond) (hc : c = .code yX3_pass cX3_pass 10 (some .int)) : GoodIn wsL_law [c] := by
  subst hc
  exact goodIn_one 403 (by rfl) (by decide +kernel)
set_option maxRecDepth 20000 in
theorem hL9_X3_pass_wsX3_pass_r1 : GoodIn wsL_law wsX3_pass_r1 := goodIn_r _ [83, 404, 85, 147, 405, 145, 87, 86, 88, 406, 146, 89, 407, 90, 408, 409, 410, 411, 72, 412, 413, 414, 415, 143] (by decide +kernel) (by decide +kernel)
set_option maxRecDepth 20000 in
theorem hL9_X3_pass_wsX3_pass_r2 : GoodIn wsL_law wsX3_pass_r2 := goodIn_r _ [416, 417, 151, 418, 419, 420, 421, 144, 81, 422, 423, 424, 425, 426, 427, 428, 429, 430, 431, 432, 433, 434, 82] (by decide +kernel) (by decide +kernel)
set_option maxRecDepth 20000 in
theorem hL9_X3_pass_wsX30 : GoodIn wsL_law wsX30 := goodIn_r _ [482, 483, 484, 485, 486, 487, 488, 489, 490, 491] (by decide +kernel) (by decide +kernel)
set_option maxRecDepth 20000 in
theorem hL9_X3_pass_wsX40 : GoodIn wsL_law wsX40 := goodIn_r _ [520, 521, 522, 523, 524, 525, 526, 527, 528] (by decide +kernel) (by decide +kernel)
set_option maxRecDepth 20000 in
theorem ggL_law_X3_pass : GoodIn wsL_law wsX3_pass := goodIn_cons9 (hL9_X3_pass_0 _ rfl) (goodIn_app (goodIn_app (goodIn_app hL9_X3_pass_wsX3_pass_r1 hL9_X3_pass_wsX3_pass_r2) hL9_X3_pass_wsX30) hL9_X3_pass_wsX40)
set_option maxRecDepth 20000 in
theorem gL_law_X3_pass : GoodIn wsL_law (wsV RL 122 RX3 yX3_pass wsX3_pass) := goodIn_app (goodIn_of _ (by decide +kernel)) ggL_law_X3_pass
