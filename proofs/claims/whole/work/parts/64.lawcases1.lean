/-! THE LAW'S CASES: a call of the class beside one of the model -/
def LK (p : Program) (l : Launch) (e : Env) (s : State) (m : MethodId) (b : Nat) (below : List Frame) (meth : Method) (c : Code) (D : va_G) (cI cZ cL : ClassId) (a am : Nat → Nat) (qo k t cells slots : Nat) : Prop :=
  ∀ (n' pl' nw' ns' t' : Nat) (σ1 κ1 s1 k1 η1 : Sg) (th1 : Int32) (f1 : Nat → Int64) (H1 : Heap) (locs1 : List Loc) (ls1 : Array Slot), INW n' pl' nw' ns' t' σ1 → LZ nw' ns' η1 → t' ≤ t + 200 → va_P D vwCl (wL cI cZ cL a am qo n' pl' nw' ns' σ1 κ1 s1 k1 f1 n' nw' ns' σ1 th1 η1) H1 → va_S (LA s) s.heap H1 locs1 → lv_has ls1 9 [(4, .int (nI (4 * k))), (0, .ref b), (1, .ref (a 40)), (2, .ref (am 0)), (3, .ref qo)] →
    W p l e room_1 s m #[Value.ref b] below meth c H1 locs1 (cells + 18) (slots + 420) (lw_Z below #[Value.ref b] s) (F0 m 1315 ls1 [])
theorem oka41' {A : Nat → Prop} {a am : Nat → Nat} {qo : Nat} (h : okP A (al a am qo) 55) : okP (A_ a 41) a 41 := ⟨(oka41 h).1, fun k hk => ⟨k, hk, rfl⟩⟩
theorem okaal {a am : Nat → Nat} {qo : Nat} : ∀ q, A_ a 41 q → A_ (al a am qo) 42 q := fun q ⟨k, hk, e⟩ => ⟨k, by omega, by rw [e, al_a hk]⟩
theorem AN_M {am : Nat → Nat} {H G : Heap} (hk : ∀ q : Nat, q < H.size → ¬ AN (A_ am 13) H q → G[q]? = H[q]?) : ∀ q : Nat, q < H.size → ¬ A_ am 13 q → G[q]? = H[q]? := fun q h1 h2 => hk q h1 (fun z => z.elim h2 (fun y => absurd y (Nat.not_le.mpr h1)))
set_option maxHeartbeats 4000000 in
set_option maxRecDepth 100000 in
theorem law_addStretch {p : Program} {l : Launch} {e : Env} {s : State} {m : MethodId} {below : List Frame} {meth : Method} {c : Code} {b L : Nat} {xs : Nat → Int32} {D : va_G} {cI cZ cL cO : ClassId} {a am : Nat → Nat} {qo : Nat} (C0 : lw_At p s m meth c b L xs) (hlT : l.stackTraces = false) (hK : va_K D vwCl (T4 cI cZ cL cO) s) (hE : lwE s) (hT0 : lwT (LA s) s s.heap) (hO : okP (LA s) (al a am qo) 55) (hL : L ≤ 2048) {k : Nat} (hk : 4 * k + 4 ≤ L) {n pl nw ns t : Nat} {σ κ σ' κ' η : Sg} {th : Int32} {f : Nat → Int64} (hI : INW n pl nw ns t σ) (hLZ : LZ nw ns η) (ht : t ≤ 200 * k) {H : Heap} {locs : List Loc} {ls : Array Slot} {cells slots : Nat} (hc : cells + 18 ≤ 601024) (hs : slots + 420 ≤ 7293034) (hP : va_P D vwCl (wL cI cZ cL a am qo n pl nw ns σ κ σ' κ' f n nw ns σ th η) H) (hS : va_S (LA s) s.heap H locs) (hl : lv_has ls 9 [(4, .int (nI (4 * k))), (0, .ref b), (1, .ref (a 40)), (2, .ref (am 0)), (3, .ref qo)]) (kk : LK p l e s m b below meth c D cI cZ cL a am qo k t cells slots) : W p l e room_1 s m #[Value.ref b] below meth c H locs cells slots (lw_Z below #[Value.ref b] s) (F0 m 128 ls []) := by
  obtain ⟨hx, hb, hr, hml, hown, hts0, hX, hbl, hlocks, hgv⟩ := C0
  have hown : s.vm.findClass RL = some m.cls := hown
  have hts : ∀ w ∈ wsL_law, w.before #[Value.ref b] s = true := fun w h => hts0 w (wsL_law_in w h)
  have hbA : ¬ LA s b := Nat.not_le.mpr hbl
  have hB := hI.1.1
  have hTH := hT0.kept hS
  have hA2 : ∀ q, A_ (al a am qo) 42 q → LA s q := ak_of (hO.M (by decide))
  refine lv_aload_n hx hb dL_law_128 rfl (lv_at hl 2 rfl) ?_
  refine lv_aload_n hx hb dL_law_129 rfl (lv_at hl 1 rfl) ?_
  refine lv_iload hx hb dL_law_130 (lv_at hl 0 rfl) ?_
  refine lv_iconst (v := nI 1) hx hb dL_law_132 rfl ?_
  refine lv_iadd hx hb dL_law_133 ?_
  refine li_topi (nI_add _ _) ?_
  refine li_sld hx hb hX hbl hbA hS (i := 4 * k + 1) (by omega) (by omega) dL_law_134 ?_
  refine lv_aload_n hx hb dL_law_135 rfl (lv_at hl 1 rfl) ?_
  refine lv_iload hx hb dL_law_136 (lv_at hl 0 rfl) ?_
  refine lv_iconst (v := nI 2) hx hb dL_law_138 rfl ?_
  refine lv_iadd hx hb dL_law_139 ?_
  refine li_topi (nI_add _ _) ?_
  refine li_sld hx hb hX hbl hbA hS (i := 4 * k + 2) (by omega) (by omega) dL_law_140 ?_
  refine lv_aload_n hx hb dL_law_141 rfl (lv_at hl 4 rfl) ?_
  have hPc : va_P D vwCl (wXo cI cZ cL a n pl nw ns σ κ σ' κ' qo f) H := hP.sub i42 rfl
  refine va_calli (vx_runSW (As := [.ref (a 40), .int (xs (4 * k + 1)), .int (xs (4 * k + 2)), .ref qo]) (rest := []) ⟨hx, hb, hml, hown, hts⟩ (c_L_addStretch l hlT D cI cZ cL cO a n pl nw ns σ κ σ' κ' H qo f (xs (4 * k + 1)) (xs (4 * k + 2)) (A_ (al a am qo) 42) (oka41 hO) hO.ao (okDo hO) hB) (vx_cwSW 4 hts gL_law_L_addStretch rfl rfl rfl (by decide +kernel) ⟨Nat.le_of_ble_eq_true rfl, Nat.le_of_ble_eq_true rfl⟩) ⟨ax_blind, fun U hU hW => ⟨rfl, hU, hPc, va_K.moved hW.alike hK, lwE.warm hW hE, (hTH.warm hW).narrow hA2⟩⟩ rfl rfl hl.1 rfl (lv_room (Nat.le_of_ble_eq_true rfl)) dL_law_142 ⟨by show cells + 1 ≤ 601024; omega, by show slots + 6 ≤ 7293034; omega⟩) hS (fun q _ h => hA2 q h) hA2 (fun r u t9 H1 locs ht9 hal hr9 hB1 hz1 hk1 hS => ?_)
  replace hr9 : r = nI (kAdd n σ (xs (4 * k + 1)) (xs (4 * k + 2))) := hr9
  subst hr9
  have hP1 : va_P D vwCl (wXo cI cZ cL a (nAdd n σ (xs (4 * k + 1)) (xs (4 * k + 2))) (plAdd n pl σ (xs (4 * k + 1)) (xs (4 * k + 2))) nw ns (sAddK n pl σ (xs (4 * k + 1)) (xs (4 * k + 2))) u.1 u.2.1 u.2.2 qo (oK (kAdd n σ (xs (4 * k + 1)) (xs (4 * k + 2))) (vAdd n σ (xs (4 * k + 1)) (xs (4 * k + 2))) f)) H1 := by rw [← ht9]; exact hB1
  replace hP : va_P D vwCl (wL cI cZ cL a am qo (nAdd n σ (xs (4 * k + 1)) (xs (4 * k + 2))) (plAdd n pl σ (xs (4 * k + 1)) (xs (4 * k + 2))) nw ns (sAddK n pl σ (xs (4 * k + 1)) (xs (4 * k + 2))) u.1 u.2.1 u.2.2 (oK (kAdd n σ (xs (4 * k + 1)) (xs (4 * k + 2))) (vAdd n σ (xs (4 * k + 1)) (xs (4 * k + 2))) f) n nw ns σ th η) H1 := jnH hO hP hP1 hk1
  refine lv_istore (lv' := [(5, .int (nI (kAdd n σ (xs (4 * k + 1)) (xs (4 * k + 2))))), (4, .int (nI (4 * k))), (0, .ref b), (1, .ref (a 40)), (2, .ref (am 0)), (3, .ref qo)]) hx hb dL_law_145 hl (by decide) rfl (fun ls hl => ?_)
  refine lv_aload_n hx hb dL_law_147 rfl (lv_at hl 4 rfl) ?_
  refine lv_aload_n hx hb dL_law_148 rfl (lv_at hl 2 rfl) ?_
  refine lv_iload hx hb dL_law_149 (lv_at hl 1 rfl) ?_
  refine lv_iconst (v := nI 1) hx hb dL_law_151 rfl ?_
  refine lv_iadd hx hb dL_law_152 ?_
  refine li_topi (nI_add _ _) ?_
  refine li_sld hx hb hX hbl hbA hS (i := 4 * k + 1) (by omega) (by omega) dL_law_153 ?_
  refine lv_aload_n hx hb dL_law_154 rfl (lv_at hl 2 rfl) ?_
  refine lv_iload hx hb dL_law_155 (lv_at hl 1 rfl) ?_
  refine lv_iconst (v := nI 2) hx hb dL_law_157 rfl ?_
  refine lv_iadd hx hb dL_law_158 ?_
  refine li_topi (nI_add _ _) ?_
  refine li_sld hx hb hX hbl hbA hS (i := 4 * k + 2) (by omega) (by omega) dL_law_159 ?_
  have hPm : va_P D vwCl (wM cI cZ am th n nw ns σ η) H1 := hP.sub m13 rfl
  refine mizV (As := [.int (xs (4 * k + 1)), .int (xs (4 * k + 2))]) (q0 := 0) (ci := 3) hx hb hml hown hts (c_X3_addStretch l D cI cZ cL cO am th n nw ns σ η H1 (xs (4 * k + 1)) (xs (4 * k + 2)) (A_ am 13) (okm13 hO) ⟨hB.1, hB.2.2.1, hB.2.2.2⟩ pl hB.2.1 hI.1.2.2.2.1 hI.1.2.2.2.2.2.2.2.2) (cwV 2 hts gL_law_X3_addStretch rfl rfl rfl (by decide +kernel) ⟨Nat.le_of_ble_eq_true rfl, Nat.le_of_ble_eq_true rfl⟩) hK hE hPm rfl rfl rfl rfl hl.1 rfl (Nat.le_of_ble_eq_true rfl) hS (fun q z => z.elim ((okmA hO) q) (fun y => Nat.le_trans hS.1 y)) dL_law_160 ⟨by show cells + 1 + 1 ≤ 601024; omega, by show slots + 6 + 5 ≤ 7293034; omega⟩ (fun H2 locs hPm2 _ hk2 hS => ?_)
  replace hP : va_P D vwCl (wL cI cZ cL a am qo (nAdd n σ (xs (4 * k + 1)) (xs (4 * k + 2))) (plAdd n pl σ (xs (4 * k + 1)) (xs (4 * k + 2))) nw ns (sAddK n pl σ (xs (4 * k + 1)) (xs (4 * k + 2))) u.1 u.2.1 u.2.2 (oK (kAdd n σ (xs (4 * k + 1)) (xs (4 * k + 2))) (vAdd n σ (xs (4 * k + 1)) (xs (4 * k + 2))) f) (nAdd n σ (xs (4 * k + 1)) (xs (4 * k + 2))) nw ns (sAddK n pl σ (xs (4 * k + 1)) (xs (4 * k + 2))) (nI (kAdd n σ (xs (4 * k + 1)) (xs (4 * k + 2)))) η) H2 := jnM hO hP hPm2 (AN_M hk2)
  refine lv_istore (lv' := [(6, .int (vAdd n σ (xs (4 * k + 1)) (xs (4 * k + 2)))), (5, .int (nI (kAdd n σ (xs (4 * k + 1)) (xs (4 * k + 2))))), (4, .int (nI (4 * k))), (0, .ref b), (1, .ref (a 40)), (2, .ref (am 0)), (3, .ref qo)]) hx hb dL_law_163 hl (by decide) rfl (fun ls hl => ?_)
  refine lv_aload_n hx hb dL_law_165 rfl (lv_at hl 5 rfl) ?_
  have hB9 := (INW_add hI (xs (4 * k + 1)) (xs (4 * k + 2))).1.1
  refine roV (As := []) (q0 := 0) (ci := 3) hx hb hml hown hts (c_X3_thrown l D cI cZ cL cO am (nI (kAdd n σ (xs (4 * k + 1)) (xs (4 * k + 2)))) (nAdd n σ (xs (4 * k + 1)) (xs (4 * k + 2))) nw ns (sAddK n pl σ (xs (4 * k + 1)) (xs (4 * k + 2))) η H2 ⟨hB9.1, hB9.2.2.1, hB9.2.2.2⟩) (cwV 0 hts gL_law_X3_thrown rfl rfl rfl (by decide +kernel) ⟨Nat.le_of_ble_eq_true rfl, Nat.le_of_ble_eq_true rfl⟩) hK hE (hP.sub (ws' := wM cI cZ am (nI (kAdd n σ (xs (4 * k + 1)) (xs (4 * k + 2)))) (nAdd n σ (xs (4 * k + 1)) (xs (4 * k + 2))) nw ns (sAddK n pl σ (xs (4 * k + 1)) (xs (4 * k + 2))) η) m13 rfl) rfl rfl rfl rfl hl.1 rfl (Nat.le_of_ble_eq_true rfl) hS dL_law_166 ⟨by show cells + 2 ≤ 601024; omega, by show slots + 11 ≤ 7293034; omega⟩ (fun locs hS => ?_)
  refine lv_iload hx hb dL_law_169 (lv_at hl 1 rfl) ?_
  refine lv_icmp_eq (tgt := 176) hx hb dL_law_171 (by decide) (fun c1 => ?_) (fun c1 => absurd rfl c1)
  refine lv_iload hx hb dL_law_176 (lv_at hl 1 rfl) ?_
  refine li_ne0 (tgt := 193) hx hb dL_law_178 (by decide) (by have h9 := kAdd_le (n := n) (σ := σ) (x := (xs (4 * k + 1))) (y := (xs (4 * k + 2))); omega) (fun c2 => ?_) (fun c2 => ?_)
  · skip
    refine lv_goto (tgt := 1315) hx hb dL_law_193 (by decide) ?_
    refine w_wide (k := cells + 18) (n := slots + 420) (by omega) (by omega) ?_
    exact kk _ _ _ _ _ _ _ _ _ _ _ _ H2 locs ls (INW_add hI (xs (4 * k + 1)) (xs (4 * k + 2))) hLZ (by omega) hP hS (lv_sub hl [2, 3, 4, 5, 6] rfl)
  · skip
    refine lv_aload_n hx hb dL_law_181 rfl (lv_at hl 6 rfl) ?_
    refine lv_iconst (v := nI 0) hx hb dL_law_182 rfl ?_
    refine va_lald hx hb hK hP 41 2 rfl rfl (vp_in_nI (by decide) (by decide)) dL_law_183 ?_
    refine li_topl (show _ = (vAdd n σ (xs (4 * k + 1)) (xs (4 * k + 2))).toInt64 from by rw [oK_0 c2]; rfl) ?_
    refine lv_iload hx hb dL_law_184 (lv_at hl 0 rfl) ?_
    refine lv_i2l (v := (vAdd n σ (xs (4 * k + 1)) (xs (4 * k + 2))).toInt64) hx hb dL_law_186 rfl ?_
    refine W.lcmp hx hb dL_law_187 ?_
    refine li_topi (show _ = nI 0 from lg_cmp_rf _) ?_
    refine li_eq0 (tgt := 193) hx hb dL_law_188 (by decide) (by decide) (fun c3 => ?_) (fun c3 => absurd rfl c3)
    refine lv_goto (tgt := 1315) hx hb dL_law_193 (by decide) ?_
    refine w_wide (k := cells + 18) (n := slots + 420) (by omega) (by omega) ?_
    exact kk _ _ _ _ _ _ _ _ _ _ _ _ H2 locs ls (INW_add hI (xs (4 * k + 1)) (xs (4 * k + 2))) hLZ (by omega) hP hS (lv_sub hl [2, 3, 4, 5, 6] rfl)
set_option maxHeartbeats 4000000 in
set_option maxRecDepth 100000 in
theorem law_post {p : Program} {l : Launch} {e : Env} {s : State} {m : MethodId} {below : List Frame} {meth : Method} {c : Code} {b L : Nat} {xs : Nat → Int32} {D : va_G} {cI cZ cL cO : ClassId} {a am : Nat → Nat} {qo : Nat} (C0 : lw_At p s m meth c b L xs) (hlT : l.stackTraces = false) (hK : va_K D vwCl (T4 cI cZ cL cO) s) (hE : lwE s) (hT0 : lwT (LA s) s s.heap) (hO : okP (LA s) (al a am qo) 55) (hL : L ≤ 2048) {k : Nat} (hk : 4 * k + 4 ≤ L) {n pl nw ns t : Nat} {σ κ σ' κ' η : Sg} {th : Int32} {f : Nat → Int64} (hI : INW n pl nw ns t σ) (hLZ : LZ nw ns η) (ht : t ≤ 200 * k) {H : Heap} {locs : List Loc} {ls : Array Slot} {cells slots : Nat} (hc : cells + 18 ≤ 601024) (hs : slots + 420 ≤ 7293034) (hP : va_P D vwCl (wL cI cZ cL a am qo n pl nw ns σ κ σ' κ' f n nw ns σ th η) H) (hS : va_S (LA s) s.heap H locs) (hl : lv_has ls 9 [(4, .int (nI (4 * k))), (0, .ref b), (1, .ref (a 40)), (2, .ref (am 0)), (3, .ref qo)]) (kk : LK p l e s m b below meth c D cI cZ cL a am qo k t cells slots) : W p l e room_1 s m #[Value.ref b] below meth c H locs cells slots (lw_Z below #[Value.ref b] s) (F0 m 196 ls []) := by
  obtain ⟨hx, hb, hr, hml, hown, hts0, hX, hbl, hlocks, hgv⟩ := C0
  have hown : s.vm.findClass RL = some m.cls := hown
  have hts : ∀ w ∈ wsL_law, w.before #[Value.ref b] s = true := fun w h => hts0 w (wsL_law_in w h)
  have hbA : ¬ LA s b := Nat.not_le.mpr hbl
  have hB := hI.1.1
  have hTH := hT0.kept hS
  have hA2 : ∀ q, A_ (al a am qo) 42 q → LA s q := ak_of (hO.M (by decide))
  refine lv_aload_n hx hb dL_law_196 rfl (lv_at hl 2 rfl) ?_
  refine lv_aload_n hx hb dL_law_197 rfl (lv_at hl 1 rfl) ?_
  refine lv_iload hx hb dL_law_198 (lv_at hl 0 rfl) ?_
  refine lv_iconst (v := nI 1) hx hb dL_law_200 rfl ?_
  refine lv_iadd hx hb dL_law_201 ?_
  refine li_topi (nI_add _ _) ?_
  refine li_sld hx hb hX hbl hbA hS (i := 4 * k + 1) (by omega) (by omega) dL_law_202 ?_
  refine lv_aload_n hx hb dL_law_203 rfl (lv_at hl 1 rfl) ?_
  refine lv_iload hx hb dL_law_204 (lv_at hl 0 rfl) ?_
  refine lv_iconst (v := nI 2) hx hb dL_law_206 rfl ?_
  refine lv_iadd hx hb dL_law_207 ?_
  refine li_topi (nI_add _ _) ?_
  refine li_sld hx hb hX hbl hbA hS (i := 4 * k + 2) (by omega) (by omega) dL_law_208 ?_
  refine lv_aload_n hx hb dL_law_209 rfl (lv_at hl 4 rfl) ?_
  have hPc : va_P D vwCl (wXo cI cZ cL a n pl nw ns σ κ σ' κ' qo f) H := hP.sub i42 rfl
  refine va_calli (vx_runSW (As := [.ref (a 40), .int (xs (4 * k + 1)), .int (xs (4 * k + 2)), .ref qo]) (rest := []) ⟨hx, hb, hml, hown, hts⟩ (c_L_post l hlT D cI cZ cL cO a n pl nw ns σ κ σ' κ' H qo f (xs (4 * k + 1)) (xs (4 * k + 2)) (A_ (al a am qo) 42) (oka41 hO) hO.ao (okDo hO) hB) (vx_cwSW 4 hts gL_law_L_post rfl rfl rfl (by decide +kernel) ⟨Nat.le_of_ble_eq_true rfl, Nat.le_of_ble_eq_true rfl⟩) ⟨ax_blind, fun U hU hW => ⟨rfl, hU, hPc, va_K.moved hW.alike hK, lwE.warm hW hE, (hTH.warm hW).narrow hA2⟩⟩ rfl rfl hl.1 rfl (lv_room (Nat.le_of_ble_eq_true rfl)) dL_law_210 ⟨by show cells + 1 ≤ 601024; omega, by show slots + 6 ≤ 7293034; omega⟩) hS (fun q _ h => hA2 q h) hA2 (fun r u t9 H1 locs ht9 hal hr9 hB1 hz1 hk1 hS => ?_)
  replace hr9 : r = nI (kPost n (xs (4 * k + 1)) (xs (4 * k + 2))) := hr9
  subst hr9
  have hP1 : va_P D vwCl (wXo cI cZ cL a n pl nw ns (sPost n σ (xs (4 * k + 1)) (xs (4 * k + 2))) u.1 u.2.1 u.2.2 qo (oK (kPost n (xs (4 * k + 1)) (xs (4 * k + 2))) (vPost n σ (xs (4 * k + 1)) (xs (4 * k + 2))) f)) H1 := by rw [← ht9]; exact hB1
  replace hP : va_P D vwCl (wL cI cZ cL a am qo n pl nw ns (sPost n σ (xs (4 * k + 1)) (xs (4 * k + 2))) u.1 u.2.1 u.2.2 (oK (kPost n (xs (4 * k + 1)) (xs (4 * k + 2))) (vPost n σ (xs (4 * k + 1)) (xs (4 * k + 2))) f) n nw ns σ th η) H1 := jnH hO hP hP1 hk1
  refine lv_istore (lv' := [(5, .int (nI (kPost n (xs (4 * k + 1)) (xs (4 * k + 2))))), (4, .int (nI (4 * k))), (0, .ref b), (1, .ref (a 40)), (2, .ref (am 0)), (3, .ref qo)]) hx hb dL_law_213 hl (by decide) rfl (fun ls hl => ?_)
  refine lv_aload_n hx hb dL_law_215 rfl (lv_at hl 4 rfl) ?_
  refine lv_aload_n hx hb dL_law_216 rfl (lv_at hl 2 rfl) ?_
  refine lv_iload hx hb dL_law_217 (lv_at hl 1 rfl) ?_
  refine lv_iconst (v := nI 1) hx hb dL_law_219 rfl ?_
  refine lv_iadd hx hb dL_law_220 ?_
  refine li_topi (nI_add _ _) ?_
  refine li_sld hx hb hX hbl hbA hS (i := 4 * k + 1) (by omega) (by omega) dL_law_221 ?_
  refine lv_aload_n hx hb dL_law_222 rfl (lv_at hl 2 rfl) ?_
  refine lv_iload hx hb dL_law_223 (lv_at hl 1 rfl) ?_
  refine lv_iconst (v := nI 2) hx hb dL_law_225 rfl ?_
  refine lv_iadd hx hb dL_law_226 ?_
  refine li_topi (nI_add _ _) ?_
  refine li_sld hx hb hX hbl hbA hS (i := 4 * k + 2) (by omega) (by omega) dL_law_227 ?_
  have hPm : va_P D vwCl (wM cI cZ am th n nw ns σ η) H1 := hP.sub m13 rfl
  refine miV (As := [.int (xs (4 * k + 1)), .int (xs (4 * k + 2))]) (q0 := 0) (ci := 3) hx hb hml hown hts (c_X3_post l D cI cZ cL cO am th n nw ns σ η H1 (xs (4 * k + 1)) (xs (4 * k + 2)) (A_ am 13) (okm13 hO) ⟨hB.1, hB.2.2.1, hB.2.2.2⟩) (cwV 2 hts gL_law_X3_post rfl rfl rfl (by decide +kernel) ⟨Nat.le_of_ble_eq_true rfl, Nat.le_of_ble_eq_true rfl⟩) hK hE hPm rfl rfl rfl rfl hl.1 rfl (Nat.le_of_ble_eq_true rfl) hS (okmA hO) dL_law_228 ⟨by show cells + 1 ≤ 601024; omega, by show slots + 6 ≤ 7293034; omega⟩ (fun H2 locs hPm2 _ hk2 hS => ?_)
  replace hP : va_P D vwCl (wL cI cZ cL a am qo n pl nw ns (sPost n σ (xs (4 * k + 1)) (xs (4 * k + 2))) u.1 u.2.1 u.2.2 (oK (kPost n (xs (4 * k + 1)) (xs (4 * k + 2))) (vPost n σ (xs (4 * k + 1)) (xs (4 * k + 2))) f) n nw ns (sPost n σ (xs (4 * k + 1)) (xs (4 * k + 2))) (nI (kPost n (xs (4 * k + 1)) (xs (4 * k + 2)))) η) H2 := jnM hO hP hPm2 hk2
  refine lv_istore (lv' := [(6, .int (vPost n σ (xs (4 * k + 1)) (xs (4 * k + 2)))), (5, .int (nI (kPost n (xs (4 * k + 1)) (xs (4 * k + 2))))), (4, .int (nI (4 * k))), (0, .ref b), (1, .ref (a 40)), (2, .ref (am 0)), (3, .ref qo)]) hx hb dL_law_231 hl (by decide) rfl (fun ls hl => ?_)
  refine lv_aload_n hx hb dL_law_233 rfl (lv_at hl 5 rfl) ?_
  have hB9 := (INW_post hI (xs (4 * k + 1)) (xs (4 * k + 2))).1.1
  refine roV (As := []) (q0 := 0) (ci := 3) hx hb hml hown hts (c_X3_thrown l D cI cZ cL cO am (nI (kPost n (xs (4 * k + 1)) (xs (4 * k + 2)))) n nw ns (sPost n σ (xs (4 * k + 1)) (xs (4 * k + 2))) η H2 ⟨hB9.1, hB9.2.2.1, hB9.2.2.2⟩) (cwV 0 hts gL_law_X3_thrown rfl rfl rfl (by decide +kernel) ⟨Nat.le_of_ble_eq_true rfl, Nat.le_of_ble_eq_true rfl⟩) hK hE (hP.sub (ws' := wM cI cZ am (nI (kPost n (xs (4 * k + 1)) (xs (4 * k + 2)))) n nw ns (sPost n σ (xs (4 * k + 1)) (xs (4 * k + 2))) η) m13 rfl) rfl rfl rfl rfl hl.1 rfl (Nat.le_of_ble_eq_true rfl) hS dL_law_234 ⟨by show cells + 1 ≤ 601024; omega, by show slots + 6 ≤ 7293034; omega⟩ (fun locs hS => ?_)
  refine lv_iload hx hb dL_law_237 (lv_at hl 1 rfl) ?_
  refine lv_icmp_eq (tgt := 244) hx hb dL_law_239 (by decide) (fun c1 => ?_) (fun c1 => absurd rfl c1)
  refine lv_iload hx hb dL_law_244 (lv_at hl 1 rfl) ?_
  refine li_ne0 (tgt := 261) hx hb dL_law_246 (by decide) (by have h9 := kPost_le (n := n) (x := (xs (4 * k + 1))) (y := (xs (4 * k + 2))); omega) (fun c2 => ?_) (fun c2 => ?_)
  · skip
    refine lv_goto (tgt := 1315) hx hb dL_law_261 (by decide) ?_
    refine w_wide (k := cells + 18) (n := slots + 420) (by omega) (by omega) ?_
    exact kk _ _ _ _ _ _ _ _ _ _ _ _ H2 locs ls (INW_post hI (xs (4 * k + 1)) (xs (4 * k + 2))) hLZ (by omega) hP hS (lv_sub hl [2, 3, 4, 5, 6] rfl)
  · skip
    refine lv_aload_n hx hb dL_law_249 rfl (lv_at hl 6 rfl) ?_
    refine lv_iconst (v := nI 0) hx hb dL_law_250 rfl ?_
    refine va_lald hx hb hK hP 41 2 rfl rfl (vp_in_nI (by decide) (by decide)) dL_law_251 ?_
    refine li_topl (show _ = (vPost n σ (xs (4 * k + 1)) (xs (4 * k + 2))).toInt64 from by rw [oK_0 c2]; rfl) ?_
    refine lv_iload hx hb dL_law_252 (lv_at hl 0 rfl) ?_
    refine lv_i2l (v := (vPost n σ (xs (4 * k + 1)) (xs (4 * k + 2))).toInt64) hx hb dL_law_254 rfl ?_
    refine W.lcmp hx hb dL_law_255 ?_
    refine li_topi (show _ = nI 0 from lg_cmp_rf _) ?_
    refine li_eq0 (tgt := 261) hx hb dL_law_256 (by decide) (by decide) (fun c3 => ?_) (fun c3 => absurd rfl c3)
    refine lv_goto (tgt := 1315) hx hb dL_law_261 (by decide) ?_
    refine w_wide (k := cells + 18) (n := slots + 420) (by omega) (by omega) ?_
    exact kk _ _ _ _ _ _ _ _ _ _ _ _ H2 locs ls (INW_post hI (xs (4 * k + 1)) (xs (4 * k + 2))) hLZ (by omega) hP hS (lv_sub hl [2, 3, 4, 5, 6] rfl)
set_option maxHeartbeats 4000000 in
set_option maxRecDepth 100000 in
theorem law_setWind {p : Program} {l : Launch} {e : Env} {s : State} {m : MethodId} {below : List Frame} {meth : Method} {c : Code} {b L : Nat} {xs : Nat → Int32} {D : va_G} {cI cZ cL cO : ClassId} {a am : Nat → Nat} {qo : Nat} (C0 : lw_At p s m meth c b L xs) (hlT : l.stackTraces = false) (hK : va_K D vwCl (T4 cI cZ cL cO) s) (hE : lwE s) (hT0 : lwT (LA s) s s.heap) (hO : okP (LA s) (al a am qo) 55) (hL : L ≤ 2048) {k : Nat} (hk : 4 * k + 4 ≤ L) {n pl nw ns t : Nat} {σ κ σ' κ' η : Sg} {th : Int32} {f : Nat → Int64} (hI : INW n pl nw ns t σ) (hLZ : LZ nw ns η) (ht : t ≤ 200 * k) {H : Heap} {locs : List Loc} {ls : Array Slot} {cells slots : Nat} (hc : cells + 18 ≤ 601024) (hs : slots + 420 ≤ 7293034) (hP : va_P D vwCl (wL cI cZ cL a am qo n pl nw ns σ κ σ' κ' f n nw ns σ th η) H) (hS : va_S (LA s) s.heap H locs) (hl : lv_has ls 9 [(4, .int (nI (4 * k))), (0, .ref b), (1, .ref (a 40)), (2, .ref (am 0)), (3, .ref qo)]) (kk : LK p l e s m b below meth c D cI cZ cL a am qo k t cells slots) : W p l e room_1 s m #[Value.ref b] below meth c H locs cells slots (lw_Z below #[Value.ref b] s) (F0 m 264 ls []) := by
  obtain ⟨hx, hb, hr, hml, hown, hts0, hX, hbl, hlocks, hgv⟩ := C0
  have hown : s.vm.findClass RL = some m.cls := hown
  have hts : ∀ w ∈ wsL_law, w.before #[Value.ref b] s = true := fun w h => hts0 w (wsL_law_in w h)
  have hbA : ¬ LA s b := Nat.not_le.mpr hbl
  have hB := hI.1.1
  have hTH := hT0.kept hS
  have hA2 : ∀ q, A_ (al a am qo) 42 q → LA s q := ak_of (hO.M (by decide))
  refine lv_aload_n hx hb dL_law_264 rfl (lv_at hl 2 rfl) ?_
  refine lv_aload_n hx hb dL_law_265 rfl (lv_at hl 1 rfl) ?_
  refine lv_iload hx hb dL_law_266 (lv_at hl 0 rfl) ?_
  refine lv_iconst (v := nI 1) hx hb dL_law_268 rfl ?_
  refine lv_iadd hx hb dL_law_269 ?_
  refine li_topi (nI_add _ _) ?_
  refine li_sld hx hb hX hbl hbA hS (i := 4 * k + 1) (by omega) (by omega) dL_law_270 ?_
  refine lv_aload_n hx hb dL_law_271 rfl (lv_at hl 1 rfl) ?_
  refine lv_iload hx hb dL_law_272 (lv_at hl 0 rfl) ?_
  refine lv_iconst (v := nI 2) hx hb dL_law_274 rfl ?_
  refine lv_iadd hx hb dL_law_275 ?_
  refine li_topi (nI_add _ _) ?_
  refine li_sld hx hb hX hbl hbA hS (i := 4 * k + 2) (by omega) (by omega) dL_law_276 ?_
  refine lv_aload_n hx hb dL_law_277 rfl (lv_at hl 4 rfl) ?_
  have hPc : va_P D vwCl (wXo cI cZ cL a n pl nw ns σ κ σ' κ' qo f) H := hP.sub i42 rfl
  refine va_calli (vx_runSW (As := [.ref (a 40), .int (xs (4 * k + 1)), .int (xs (4 * k + 2)), .ref qo]) (rest := []) ⟨hx, hb, hml, hown, hts⟩ (c_L_setWind l hlT D cI cZ cL cO a n pl nw ns σ κ σ' κ' H qo f (xs (4 * k + 1)) (xs (4 * k + 2)) (A_ (al a am qo) 42) (oka41 hO) hO.ao (okDo hO) hB) (vx_cwSW 4 hts gL_law_L_setWind rfl rfl rfl (by decide +kernel) ⟨Nat.le_of_ble_eq_true rfl, Nat.le_of_ble_eq_true rfl⟩) ⟨ax_blind, fun U hU hW => ⟨rfl, hU, hPc, va_K.moved hW.alike hK, lwE.warm hW hE, (hTH.warm hW).narrow hA2⟩⟩ rfl rfl hl.1 rfl (lv_room (Nat.le_of_ble_eq_true rfl)) dL_law_278 ⟨by show cells + 1 ≤ 601024; omega, by show slots + 6 ≤ 7293034; omega⟩) hS (fun q _ h => hA2 q h) hA2 (fun r u t9 H1 locs ht9 hal hr9 hB1 hz1 hk1 hS => ?_)
  replace hr9 : r = nI (kWind (xs (4 * k + 1)) (xs (4 * k + 2))) := hr9
  subst hr9
  have hP1 : va_P D vwCl (wXo cI cZ cL a n pl nw ns (sWind σ (xs (4 * k + 1)) (xs (4 * k + 2))) u.1 u.2.1 u.2.2 qo (oK (kWind (xs (4 * k + 1)) (xs (4 * k + 2))) (vWind σ (xs (4 * k + 1)) (xs (4 * k + 2))) f)) H1 := by rw [← ht9]; exact hB1
  replace hP : va_P D vwCl (wL cI cZ cL a am qo n pl nw ns (sWind σ (xs (4 * k + 1)) (xs (4 * k + 2))) u.1 u.2.1 u.2.2 (oK (kWind (xs (4 * k + 1)) (xs (4 * k + 2))) (vWind σ (xs (4 * k + 1)) (xs (4 * k + 2))) f) n nw ns σ th η) H1 := jnH hO hP hP1 hk1
  refine lv_istore (lv' := [(5, .int (nI (kWind (xs (4 * k + 1)) (xs (4 * k + 2))))), (4, .int (nI (4 * k))), (0, .ref b), (1, .ref (a 40)), (2, .ref (am 0)), (3, .ref qo)]) hx hb dL_law_281 hl (by decide) rfl (fun ls hl => ?_)
  refine lv_aload_n hx hb dL_law_283 rfl (lv_at hl 4 rfl) ?_
  refine lv_aload_n hx hb dL_law_284 rfl (lv_at hl 2 rfl) ?_
  refine lv_iload hx hb dL_law_285 (lv_at hl 1 rfl) ?_
  refine lv_iconst (v := nI 1) hx hb dL_law_287 rfl ?_
  refine lv_iadd hx hb dL_law_288 ?_
  refine li_topi (nI_add _ _) ?_
  refine li_sld hx hb hX hbl hbA hS (i := 4 * k + 1) (by omega) (by omega) dL_law_289 ?_
  refine lv_aload_n hx hb dL_law_290 rfl (lv_at hl 2 rfl) ?_
  refine lv_iload hx hb dL_law_291 (lv_at hl 1 rfl) ?_
  refine lv_iconst (v := nI 2) hx hb dL_law_293 rfl ?_
  refine lv_iadd hx hb dL_law_294 ?_
  refine li_topi (nI_add _ _) ?_
  refine li_sld hx hb hX hbl hbA hS (i := 4 * k + 2) (by omega) (by omega) dL_law_295 ?_
  have hPm : va_P D vwCl (wM cI cZ am th n nw ns σ η) H1 := hP.sub m13 rfl
  refine miV (As := [.int (xs (4 * k + 1)), .int (xs (4 * k + 2))]) (q0 := 0) (ci := 3) hx hb hml hown hts (c_X3_setWind l D cI cZ cL cO am th n nw ns σ η H1 (xs (4 * k + 1)) (xs (4 * k + 2)) (A_ am 13) (okm13 hO) ⟨hB.1, hB.2.2.1, hB.2.2.2⟩) (cwV 2 hts gL_law_X3_setWind rfl rfl rfl (by decide +kernel) ⟨Nat.le_of_ble_eq_true rfl, Nat.le_of_ble_eq_true rfl⟩) hK hE hPm rfl rfl rfl rfl hl.1 rfl (Nat.le_of_ble_eq_true rfl) hS (okmA hO) dL_law_296 ⟨by show cells + 1 ≤ 601024; omega, by show slots + 6 ≤ 7293034; omega⟩ (fun H2 locs hPm2 _ hk2 hS => ?_)
  replace hP : va_P D vwCl (wL cI cZ cL a am qo n pl nw ns (sWind σ (xs (4 * k + 1)) (xs (4 * k + 2))) u.1 u.2.1 u.2.2 (oK (kWind (xs (4 * k + 1)) (xs (4 * k + 2))) (vWind σ (xs (4 * k + 1)) (xs (4 * k + 2))) f) n nw ns (sWind σ (xs (4 * k + 1)) (xs (4 * k + 2))) (nI (kWind (xs (4 * k + 1)) (xs (4 * k + 2)))) η) H2 := jnM hO hP hPm2 hk2
  refine lv_istore (lv' := [(6, .int (vWind σ (xs (4 * k + 1)) (xs (4 * k + 2)))), (5, .int (nI (kWind (xs (4 * k + 1)) (xs (4 * k + 2))))), (4, .int (nI (4 * k))), (0, .ref b), (1, .ref (a 40)), (2, .ref (am 0)), (3, .ref qo)]) hx hb dL_law_299 hl (by decide) rfl (fun ls hl => ?_)
  refine lv_aload_n hx hb dL_law_301 rfl (lv_at hl 5 rfl) ?_
  have hB9 := (INW_wind hI (xs (4 * k + 1)) (xs (4 * k + 2))).1.1
  refine roV (As := []) (q0 := 0) (ci := 3) hx hb hml hown hts (c_X3_thrown l D cI cZ cL cO am (nI (kWind (xs (4 * k + 1)) (xs (4 * k + 2)))) n nw ns (sWind σ (xs (4 * k + 1)) (xs (4 * k + 2))) η H2 ⟨hB9.1, hB9.2.2.1, hB9.2.2.2⟩) (cwV 0 hts gL_law_X3_thrown rfl rfl rfl (by decide +kernel) ⟨Nat.le_of_ble_eq_true rfl, Nat.le_of_ble_eq_true rfl⟩) hK hE (hP.sub (ws' := wM cI cZ am (nI (kWind (xs (4 * k + 1)) (xs (4 * k + 2)))) n nw ns (sWind σ (xs (4 * k + 1)) (xs (4 * k + 2))) η) m13 rfl) rfl rfl rfl rfl hl.1 rfl (Nat.le_of_ble_eq_true rfl) hS dL_law_302 ⟨by show cells + 1 ≤ 601024; omega, by show slots + 6 ≤ 7293034; omega⟩ (fun locs hS => ?_)
  refine lv_iload hx hb dL_law_305 (lv_at hl 1 rfl) ?_
  refine lv_icmp_eq (tgt := 312) hx hb dL_law_307 (by decide) (fun c1 => ?_) (fun c1 => absurd rfl c1)
  refine lv_iload hx hb dL_law_312 (lv_at hl 1 rfl) ?_
  refine li_ne0 (tgt := 329) hx hb dL_law_314 (by decide) (by have h9 := kWind_le (x := (xs (4 * k + 1))) (y := (xs (4 * k + 2))); omega) (fun c2 => ?_) (fun c2 => ?_)
  · skip
    refine lv_goto (tgt := 1315) hx hb dL_law_329 (by decide) ?_
    refine w_wide (k := cells + 18) (n := slots + 420) (by omega) (by omega) ?_
    exact kk _ _ _ _ _ _ _ _ _ _ _ _ H2 locs ls (INW_wind hI (xs (4 * k + 1)) (xs (4 * k + 2))) hLZ (by omega) hP hS (lv_sub hl [2, 3, 4, 5, 6] rfl)
  · skip
    refine lv_aload_n hx hb dL_law_317 rfl (lv_at hl 6 rfl) ?_
    refine lv_iconst (v := nI 0) hx hb dL_law_318 rfl ?_
    refine va_lald hx hb hK hP 41 2 rfl rfl (vp_in_nI (by decide) (by decide)) dL_law_319 ?_
    refine li_topl (show _ = (vWind σ (xs (4 * k + 1)) (xs (4 * k + 2))).toInt64 from by rw [oK_0 c2]; rfl) ?_
    refine lv_iload hx hb dL_law_320 (lv_at hl 0 rfl) ?_
    refine lv_i2l (v := (vWind σ (xs (4 * k + 1)) (xs (4 * k + 2))).toInt64) hx hb dL_law_322 rfl ?_
    refine W.lcmp hx hb dL_law_323 ?_
    refine li_topi (show _ = nI 0 from lg_cmp_rf _) ?_
    refine li_eq0 (tgt := 329) hx hb dL_law_324 (by decide) (by decide) (fun c3 => ?_) (fun c3 => absurd rfl c3)
    refine lv_goto (tgt := 1315) hx hb dL_law_329 (by decide) ?_
    refine w_wide (k := cells + 18) (n := slots + 420) (by omega) (by omega) ?_
    exact kk _ _ _ _ _ _ _ _ _ _ _ _ H2 locs ls (INW_wind hI (xs (4 * k + 1)) (xs (4 * k + 2))) hLZ (by omega) hP hS (lv_sub hl [2, 3, 4, 5, 6] rfl)
set_option maxHeartbeats 4000000 in
set_option maxRecDepth 100000 in
theorem law_come {p : Program} {l : Launch} {e : Env} {s : State} {m : MethodId} {below : List Frame} {meth : Method} {c : Code} {b L : Nat} {xs : Nat → Int32} {D : va_G} {cI cZ cL cO : ClassId} {a am : Nat → Nat} {qo : Nat} (C0 : lw_At p s m meth c b L xs) (hlT : l.stackTraces = false) (hK : va_K D vwCl (T4 cI cZ cL cO) s) (hE : lwE s) (hT0 : lwT (LA s) s s.heap) (hO : okP (LA s) (al a am qo) 55) (hL : L ≤ 2048) {k : Nat} (hk : 4 * k + 4 ≤ L) {n pl nw ns t : Nat} {σ κ σ' κ' η : Sg} {th : Int32} {f : Nat → Int64} (hI : INW n pl nw ns t σ) (hLZ : LZ nw ns η) (ht : t ≤ 200 * k) {H : Heap} {locs : List Loc} {ls : Array Slot} {cells slots : Nat} (hc : cells + 18 ≤ 601024) (hs : slots + 420 ≤ 7293034) (hP : va_P D vwCl (wL cI cZ cL a am qo n pl nw ns σ κ σ' κ' f n nw ns σ th η) H) (hS : va_S (LA s) s.heap H locs) (hl : lv_has ls 9 [(4, .int (nI (4 * k))), (0, .ref b), (1, .ref (a 40)), (2, .ref (am 0)), (3, .ref qo)]) (kk : LK p l e s m b below meth c D cI cZ cL a am qo k t cells slots) : W p l e room_1 s m #[Value.ref b] below meth c H locs cells slots (lw_Z below #[Value.ref b] s) (F0 m 332 ls []) := by
  obtain ⟨hx, hb, hr, hml, hown, hts0, hX, hbl, hlocks, hgv⟩ := C0
  have hown : s.vm.findClass RL = some m.cls := hown
  have hts : ∀ w ∈ wsL_law, w.before #[Value.ref b] s = true := fun w h => hts0 w (wsL_law_in w h)
  have hbA : ¬ LA s b := Nat.not_le.mpr hbl
  have hB := hI.1.1
  have hTH := hT0.kept hS
  have hA2 : ∀ q, A_ (al a am qo) 42 q → LA s q := ak_of (hO.M (by decide))
  refine lv_aload_n hx hb dL_law_332 rfl (lv_at hl 2 rfl) ?_
  refine lv_aload_n hx hb dL_law_333 rfl (lv_at hl 1 rfl) ?_
  refine lv_iload hx hb dL_law_334 (lv_at hl 0 rfl) ?_
  refine lv_iconst (v := nI 1) hx hb dL_law_336 rfl ?_
  refine lv_iadd hx hb dL_law_337 ?_
  refine li_topi (nI_add _ _) ?_
  refine li_sld hx hb hX hbl hbA hS (i := 4 * k + 1) (by omega) (by omega) dL_law_338 ?_
  refine lv_aload_n hx hb dL_law_339 rfl (lv_at hl 1 rfl) ?_
  refine lv_iload hx hb dL_law_340 (lv_at hl 0 rfl) ?_
  refine lv_iconst (v := nI 2) hx hb dL_law_342 rfl ?_
  refine lv_iadd hx hb dL_law_343 ?_
  refine li_topi (nI_add _ _) ?_
  refine li_sld hx hb hX hbl hbA hS (i := 4 * k + 2) (by omega) (by omega) dL_law_344 ?_
  refine lv_aload_n hx hb dL_law_345 rfl (lv_at hl 1 rfl) ?_
  refine lv_iload hx hb dL_law_346 (lv_at hl 0 rfl) ?_
  refine lv_iconst (v := nI 3) hx hb dL_law_348 rfl ?_
  refine lv_iadd hx hb dL_law_349 ?_
  refine li_topi (nI_add _ _) ?_
  refine li_sld hx hb hX hbl hbA hS (i := 4 * k + 3) (by omega) (by omega) dL_law_350 ?_
  refine lv_aload_n hx hb dL_law_351 rfl (lv_at hl 4 rfl) ?_
  have hPc : va_P D vwCl (wXo cI cZ cL a n pl nw ns σ κ σ' κ' qo f) H := hP.sub i42 rfl
  refine va_calli (vx_runSW (As := [.ref (a 40), .int (xs (4 * k + 1)), .int (xs (4 * k + 2)), .int (xs (4 * k + 3)), .ref qo]) (rest := []) ⟨hx, hb, hml, hown, hts⟩ (c_L_come l hlT D cI cZ cL cO a n pl nw ns σ κ σ' κ' H qo f (xs (4 * k + 1)) (xs (4 * k + 2)) (xs (4 * k + 3)) (A_ (al a am qo) 42) (oka41 hO) hO.ao (okDo hO) hB) (vx_cwSW 5 hts gL_law_L_come rfl rfl rfl (by decide +kernel) ⟨Nat.le_of_ble_eq_true rfl, Nat.le_of_ble_eq_true rfl⟩) ⟨ax_blind, fun U hU hW => ⟨rfl, hU, hPc, va_K.moved hW.alike hK, lwE.warm hW hE, (hTH.warm hW).narrow hA2⟩⟩ rfl rfl hl.1 rfl (lv_room (Nat.le_of_ble_eq_true rfl)) dL_law_352 ⟨by show cells + 1 ≤ 601024; omega, by show slots + 6 ≤ 7293034; omega⟩) hS (fun q _ h => hA2 q h) hA2 (fun r u t9 H1 locs ht9 hal hr9 hB1 hz1 hk1 hS => ?_)
  replace hr9 : r = nI (kCome nw (xs (4 * k + 1)) (xs (4 * k + 2)) (xs (4 * k + 3))) := hr9
  subst hr9
  have hP1 : va_P D vwCl (wXo cI cZ cL a n pl (nCome nw (xs (4 * k + 1)) (xs (4 * k + 2)) (xs (4 * k + 3))) ns (sComeK nw σ (xs (4 * k + 1)) (xs (4 * k + 2)) (xs (4 * k + 3))) u.1 u.2.1 u.2.2 qo (oK (kCome nw (xs (4 * k + 1)) (xs (4 * k + 2)) (xs (4 * k + 3))) (vCome nw (xs (4 * k + 1)) (xs (4 * k + 2)) (xs (4 * k + 3))) f)) H1 := by rw [← ht9]; exact hB1
  replace hP : va_P D vwCl (wL cI cZ cL a am qo n pl (nCome nw (xs (4 * k + 1)) (xs (4 * k + 2)) (xs (4 * k + 3))) ns (sComeK nw σ (xs (4 * k + 1)) (xs (4 * k + 2)) (xs (4 * k + 3))) u.1 u.2.1 u.2.2 (oK (kCome nw (xs (4 * k + 1)) (xs (4 * k + 2)) (xs (4 * k + 3))) (vCome nw (xs (4 * k + 1)) (xs (4 * k + 2)) (xs (4 * k + 3))) f) n nw ns σ th η) H1 := jnH hO hP hP1 hk1
  refine lv_istore (lv' := [(5, .int (nI (kCome nw (xs (4 * k + 1)) (xs (4 * k + 2)) (xs (4 * k + 3))))), (4, .int (nI (4 * k))), (0, .ref b), (1, .ref (a 40)), (2, .ref (am 0)), (3, .ref qo)]) hx hb dL_law_355 hl (by decide) rfl (fun ls hl => ?_)
  refine lv_aload_n hx hb dL_law_357 rfl (lv_at hl 4 rfl) ?_
  refine lv_aload_n hx hb dL_law_358 rfl (lv_at hl 2 rfl) ?_
  refine lv_iload hx hb dL_law_359 (lv_at hl 1 rfl) ?_
  refine lv_iconst (v := nI 1) hx hb dL_law_361 rfl ?_
  refine lv_iadd hx hb dL_law_362 ?_
  refine li_topi (nI_add _ _) ?_
  refine li_sld hx hb hX hbl hbA hS (i := 4 * k + 1) (by omega) (by omega) dL_law_363 ?_
  refine lv_aload_n hx hb dL_law_364 rfl (lv_at hl 2 rfl) ?_
  refine lv_iload hx hb dL_law_365 (lv_at hl 1 rfl) ?_
  refine lv_iconst (v := nI 2) hx hb dL_law_367 rfl ?_
  refine lv_iadd hx hb dL_law_368 ?_
  refine li_topi (nI_add _ _) ?_
  refine li_sld hx hb hX hbl hbA hS (i := 4 * k + 2) (by omega) (by omega) dL_law_369 ?_
  refine lv_aload_n hx hb dL_law_370 rfl (lv_at hl 2 rfl) ?_
  refine lv_iload hx hb dL_law_371 (lv_at hl 1 rfl) ?_
  refine lv_iconst (v := nI 3) hx hb dL_law_373 rfl ?_
  refine lv_iadd hx hb dL_law_374 ?_
  refine li_topi (nI_add _ _) ?_
  refine li_sld hx hb hX hbl hbA hS (i := 4 * k + 3) (by omega) (by omega) dL_law_375 ?_
  have hPm : va_P D vwCl (wM cI cZ am th n nw ns σ η) H1 := hP.sub m13 rfl
  refine mizV (As := [.int (xs (4 * k + 1)), .int (xs (4 * k + 2)), .int (xs (4 * k + 3))]) (q0 := 0) (ci := 3) hx hb hml hown hts (c_X3_come l D cI cZ cL cO am th n nw ns σ η H1 (xs (4 * k + 1)) (xs (4 * k + 2)) (xs (4 * k + 3)) (A_ am 13) (okm13 hO) ⟨hB.1, hB.2.2.1, hB.2.2.2⟩ hI.1.2.2.2.2.2.2.2.2) (cwV 3 hts gL_law_X3_come rfl rfl rfl (by decide +kernel) ⟨Nat.le_of_ble_eq_true rfl, Nat.le_of_ble_eq_true rfl⟩) hK hE hPm rfl rfl rfl rfl hl.1 rfl (Nat.le_of_ble_eq_true rfl) hS (fun q z => z.elim ((okmA hO) q) (fun y => Nat.le_trans hS.1 y)) dL_law_376 ⟨by show cells + 1 + 1 ≤ 601024; omega, by show slots + 6 + 8 ≤ 7293034; omega⟩ (fun H2 locs hPm2 _ hk2 hS => ?_)
  replace hP : va_P D vwCl (wL cI cZ cL a am qo n pl (nCome nw (xs (4 * k + 1)) (xs (4 * k + 2)) (xs (4 * k + 3))) ns (sComeK nw σ (xs (4 * k + 1)) (xs (4 * k + 2)) (xs (4 * k + 3))) u.1 u.2.1 u.2.2 (oK (kCome nw (xs (4 * k + 1)) (xs (4 * k + 2)) (xs (4 * k + 3))) (vCome nw (xs (4 * k + 1)) (xs (4 * k + 2)) (xs (4 * k + 3))) f) n (nCome nw (xs (4 * k + 1)) (xs (4 * k + 2)) (xs (4 * k + 3))) ns (sComeK nw σ (xs (4 * k + 1)) (xs (4 * k + 2)) (xs (4 * k + 3))) (nI (kCome nw (xs (4 * k + 1)) (xs (4 * k + 2)) (xs (4 * k + 3)))) η) H2 := jnM hO hP hPm2 (AN_M hk2)
  refine lv_istore (lv' := [(6, .int (vCome nw (xs (4 * k + 1)) (xs (4 * k + 2)) (xs (4 * k + 3)))), (5, .int (nI (kCome nw (xs (4 * k + 1)) (xs (4 * k + 2)) (xs (4 * k + 3))))), (4, .int (nI (4 * k))), (0, .ref b), (1, .ref (a 40)), (2, .ref (am 0)), (3, .ref qo)]) hx hb dL_law_379 hl (by decide) rfl (fun ls hl => ?_)
  refine lv_aload_n hx hb dL_law_381 rfl (lv_at hl 5 rfl) ?_
  have hB9 := (INW_come hI (xs (4 * k + 1)) (xs (4 * k + 2)) (xs (4 * k + 3))).1.1
  refine roV (As := []) (q0 := 0) (ci := 3) hx hb hml hown hts (c_X3_thrown l D cI cZ cL cO am (nI (kCome nw (xs (4 * k + 1)) (xs (4 * k + 2)) (xs (4 * k + 3)))) n (nCome nw (xs (4 * k + 1)) (xs (4 * k + 2)) (xs (4 * k + 3))) ns (sComeK nw σ (xs (4 * k + 1)) (xs (4 * k + 2)) (xs (4 * k + 3))) η H2 ⟨hB9.1, hB9.2.2.1, hB9.2.2.2⟩) (cwV 0 hts gL_law_X3_thrown rfl rfl rfl (by decide +kernel) ⟨Nat.le_of_ble_eq_true rfl, Nat.le_of_ble_eq_true rfl⟩) hK hE (hP.sub (ws' := wM cI cZ am (nI (kCome nw (xs (4 * k + 1)) (xs (4 * k + 2)) (xs (4 * k + 3)))) n (nCome nw (xs (4 * k + 1)) (xs (4 * k + 2)) (xs (4 * k + 3))) ns (sComeK nw σ (xs (4 * k + 1)) (xs (4 * k + 2)) (xs (4 * k + 3))) η) m13 rfl) rfl rfl rfl rfl hl.1 rfl (Nat.le_of_ble_eq_true rfl) hS dL_law_382 ⟨by show cells + 2 ≤ 601024; omega, by show slots + 14 ≤ 7293034; omega⟩ (fun locs hS => ?_)
  refine lv_iload hx hb dL_law_385 (lv_at hl 1 rfl) ?_
  refine lv_icmp_eq (tgt := 392) hx hb dL_law_387 (by decide) (fun c1 => ?_) (fun c1 => absurd rfl c1)
  refine lv_iload hx hb dL_law_392 (lv_at hl 1 rfl) ?_
  refine li_ne0 (tgt := 409) hx hb dL_law_394 (by decide) (by have h9 := kCome_le (nw := nw) (x := (xs (4 * k + 1))) (y := (xs (4 * k + 2))) (z := (xs (4 * k + 3))); omega) (fun c2 => ?_) (fun c2 => ?_)
  · skip
    refine lv_goto (tgt := 1315) hx hb dL_law_409 (by decide) ?_
    refine w_wide (k := cells + 18) (n := slots + 420) (by omega) (by omega) ?_
    exact kk _ _ _ _ _ _ _ _ _ _ _ _ H2 locs ls (INW_come hI (xs (4 * k + 1)) (xs (4 * k + 2)) (xs (4 * k + 3))) (LZ_mono hLZ nCome_le (Nat.le_refl _)) (by omega) hP hS (lv_sub hl [2, 3, 4, 5, 6] rfl)
  · skip
    refine lv_aload_n hx hb dL_law_397 rfl (lv_at hl 6 rfl) ?_
    refine lv_iconst (v := nI 0) hx hb dL_law_398 rfl ?_
    refine va_lald hx hb hK hP 41 2 rfl rfl (vp_in_nI (by decide) (by decide)) dL_law_399 ?_
    refine li_topl (show _ = (vCome nw (xs (4 * k + 1)) (xs (4 * k + 2)) (xs (4 * k + 3))).toInt64 from by rw [oK_0 c2]; rfl) ?_
    refine lv_iload hx hb dL_law_400 (lv_at hl 0 rfl) ?_
    refine lv_i2l (v := (vCome nw (xs (4 * k + 1)) (xs (4 * k + 2)) (xs (4 * k + 3))).toInt64) hx hb dL_law_402 rfl ?_
    refine W.lcmp hx hb dL_law_403 ?_
    refine li_topi (show _ = nI 0 from lg_cmp_rf _) ?_
    refine li_eq0 (tgt := 409) hx hb dL_law_404 (by decide) (by decide) (fun c3 => ?_) (fun c3 => absurd rfl c3)
    refine lv_goto (tgt := 1315) hx hb dL_law_409 (by decide) ?_
    refine w_wide (k := cells + 18) (n := slots + 420) (by omega) (by omega) ?_
    exact kk _ _ _ _ _ _ _ _ _ _ _ _ H2 locs ls (INW_come hI (xs (4 * k + 1)) (xs (4 * k + 2)) (xs (4 * k + 3))) (LZ_mono hLZ nCome_le (Nat.le_refl _)) (by omega) hP hS (lv_sub hl [2, 3, 4, 5, 6] rfl)
set_option maxHeartbeats 4000000 in
set_option maxRecDepth 100000 in
theorem law_trim {p : Program} {l : Launch} {e : Env} {s : State} {m : MethodId} {below : List Frame} {meth : Method} {c : Code} {b L : Nat} {xs : Nat → Int32} {D : va_G} {cI cZ cL cO : ClassId} {a am : Nat → Nat} {qo : Nat} (C0 : lw_At p s m meth c b L xs) (hlT : l.stackTraces = false) (hK : va_K D vwCl (T4 cI cZ cL cO) s) (hE : lwE s) (hT0 : lwT (LA s) s s.heap) (hO : okP (LA s) (al a am qo) 55) (hL : L ≤ 2048) {k : Nat} (hk : 4 * k + 4 ≤ L) {n pl nw ns t : Nat} {σ κ σ' κ' η : Sg} {th : Int32} {f : Nat → Int64} (hI : INW n pl nw ns t σ) (hLZ : LZ nw ns η) (ht : t ≤ 200 * k) {H : Heap} {locs : List Loc} {ls : Array Slot} {cells slots : Nat} (hc : cells + 18 ≤ 601024) (hs : slots + 420 ≤ 7293034) (hP : va_P D vwCl (wL cI cZ cL a am qo n pl nw ns σ κ σ' κ' f n nw ns σ th η) H) (hS : va_S (LA s) s.heap H locs) (hl : lv_has ls 9 [(4, .int (nI (4 * k))), (0, .ref b), (1, .ref (a 40)), (2, .ref (am 0)), (3, .ref qo)]) (kk : LK p l e s m b below meth c D cI cZ cL a am qo k t cells slots) : W p l e room_1 s m #[Value.ref b] below meth c H locs cells slots (lw_Z below #[Value.ref b] s) (F0 m 412 ls []) := by
  obtain ⟨hx, hb, hr, hml, hown, hts0, hX, hbl, hlocks, hgv⟩ := C0
  have hown : s.vm.findClass RL = some m.cls := hown
  have hts : ∀ w ∈ wsL_law, w.before #[Value.ref b] s = true := fun w h => hts0 w (wsL_law_in w h)
  have hbA : ¬ LA s b := Nat.not_le.mpr hbl
  have hB := hI.1.1
  have hTH := hT0.kept hS
  have hA2 : ∀ q, A_ (al a am qo) 42 q → LA s q := ak_of (hO.M (by decide))
  refine lv_aload_n hx hb dL_law_412 rfl (lv_at hl 2 rfl) ?_
  refine lv_aload_n hx hb dL_law_413 rfl (lv_at hl 1 rfl) ?_
  refine lv_iload hx hb dL_law_414 (lv_at hl 0 rfl) ?_
  refine lv_iconst (v := nI 1) hx hb dL_law_416 rfl ?_
  refine lv_iadd hx hb dL_law_417 ?_
  refine li_topi (nI_add _ _) ?_
  refine li_sld hx hb hX hbl hbA hS (i := 4 * k + 1) (by omega) (by omega) dL_law_418 ?_
  refine lv_aload_n hx hb dL_law_419 rfl (lv_at hl 1 rfl) ?_
  refine lv_iload hx hb dL_law_420 (lv_at hl 0 rfl) ?_
  refine lv_iconst (v := nI 2) hx hb dL_law_422 rfl ?_
  refine lv_iadd hx hb dL_law_423 ?_
  refine li_topi (nI_add _ _) ?_
  refine li_sld hx hb hX hbl hbA hS (i := 4 * k + 2) (by omega) (by omega) dL_law_424 ?_
  refine lv_aload_n hx hb dL_law_425 rfl (lv_at hl 4 rfl) ?_
  have hPc : va_P D vwCl (wXo cI cZ cL a n pl nw ns σ κ σ' κ' qo f) H := hP.sub i42 rfl
  refine va_calli (vx_runSW (As := [.ref (a 40), .int (xs (4 * k + 1)), .int (xs (4 * k + 2)), .ref qo]) (rest := []) ⟨hx, hb, hml, hown, hts⟩ (c_L_trim l hlT D cI cZ cL cO a n pl nw ns σ κ σ' κ' H qo f (xs (4 * k + 1)) (xs (4 * k + 2)) (A_ (al a am qo) 42) (oka41 hO) hO.ao (okDo hO) hB) (vx_cwSW 4 hts gL_law_L_trim rfl rfl rfl (by decide +kernel) ⟨Nat.le_of_ble_eq_true rfl, Nat.le_of_ble_eq_true rfl⟩) ⟨ax_blind, fun U hU hW => ⟨rfl, hU, hPc, va_K.moved hW.alike hK, lwE.warm hW hE, (hTH.warm hW).narrow hA2⟩⟩ rfl rfl hl.1 rfl (lv_room (Nat.le_of_ble_eq_true rfl)) dL_law_426 ⟨by show cells + 1 ≤ 601024; omega, by show slots + 6 ≤ 7293034; omega⟩) hS (fun q _ h => hA2 q h) hA2 (fun r u t9 H1 locs ht9 hal hr9 hB1 hz1 hk1 hS => ?_)
  replace hr9 : r = nI (kTrim nw σ (xs (4 * k + 1)) (xs (4 * k + 2))) := hr9
  subst hr9
  have hP1 : va_P D vwCl (wXo cI cZ cL a n pl nw ns (sTrim nw σ (xs (4 * k + 1)) (xs (4 * k + 2))) u.1 u.2.1 u.2.2 qo (oK (kTrim nw σ (xs (4 * k + 1)) (xs (4 * k + 2))) (vTrim nw σ (xs (4 * k + 1)) (xs (4 * k + 2))) f)) H1 := by rw [← ht9]; exact hB1
  replace hP : va_P D vwCl (wL cI cZ cL a am qo n pl nw ns (sTrim nw σ (xs (4 * k + 1)) (xs (4 * k + 2))) u.1 u.2.1 u.2.2 (oK (kTrim nw σ (xs (4 * k + 1)) (xs (4 * k + 2))) (vTrim nw σ (xs (4 * k + 1)) (xs (4 * k + 2))) f) n nw ns σ th η) H1 := jnH hO hP hP1 hk1
  refine lv_istore (lv' := [(5, .int (nI (kTrim nw σ (xs (4 * k + 1)) (xs (4 * k + 2))))), (4, .int (nI (4 * k))), (0, .ref b), (1, .ref (a 40)), (2, .ref (am 0)), (3, .ref qo)]) hx hb dL_law_429 hl (by decide) rfl (fun ls hl => ?_)
  refine lv_aload_n hx hb dL_law_431 rfl (lv_at hl 4 rfl) ?_
  refine lv_aload_n hx hb dL_law_432 rfl (lv_at hl 2 rfl) ?_
  refine lv_iload hx hb dL_law_433 (lv_at hl 1 rfl) ?_
  refine lv_iconst (v := nI 1) hx hb dL_law_435 rfl ?_
  refine lv_iadd hx hb dL_law_436 ?_
  refine li_topi (nI_add _ _) ?_
  refine li_sld hx hb hX hbl hbA hS (i := 4 * k + 1) (by omega) (by omega) dL_law_437 ?_
  refine lv_aload_n hx hb dL_law_438 rfl (lv_at hl 2 rfl) ?_
  refine lv_iload hx hb dL_law_439 (lv_at hl 1 rfl) ?_
  refine lv_iconst (v := nI 2) hx hb dL_law_441 rfl ?_
  refine lv_iadd hx hb dL_law_442 ?_
  refine li_topi (nI_add _ _) ?_
  refine li_sld hx hb hX hbl hbA hS (i := 4 * k + 2) (by omega) (by omega) dL_law_443 ?_
  have hPm : va_P D vwCl (wM cI cZ am th n nw ns σ η) H1 := hP.sub m13 rfl
  refine miV (As := [.int (xs (4 * k + 1)), .int (xs (4 * k + 2))]) (q0 := 0) (ci := 3) hx hb hml hown hts (c_X3_trim l D cI cZ cL cO am th n nw ns σ η H1 (xs (4 * k + 1)) (xs (4 * k + 2)) (A_ am 13) (okm13 hO) ⟨hB.1, hB.2.2.1, hB.2.2.2⟩) (cwV 2 hts gL_law_X3_trim rfl rfl rfl (by decide +kernel) ⟨Nat.le_of_ble_eq_true rfl, Nat.le_of_ble_eq_true rfl⟩) hK hE hPm rfl rfl rfl rfl hl.1 rfl (Nat.le_of_ble_eq_true rfl) hS (okmA hO) dL_law_444 ⟨by show cells + 1 ≤ 601024; omega, by show slots + 6 ≤ 7293034; omega⟩ (fun H2 locs hPm2 _ hk2 hS => ?_)
  replace hP : va_P D vwCl (wL cI cZ cL a am qo n pl nw ns (sTrim nw σ (xs (4 * k + 1)) (xs (4 * k + 2))) u.1 u.2.1 u.2.2 (oK (kTrim nw σ (xs (4 * k + 1)) (xs (4 * k + 2))) (vTrim nw σ (xs (4 * k + 1)) (xs (4 * k + 2))) f) n nw ns (sTrim nw σ (xs (4 * k + 1)) (xs (4 * k + 2))) (nI (kTrim nw σ (xs (4 * k + 1)) (xs (4 * k + 2)))) η) H2 := jnM hO hP hPm2 hk2
  refine lv_istore (lv' := [(6, .int (vTrim nw σ (xs (4 * k + 1)) (xs (4 * k + 2)))), (5, .int (nI (kTrim nw σ (xs (4 * k + 1)) (xs (4 * k + 2))))), (4, .int (nI (4 * k))), (0, .ref b), (1, .ref (a 40)), (2, .ref (am 0)), (3, .ref qo)]) hx hb dL_law_447 hl (by decide) rfl (fun ls hl => ?_)
  refine lv_aload_n hx hb dL_law_449 rfl (lv_at hl 5 rfl) ?_
  have hB9 := (INW_trim hI (xs (4 * k + 1)) (xs (4 * k + 2))).1.1
  refine roV (As := []) (q0 := 0) (ci := 3) hx hb hml hown hts (c_X3_thrown l D cI cZ cL cO am (nI (kTrim nw σ (xs (4 * k + 1)) (xs (4 * k + 2)))) n nw ns (sTrim nw σ (xs (4 * k + 1)) (xs (4 * k + 2))) η H2 ⟨hB9.1, hB9.2.2.1, hB9.2.2.2⟩) (cwV 0 hts gL_law_X3_thrown rfl rfl rfl (by decide +kernel) ⟨Nat.le_of_ble_eq_true rfl, Nat.le_of_ble_eq_true rfl⟩) hK hE (hP.sub (ws' := wM cI cZ am (nI (kTrim nw σ (xs (4 * k + 1)) (xs (4 * k + 2)))) n nw ns (sTrim nw σ (xs (4 * k + 1)) (xs (4 * k + 2))) η) m13 rfl) rfl rfl rfl rfl hl.1 rfl (Nat.le_of_ble_eq_true rfl) hS dL_law_450 ⟨by show cells + 1 ≤ 601024; omega, by show slots + 6 ≤ 7293034; omega⟩ (fun locs hS => ?_)
  refine lv_iload hx hb dL_law_453 (lv_at hl 1 rfl) ?_
  refine lv_icmp_eq (tgt := 460) hx hb dL_law_455 (by decide) (fun c1 => ?_) (fun c1 => absurd rfl c1)
  refine lv_iload hx hb dL_law_460 (lv_at hl 1 rfl) ?_
  refine li_ne0 (tgt := 477) hx hb dL_law_462 (by decide) (by have h9 := kTrim_le (nw := nw) (σ := σ) (x := (xs (4 * k + 1))) (y := (xs (4 * k + 2))); omega) (fun c2 => ?_) (fun c2 => ?_)
  · skip
    refine lv_goto (tgt := 1315) hx hb dL_law_477 (by decide) ?_
    refine w_wide (k := cells + 18) (n := slots + 420) (by omega) (by omega) ?_
    exact kk _ _ _ _ _ _ _ _ _ _ _ _ H2 locs ls (INW_trim hI (xs (4 * k + 1)) (xs (4 * k + 2))) hLZ (by omega) hP hS (lv_sub hl [2, 3, 4, 5, 6] rfl)
  · skip
    refine lv_aload_n hx hb dL_law_465 rfl (lv_at hl 6 rfl) ?_
    refine lv_iconst (v := nI 0) hx hb dL_law_466 rfl ?_
    refine va_lald hx hb hK hP 41 2 rfl rfl (vp_in_nI (by decide) (by decide)) dL_law_467 ?_
    refine li_topl (show _ = (vTrim nw σ (xs (4 * k + 1)) (xs (4 * k + 2))).toInt64 from by rw [oK_0 c2]; rfl) ?_
    refine lv_iload hx hb dL_law_468 (lv_at hl 0 rfl) ?_
    refine lv_i2l (v := (vTrim nw σ (xs (4 * k + 1)) (xs (4 * k + 2))).toInt64) hx hb dL_law_470 rfl ?_
    refine W.lcmp hx hb dL_law_471 ?_
    refine li_topi (show _ = nI 0 from lg_cmp_rf _) ?_
    refine li_eq0 (tgt := 477) hx hb dL_law_472 (by decide) (by decide) (fun c3 => ?_) (fun c3 => absurd rfl c3)
    refine lv_goto (tgt := 1315) hx hb dL_law_477 (by decide) ?_
    refine w_wide (k := cells + 18) (n := slots + 420) (by omega) (by omega) ?_
    exact kk _ _ _ _ _ _ _ _ _ _ _ _ H2 locs ls (INW_trim hI (xs (4 * k + 1)) (xs (4 * k + 2))) hLZ (by omega) hP hS (lv_sub hl [2, 3, 4, 5, 6] rfl)
set_option maxHeartbeats 4000000 in
set_option maxRecDepth 100000 in
theorem law_addSong {p : Program} {l : Launch} {e : Env} {s : State} {m : MethodId} {below : List Frame} {meth : Method} {c : Code} {b L : Nat} {xs : Nat → Int32} {D : va_G} {cI cZ cL cO : ClassId} {a am : Nat → Nat} {qo : Nat} (C0 : lw_At p s m meth c b L xs) (hlT : l.stackTraces = false) (hK : va_K D vwCl (T4 cI cZ cL cO) s) (hE : lwE s) (hT0 : lwT (LA s) s s.heap) (hO : okP (LA s) (al a am qo) 55) (hL : L ≤ 2048) {k : Nat} (hk : 4 * k + 4 ≤ L) {n pl nw ns t : Nat} {σ κ σ' κ' η : Sg} {th : Int32} {f : Nat → Int64} (hI : INW n pl nw ns t σ) (hLZ : LZ nw ns η) (ht : t ≤ 200 * k) {H : Heap} {locs : List Loc} {ls : Array Slot} {cells slots : Nat} (hc : cells + 18 ≤ 601024) (hs : slots + 420 ≤ 7293034) (hP : va_P D vwCl (wL cI cZ cL a am qo n pl nw ns σ κ σ' κ' f n nw ns σ th η) H) (hS : va_S (LA s) s.heap H locs) (hl : lv_has ls 9 [(4, .int (nI (4 * k))), (0, .ref b), (1, .ref (a 40)), (2, .ref (am 0)), (3, .ref qo)]) (kk : LK p l e s m b below meth c D cI cZ cL a am qo k t cells slots) : W p l e room_1 s m #[Value.ref b] below meth c H locs cells slots (lw_Z below #[Value.ref b] s) (F0 m 480 ls []) := by
  obtain ⟨hx, hb, hr, hml, hown, hts0, hX, hbl, hlocks, hgv⟩ := C0
  have hown : s.vm.findClass RL = some m.cls := hown
  have hts : ∀ w ∈ wsL_law, w.before #[Value.ref b] s = true := fun w h => hts0 w (wsL_law_in w h)
  have hbA : ¬ LA s b := Nat.not_le.mpr hbl
  have hB := hI.1.1
  have hTH := hT0.kept hS
  have hA2 : ∀ q, A_ (al a am qo) 42 q → LA s q := ak_of (hO.M (by decide))
  refine lv_aload_n hx hb dL_law_480 rfl (lv_at hl 2 rfl) ?_
  refine lv_aload_n hx hb dL_law_481 rfl (lv_at hl 1 rfl) ?_
  refine lv_iload hx hb dL_law_482 (lv_at hl 0 rfl) ?_
  refine lv_iconst (v := nI 1) hx hb dL_law_484 rfl ?_
  refine lv_iadd hx hb dL_law_485 ?_
  refine li_topi (nI_add _ _) ?_
  refine li_sld hx hb hX hbl hbA hS (i := 4 * k + 1) (by omega) (by omega) dL_law_486 ?_
  refine lv_aload_n hx hb dL_law_487 rfl (lv_at hl 4 rfl) ?_
  have hPc : va_P D vwCl (wXo cI cZ cL a n pl nw ns σ κ σ' κ' qo f) H := hP.sub i42 rfl
  refine va_calli (vx_runSW (As := [.ref (a 40), .int (xs (4 * k + 1)), .ref qo]) (rest := []) ⟨hx, hb, hml, hown, hts⟩ (c_L_addSong l hlT D cI cZ cL cO a n pl nw ns σ κ σ' κ' H qo f (xs (4 * k + 1)) (A_ (al a am qo) 42) (oka41 hO) hO.ao (okDo hO) hB) (vx_cwSW 3 hts gL_law_L_addSong rfl rfl rfl (by decide +kernel) ⟨Nat.le_of_ble_eq_true rfl, Nat.le_of_ble_eq_true rfl⟩) ⟨ax_blind, fun U hU hW => ⟨rfl, hU, hPc, va_K.moved hW.alike hK, lwE.warm hW hE, (hTH.warm hW).narrow hA2⟩⟩ rfl rfl hl.1 rfl (lv_room (Nat.le_of_ble_eq_true rfl)) dL_law_488 ⟨by show cells + 1 ≤ 601024; omega, by show slots + 6 ≤ 7293034; omega⟩) hS (fun q _ h => hA2 q h) hA2 (fun r u t9 H1 locs ht9 hal hr9 hB1 hz1 hk1 hS => ?_)
  replace hr9 : r = nI (kSong ns (xs (4 * k + 1))) := hr9
  subst hr9
  have hP1 : va_P D vwCl (wXo cI cZ cL a n pl nw (nSong ns (xs (4 * k + 1))) (sSong ns σ (xs (4 * k + 1))) u.1 u.2.1 u.2.2 qo (oK (kSong ns (xs (4 * k + 1))) (vSong ns (xs (4 * k + 1))) f)) H1 := by rw [← ht9]; exact hB1
  replace hP : va_P D vwCl (wL cI cZ cL a am qo n pl nw (nSong ns (xs (4 * k + 1))) (sSong ns σ (xs (4 * k + 1))) u.1 u.2.1 u.2.2 (oK (kSong ns (xs (4 * k + 1))) (vSong ns (xs (4 * k + 1))) f) n nw ns σ th η) H1 := jnH hO hP hP1 hk1
  refine lv_istore (lv' := [(5, .int (nI (kSong ns (xs (4 * k + 1))))), (4, .int (nI (4 * k))), (0, .ref b), (1, .ref (a 40)), (2, .ref (am 0)), (3, .ref qo)]) hx hb dL_law_491 hl (by decide) rfl (fun ls hl => ?_)
  refine lv_aload_n hx hb dL_law_493 rfl (lv_at hl 4 rfl) ?_
  refine lv_aload_n hx hb dL_law_494 rfl (lv_at hl 2 rfl) ?_
  refine lv_iload hx hb dL_law_495 (lv_at hl 1 rfl) ?_
  refine lv_iconst (v := nI 1) hx hb dL_law_497 rfl ?_
  refine lv_iadd hx hb dL_law_498 ?_
  refine li_topi (nI_add _ _) ?_
  refine li_sld hx hb hX hbl hbA hS (i := 4 * k + 1) (by omega) (by omega) dL_law_499 ?_
  have hPm : va_P D vwCl (wM cI cZ am th n nw ns σ η) H1 := hP.sub m13 rfl
  refine miV (As := [.int (xs (4 * k + 1))]) (q0 := 0) (ci := 3) hx hb hml hown hts (c_X3_addSong l D cI cZ cL cO am th n nw ns σ η H1 (xs (4 * k + 1)) (A_ am 13) (okm13 hO) ⟨hB.1, hB.2.2.1, hB.2.2.2⟩) (cwV 1 hts gL_law_X3_addSong rfl rfl rfl (by decide +kernel) ⟨Nat.le_of_ble_eq_true rfl, Nat.le_of_ble_eq_true rfl⟩) hK hE hPm rfl rfl rfl rfl hl.1 rfl (Nat.le_of_ble_eq_true rfl) hS (okmA hO) dL_law_500 ⟨by show cells + 1 ≤ 601024; omega, by show slots + 6 ≤ 7293034; omega⟩ (fun H2 locs hPm2 _ hk2 hS => ?_)
  replace hP : va_P D vwCl (wL cI cZ cL a am qo n pl nw (nSong ns (xs (4 * k + 1))) (sSong ns σ (xs (4 * k + 1))) u.1 u.2.1 u.2.2 (oK (kSong ns (xs (4 * k + 1))) (vSong ns (xs (4 * k + 1))) f) n nw (nSong ns (xs (4 * k + 1))) (sSong ns σ (xs (4 * k + 1))) (nI (kSong ns (xs (4 * k + 1)))) η) H2 := jnM hO hP hPm2 hk2
  refine lv_istore (lv' := [(6, .int (vSong ns (xs (4 * k + 1)))), (5, .int (nI (kSong ns (xs (4 * k + 1))))), (4, .int (nI (4 * k))), (0, .ref b), (1, .ref (a 40)), (2, .ref (am 0)), (3, .ref qo)]) hx hb dL_law_503 hl (by decide) rfl (fun ls hl => ?_)
  refine lv_aload_n hx hb dL_law_505 rfl (lv_at hl 5 rfl) ?_
  have hB9 := (INW_song hI (xs (4 * k + 1))).1.1
  refine roV (As := []) (q0 := 0) (ci := 3) hx hb hml hown hts (c_X3_thrown l D cI cZ cL cO am (nI (kSong ns (xs (4 * k + 1)))) n nw (nSong ns (xs (4 * k + 1))) (sSong ns σ (xs (4 * k + 1))) η H2 ⟨hB9.1, hB9.2.2.1, hB9.2.2.2⟩) (cwV 0 hts gL_law_X3_thrown rfl rfl rfl (by decide +kernel) ⟨Nat.le_of_ble_eq_true rfl, Nat.le_of_ble_eq_true rfl⟩) hK hE (hP.sub (ws' := wM cI cZ am (nI (kSong ns (xs (4 * k + 1)))) n nw (nSong ns (xs (4 * k + 1))) (sSong ns σ (xs (4 * k + 1))) η) m13 rfl) rfl rfl rfl rfl hl.1 rfl (Nat.le_of_ble_eq_true rfl) hS dL_law_506 ⟨by show cells + 1 ≤ 601024; omega, by show slots + 6 ≤ 7293034; omega⟩ (fun locs hS => ?_)
  refine lv_iload hx hb dL_law_509 (lv_at hl 1 rfl) ?_
  refine lv_icmp_eq (tgt := 516) hx hb dL_law_511 (by decide) (fun c1 => ?_) (fun c1 => absurd rfl c1)
  refine lv_iload hx hb dL_law_516 (lv_at hl 1 rfl) ?_
  refine li_ne0 (tgt := 533) hx hb dL_law_518 (by decide) (by have h9 := kSong_le (ns := ns) (x := (xs (4 * k + 1))); omega) (fun c2 => ?_) (fun c2 => ?_)
  · skip
    refine lv_goto (tgt := 1315) hx hb dL_law_533 (by decide) ?_
    refine w_wide (k := cells + 18) (n := slots + 420) (by omega) (by omega) ?_
    exact kk _ _ _ _ _ _ _ _ _ _ _ _ H2 locs ls (INW_song hI (xs (4 * k + 1))) (LZ_mono hLZ (Nat.le_refl _) nSong_le) (by omega) hP hS (lv_sub hl [2, 3, 4, 5, 6] rfl)
  · skip
    refine lv_aload_n hx hb dL_law_521 rfl (lv_at hl 6 rfl) ?_
    refine lv_iconst (v := nI 0) hx hb dL_law_522 rfl ?_
    refine va_lald hx hb hK hP 41 2 rfl rfl (vp_in_nI (by decide) (by decide)) dL_law_523 ?_
    refine li_topl (show _ = (vSong ns (xs (4 * k + 1))).toInt64 from by rw [oK_0 c2]; rfl) ?_
    refine lv_iload hx hb dL_law_524 (lv_at hl 0 rfl) ?_
    refine lv_i2l (v := (vSong ns (xs (4 * k + 1))).toInt64) hx hb dL_law_526 rfl ?_
    refine W.lcmp hx hb dL_law_527 ?_
    refine li_topi (show _ = nI 0 from lg_cmp_rf _) ?_
    refine li_eq0 (tgt := 533) hx hb dL_law_528 (by decide) (by decide) (fun c3 => ?_) (fun c3 => absurd rfl c3)
    refine lv_goto (tgt := 1315) hx hb dL_law_533 (by decide) ?_
    refine w_wide (k := cells + 18) (n := slots + 420) (by omega) (by omega) ?_
    exact kk _ _ _ _ _ _ _ _ _ _ _ _ H2 locs ls (INW_song hI (xs (4 * k + 1))) (LZ_mono hLZ (Nat.le_refl _) nSong_le) (by omega) hP hS (lv_sub hl [2, 3, 4, 5, 6] rfl)
set_option maxHeartbeats 4000000 in
set_option maxRecDepth 100000 in
theorem law_teach {p : Program} {l : Launch} {e : Env} {s : State} {m : MethodId} {below : List Frame} {meth : Method} {c : Code} {b L : Nat} {xs : Nat → Int32} {D : va_G} {cI cZ cL cO : ClassId} {a am : Nat → Nat} {qo : Nat} (C0 : lw_At p s m meth c b L xs) (hlT : l.stackTraces = false) (hK : va_K D vwCl (T4 cI cZ cL cO) s) (hE : lwE s) (hT0 : lwT (LA s) s s.heap) (hO : okP (LA s) (al a am qo) 55) (hL : L ≤ 2048) {k : Nat} (hk : 4 * k + 4 ≤ L) {n pl nw ns t : Nat} {σ κ σ' κ' η : Sg} {th : Int32} {f : Nat → Int64} (hI : INW n pl nw ns t σ) (hLZ : LZ nw ns η) (ht : t ≤ 200 * k) {H : Heap} {locs : List Loc} {ls : Array Slot} {cells slots : Nat} (hc : cells + 18 ≤ 601024) (hs : slots + 420 ≤ 7293034) (hP : va_P D vwCl (wL cI cZ cL a am qo n pl nw ns σ κ σ' κ' f n nw ns σ th η) H) (hS : va_S (LA s) s.heap H locs) (hl : lv_has ls 9 [(4, .int (nI (4 * k))), (0, .ref b), (1, .ref (a 40)), (2, .ref (am 0)), (3, .ref qo)]) (kk : LK p l e s m b below meth c D cI cZ cL a am qo k t cells slots) : W p l e room_1 s m #[Value.ref b] below meth c H locs cells slots (lw_Z below #[Value.ref b] s) (F0 m 536 ls []) := by
  obtain ⟨hx, hb, hr, hml, hown, hts0, hX, hbl, hlocks, hgv⟩ := C0
  have hown : s.vm.findClass RL = some m.cls := hown
  have hts : ∀ w ∈ wsL_law, w.before #[Value.ref b] s = true := fun w h => hts0 w (wsL_law_in w h)
  have hbA : ¬ LA s b := Nat.not_le.mpr hbl
  have hB := hI.1.1
  have hTH := hT0.kept hS
  have hA2 : ∀ q, A_ (al a am qo) 42 q → LA s q := ak_of (hO.M (by decide))
  refine lv_aload_n hx hb dL_law_536 rfl (lv_at hl 2 rfl) ?_
  refine lv_aload_n hx hb dL_law_537 rfl (lv_at hl 1 rfl) ?_
  refine lv_iload hx hb dL_law_538 (lv_at hl 0 rfl) ?_
  refine lv_iconst (v := nI 1) hx hb dL_law_540 rfl ?_
  refine lv_iadd hx hb dL_law_541 ?_
  refine li_topi (nI_add _ _) ?_
  refine li_sld hx hb hX hbl hbA hS (i := 4 * k + 1) (by omega) (by omega) dL_law_542 ?_
  refine lv_aload_n hx hb dL_law_543 rfl (lv_at hl 1 rfl) ?_
  refine lv_iload hx hb dL_law_544 (lv_at hl 0 rfl) ?_
  refine lv_iconst (v := nI 2) hx hb dL_law_546 rfl ?_
  refine lv_iadd hx hb dL_law_547 ?_
  refine li_topi (nI_add _ _) ?_
  refine li_sld hx hb hX hbl hbA hS (i := 4 * k + 2) (by omega) (by omega) dL_law_548 ?_
  refine lv_aload_n hx hb dL_law_549 rfl (lv_at hl 1 rfl) ?_
  refine lv_iload hx hb dL_law_550 (lv_at hl 0 rfl) ?_
  refine lv_iconst (v := nI 3) hx hb dL_law_552 rfl ?_
  refine lv_iadd hx hb dL_law_553 ?_
  refine li_topi (nI_add _ _) ?_
  refine li_sld hx hb hX hbl hbA hS (i := 4 * k + 3) (by omega) (by omega) dL_law_554 ?_
  refine lv_aload_n hx hb dL_law_555 rfl (lv_at hl 4 rfl) ?_
  have hPc : va_P D vwCl (wXo cI cZ cL a n pl nw ns σ κ σ' κ' qo f) H := hP.sub i42 rfl
  refine va_calli (vx_runSW (As := [.ref (a 40), .int (xs (4 * k + 1)), .int (xs (4 * k + 2)), .int (xs (4 * k + 3)), .ref qo]) (rest := []) ⟨hx, hb, hml, hown, hts⟩ (c_L_teach l hlT D cI cZ cL cO a n pl nw ns σ κ σ' κ' H qo f (xs (4 * k + 1)) (xs (4 * k + 2)) (xs (4 * k + 3)) (A_ (al a am qo) 42) (oka41 hO) hO.ao (okDo hO) hB) (vx_cwSW 5 hts gL_law_L_teach rfl rfl rfl (by decide +kernel) ⟨Nat.le_of_ble_eq_true rfl, Nat.le_of_ble_eq_true rfl⟩) ⟨ax_blind, fun U hU hW => ⟨rfl, hU, hPc, va_K.moved hW.alike hK, lwE.warm hW hE, (hTH.warm hW).narrow hA2⟩⟩ rfl rfl hl.1 rfl (lv_room (Nat.le_of_ble_eq_true rfl)) dL_law_556 ⟨by show cells + 1 ≤ 601024; omega, by show slots + 6 ≤ 7293034; omega⟩) hS (fun q _ h => hA2 q h) hA2 (fun r u t9 H1 locs ht9 hal hr9 hB1 hz1 hk1 hS => ?_)
  replace hr9 : r = nI (kTeach nw ns (xs (4 * k + 1)) (xs (4 * k + 2)) (xs (4 * k + 3))) := hr9
  subst hr9
  have hP1 : va_P D vwCl (wXo cI cZ cL a n pl nw ns (sTeach nw ns σ (xs (4 * k + 1)) (xs (4 * k + 2)) (xs (4 * k + 3))) u.1 u.2.1 u.2.2 qo (oK (kTeach nw ns (xs (4 * k + 1)) (xs (4 * k + 2)) (xs (4 * k + 3))) (vTeach nw ns σ (xs (4 * k + 1)) (xs (4 * k + 2)) (xs (4 * k + 3))) f)) H1 := by rw [← ht9]; exact hB1
  replace hP : va_P D vwCl (wL cI cZ cL a am qo n pl nw ns (sTeach nw ns σ (xs (4 * k + 1)) (xs (4 * k + 2)) (xs (4 * k + 3))) u.1 u.2.1 u.2.2 (oK (kTeach nw ns (xs (4 * k + 1)) (xs (4 * k + 2)) (xs (4 * k + 3))) (vTeach nw ns σ (xs (4 * k + 1)) (xs (4 * k + 2)) (xs (4 * k + 3))) f) n nw ns σ th η) H1 := jnH hO hP hP1 hk1
  refine lv_istore (lv' := [(5, .int (nI (kTeach nw ns (xs (4 * k + 1)) (xs (4 * k + 2)) (xs (4 * k + 3))))), (4, .int (nI (4 * k))), (0, .ref b), (1, .ref (a 40)), (2, .ref (am 0)), (3, .ref qo)]) hx hb dL_law_559 hl (by decide) rfl (fun ls hl => ?_)
  refine lv_aload_n hx hb dL_law_561 rfl (lv_at hl 4 rfl) ?_
  refine lv_aload_n hx hb dL_law_562 rfl (lv_at hl 2 rfl) ?_
  refine lv_iload hx hb dL_law_563 (lv_at hl 1 rfl) ?_
  refine lv_iconst (v := nI 1) hx hb dL_law_565 rfl ?_
  refine lv_iadd hx hb dL_law_566 ?_
  refine li_topi (nI_add _ _) ?_
  refine li_sld hx hb hX hbl hbA hS (i := 4 * k + 1) (by omega) (by omega) dL_law_567 ?_
  refine lv_aload_n hx hb dL_law_568 rfl (lv_at hl 2 rfl) ?_
  refine lv_iload hx hb dL_law_569 (lv_at hl 1 rfl) ?_
  refine lv_iconst (v := nI 2) hx hb dL_law_571 rfl ?_
  refine lv_iadd hx hb dL_law_572 ?_
  refine li_topi (nI_add _ _) ?_
  refine li_sld hx hb hX hbl hbA hS (i := 4 * k + 2) (by omega) (by omega) dL_law_573 ?_
  refine lv_aload_n hx hb dL_law_574 rfl (lv_at hl 2 rfl) ?_
  refine lv_iload hx hb dL_law_575 (lv_at hl 1 rfl) ?_
  refine lv_iconst (v := nI 3) hx hb dL_law_577 rfl ?_
  refine lv_iadd hx hb dL_law_578 ?_
  refine li_topi (nI_add _ _) ?_
  refine li_sld hx hb hX hbl hbA hS (i := 4 * k + 3) (by omega) (by omega) dL_law_579 ?_
  have hPm : va_P D vwCl (wM cI cZ am th n nw ns σ η) H1 := hP.sub m13 rfl
  refine miV (As := [.int (xs (4 * k + 1)), .int (xs (4 * k + 2)), .int (xs (4 * k + 3))]) (q0 := 0) (ci := 3) hx hb hml hown hts (c_X3_teach l D cI cZ cL cO am th n nw ns σ η H1 (xs (4 * k + 1)) (xs (4 * k + 2)) (xs (4 * k + 3)) (A_ am 13) (okm13 hO) ⟨hB.1, hB.2.2.1, hB.2.2.2⟩) (cwV 3 hts gL_law_X3_teach rfl rfl rfl (by decide +kernel) ⟨Nat.le_of_ble_eq_true rfl, Nat.le_of_ble_eq_true rfl⟩) hK hE hPm rfl rfl rfl rfl hl.1 rfl (Nat.le_of_ble_eq_true rfl) hS (okmA hO) dL_law_580 ⟨by show cells + 1 ≤ 601024; omega, by show slots + 6 ≤ 7293034; omega⟩ (fun H2 locs hPm2 _ hk2 hS => ?_)
  replace hP : va_P D vwCl (wL cI cZ cL a am qo n pl nw ns (sTeach nw ns σ (xs (4 * k + 1)) (xs (4 * k + 2)) (xs (4 * k + 3))) u.1 u.2.1 u.2.2 (oK (kTeach nw ns (xs (4 * k + 1)) (xs (4 * k + 2)) (xs (4 * k + 3))) (vTeach nw ns σ (xs (4 * k + 1)) (xs (4 * k + 2)) (xs (4 * k + 3))) f) n nw ns (sTeach nw ns σ (xs (4 * k + 1)) (xs (4 * k + 2)) (xs (4 * k + 3))) (nI (kTeach nw ns (xs (4 * k + 1)) (xs (4 * k + 2)) (xs (4 * k + 3)))) η) H2 := jnM hO hP hPm2 hk2
  refine lv_istore (lv' := [(6, .int (vTeach nw ns σ (xs (4 * k + 1)) (xs (4 * k + 2)) (xs (4 * k + 3)))), (5, .int (nI (kTeach nw ns (xs (4 * k + 1)) (xs (4 * k + 2)) (xs (4 * k + 3))))), (4, .int (nI (4 * k))), (0, .ref b), (1, .ref (a 40)), (2, .ref (am 0)), (3, .ref qo)]) hx hb dL_law_583 hl (by decide) rfl (fun ls hl => ?_)
  refine lv_aload_n hx hb dL_law_585 rfl (lv_at hl 5 rfl) ?_
  have hB9 := (INW_teach hI (xs (4 * k + 1)) (xs (4 * k + 2)) (xs (4 * k + 3))).1.1
  refine roV (As := []) (q0 := 0) (ci := 3) hx hb hml hown hts (c_X3_thrown l D cI cZ cL cO am (nI (kTeach nw ns (xs (4 * k + 1)) (xs (4 * k + 2)) (xs (4 * k + 3)))) n nw ns (sTeach nw ns σ (xs (4 * k + 1)) (xs (4 * k + 2)) (xs (4 * k + 3))) η H2 ⟨hB9.1, hB9.2.2.1, hB9.2.2.2⟩) (cwV 0 hts gL_law_X3_thrown rfl rfl rfl (by decide +kernel) ⟨Nat.le_of_ble_eq_true rfl, Nat.le_of_ble_eq_true rfl⟩) hK hE (hP.sub (ws' := wM cI cZ am (nI (kTeach nw ns (xs (4 * k + 1)) (xs (4 * k + 2)) (xs (4 * k + 3)))) n nw ns (sTeach nw ns σ (xs (4 * k + 1)) (xs (4 * k + 2)) (xs (4 * k + 3))) η) m13 rfl) rfl rfl rfl rfl hl.1 rfl (Nat.le_of_ble_eq_true rfl) hS dL_law_586 ⟨by show cells + 1 ≤ 601024; omega, by show slots + 6 ≤ 7293034; omega⟩ (fun locs hS => ?_)
  refine lv_iload hx hb dL_law_589 (lv_at hl 1 rfl) ?_
  refine lv_icmp_eq (tgt := 596) hx hb dL_law_591 (by decide) (fun c1 => ?_) (fun c1 => absurd rfl c1)
  refine lv_iload hx hb dL_law_596 (lv_at hl 1 rfl) ?_
  refine li_ne0 (tgt := 613) hx hb dL_law_598 (by decide) (by have h9 := kTeach_le (nw := nw) (ns := ns) (x := (xs (4 * k + 1))) (y := (xs (4 * k + 2))) (z := (xs (4 * k + 3))); omega) (fun c2 => ?_) (fun c2 => ?_)
  · skip
    refine lv_goto (tgt := 1315) hx hb dL_law_613 (by decide) ?_
    refine w_wide (k := cells + 18) (n := slots + 420) (by omega) (by omega) ?_
    exact kk _ _ _ _ _ _ _ _ _ _ _ _ H2 locs ls (INW_teach hI (xs (4 * k + 1)) (xs (4 * k + 2)) (xs (4 * k + 3))) hLZ (by omega) hP hS (lv_sub hl [2, 3, 4, 5, 6] rfl)
  · skip
    refine lv_aload_n hx hb dL_law_601 rfl (lv_at hl 6 rfl) ?_
    refine lv_iconst (v := nI 0) hx hb dL_law_602 rfl ?_
    refine va_lald hx hb hK hP 41 2 rfl rfl (vp_in_nI (by decide) (by decide)) dL_law_603 ?_
    refine li_topl (show _ = (vTeach nw ns σ (xs (4 * k + 1)) (xs (4 * k + 2)) (xs (4 * k + 3))).toInt64 from by rw [oK_0 c2]; rfl) ?_
    refine lv_iload hx hb dL_law_604 (lv_at hl 0 rfl) ?_
    refine lv_i2l (v := (vTeach nw ns σ (xs (4 * k + 1)) (xs (4 * k + 2)) (xs (4 * k + 3))).toInt64) hx hb dL_law_606 rfl ?_
    refine W.lcmp hx hb dL_law_607 ?_
    refine li_topi (show _ = nI 0 from lg_cmp_rf _) ?_
    refine li_eq0 (tgt := 613) hx hb dL_law_608 (by decide) (by decide) (fun c3 => ?_) (fun c3 => absurd rfl c3)
    refine lv_goto (tgt := 1315) hx hb dL_law_613 (by decide) ?_
    refine w_wide (k := cells + 18) (n := slots + 420) (by omega) (by omega) ?_
    exact kk _ _ _ _ _ _ _ _ _ _ _ _ H2 locs ls (INW_teach hI (xs (4 * k + 1)) (xs (4 * k + 2)) (xs (4 * k + 3))) hLZ (by omega) hP hS (lv_sub hl [2, 3, 4, 5, 6] rfl)
set_option maxHeartbeats 4000000 in
set_option maxRecDepth 100000 in
theorem law_stretch {p : Program} {l : Launch} {e : Env} {s : State} {m : MethodId} {below : List Frame} {meth : Method} {c : Code} {b L : Nat} {xs : Nat → Int32} {D : va_G} {cI cZ cL cO : ClassId} {a am : Nat → Nat} {qo : Nat} (C0 : lw_At p s m meth c b L xs) (hlT : l.stackTraces = false) (hK : va_K D vwCl (T4 cI cZ cL cO) s) (hE : lwE s) (hT0 : lwT (LA s) s s.heap) (hO : okP (LA s) (al a am qo) 55) (hL : L ≤ 2048) {k : Nat} (hk : 4 * k + 4 ≤ L) {n pl nw ns t : Nat} {σ κ σ' κ' η : Sg} {th : Int32} {f : Nat → Int64} (hI : INW n pl nw ns t σ) (hLZ : LZ nw ns η) (ht : t ≤ 200 * k) {H : Heap} {locs : List Loc} {ls : Array Slot} {cells slots : Nat} (hc : cells + 18 ≤ 601024) (hs : slots + 420 ≤ 7293034) (hP : va_P D vwCl (wL cI cZ cL a am qo n pl nw ns σ κ σ' κ' f n nw ns σ th η) H) (hS : va_S (LA s) s.heap H locs) (hl : lv_has ls 9 [(4, .int (nI (4 * k))), (0, .ref b), (1, .ref (a 40)), (2, .ref (am 0)), (3, .ref qo)]) (kk : LK p l e s m b below meth c D cI cZ cL a am qo k t cells slots) : W p l e room_1 s m #[Value.ref b] below meth c H locs cells slots (lw_Z below #[Value.ref b] s) (F0 m 616 ls []) := by
  obtain ⟨hx, hb, hr, hml, hown, hts0, hX, hbl, hlocks, hgv⟩ := C0
  have hown : s.vm.findClass RL = some m.cls := hown
  have hts : ∀ w ∈ wsL_law, w.before #[Value.ref b] s = true := fun w h => hts0 w (wsL_law_in w h)
  have hbA : ¬ LA s b := Nat.not_le.mpr hbl
  have hB := hI.1.1
  have hTH := hT0.kept hS
  have hA2 : ∀ q, A_ (al a am qo) 42 q → LA s q := ak_of (hO.M (by decide))
  refine lv_aload_n hx hb dL_law_616 rfl (lv_at hl 2 rfl) ?_
  refine lv_aload_n hx hb dL_law_617 rfl (lv_at hl 1 rfl) ?_
  refine lv_iload hx hb dL_law_618 (lv_at hl 0 rfl) ?_
  refine lv_iconst (v := nI 1) hx hb dL_law_620 rfl ?_
  refine lv_iadd hx hb dL_law_621 ?_
  refine li_topi (nI_add _ _) ?_
  refine li_sld hx hb hX hbl hbA hS (i := 4 * k + 1) (by omega) (by omega) dL_law_622 ?_
  refine lv_aload_n hx hb dL_law_623 rfl (lv_at hl 1 rfl) ?_
  refine lv_iload hx hb dL_law_624 (lv_at hl 0 rfl) ?_
  refine lv_iconst (v := nI 2) hx hb dL_law_626 rfl ?_
  refine lv_iadd hx hb dL_law_627 ?_
  refine li_topi (nI_add _ _) ?_
  refine li_sld hx hb hX hbl hbA hS (i := 4 * k + 2) (by omega) (by omega) dL_law_628 ?_
  refine lv_aload_n hx hb dL_law_629 rfl (lv_at hl 4 rfl) ?_
  have hPc : va_P D vwCl (wXo cI cZ cL a n pl nw ns σ κ σ' κ' qo f) H := hP.sub i42 rfl
  refine va_calli (vx_runSW (As := [.ref (a 40), .int (xs (4 * k + 1)), .int (xs (4 * k + 2)), .ref qo]) (rest := []) ⟨hx, hb, hml, hown, hts⟩ (c_L_stretch l hlT D cI cZ cL cO a n pl nw ns σ κ σ' κ' H qo f (xs (4 * k + 1)) (xs (4 * k + 2)) (A_ (al a am qo) 42) (oka41 hO) hO.ao (okDo hO) hB) (vx_cwSW 4 hts gL_law_L_stretch rfl rfl rfl (by decide +kernel) ⟨Nat.le_of_ble_eq_true rfl, Nat.le_of_ble_eq_true rfl⟩) ⟨ax_blind, fun U hU hW => ⟨rfl, hU, hPc, va_K.moved hW.alike hK, lwE.warm hW hE, (hTH.warm hW).narrow hA2⟩⟩ rfl rfl hl.1 rfl (lv_room (Nat.le_of_ble_eq_true rfl)) dL_law_630 ⟨by show cells + 1 ≤ 601024; omega, by show slots + 6 ≤ 7293034; omega⟩) hS (fun q _ h => hA2 q h) hA2 (fun r u t9 H1 locs ht9 hal hr9 hB1 hz1 hk1 hS => ?_)
  replace hr9 : r = nI (kTwo n 5 (xs (4 * k + 1)) (xs (4 * k + 2))) := hr9
  subst hr9
  have hP1 : va_P D vwCl (wXo cI cZ cL a n pl nw ns σ u.1 u.2.1 u.2.2 qo (oK (kTwo n 5 (xs (4 * k + 1)) (xs (4 * k + 2))) (ifk (kTwo n 5 (xs (4 * k + 1)) (xs (4 * k + 2))) (stT n nw σ (nN (xs (4 * k + 1))) (nN (xs (4 * k + 2))))) f)) H1 := by rw [← ht9]; exact hB1
  replace hP : va_P D vwCl (wL cI cZ cL a am qo n pl nw ns σ u.1 u.2.1 u.2.2 (oK (kTwo n 5 (xs (4 * k + 1)) (xs (4 * k + 2))) (ifk (kTwo n 5 (xs (4 * k + 1)) (xs (4 * k + 2))) (stT n nw σ (nN (xs (4 * k + 1))) (nN (xs (4 * k + 2))))) f) n nw ns σ th η) H1 := jnH hO hP hP1 hk1
  refine lv_istore (lv' := [(5, .int (nI (kTwo n 5 (xs (4 * k + 1)) (xs (4 * k + 2))))), (4, .int (nI (4 * k))), (0, .ref b), (1, .ref (a 40)), (2, .ref (am 0)), (3, .ref qo)]) hx hb dL_law_633 hl (by decide) rfl (fun ls hl => ?_)
  refine lv_aload_n hx hb dL_law_635 rfl (lv_at hl 4 rfl) ?_
  refine lv_aload_n hx hb dL_law_636 rfl (lv_at hl 2 rfl) ?_
  refine lv_iload hx hb dL_law_637 (lv_at hl 1 rfl) ?_
  refine lv_iconst (v := nI 1) hx hb dL_law_639 rfl ?_
  refine lv_iadd hx hb dL_law_640 ?_
  refine li_topi (nI_add _ _) ?_
  refine li_sld hx hb hX hbl hbA hS (i := 4 * k + 1) (by omega) (by omega) dL_law_641 ?_
  refine lv_aload_n hx hb dL_law_642 rfl (lv_at hl 2 rfl) ?_
  refine lv_iload hx hb dL_law_643 (lv_at hl 1 rfl) ?_
  refine lv_iconst (v := nI 2) hx hb dL_law_645 rfl ?_
  refine lv_iadd hx hb dL_law_646 ?_
  refine li_topi (nI_add _ _) ?_
  refine li_sld hx hb hX hbl hbA hS (i := 4 * k + 2) (by omega) (by omega) dL_law_647 ?_
  have hPm : va_P D vwCl (wM cI cZ am th n nw ns σ η) H1 := hP.sub m13 rfl
  refine miV (As := [.int (xs (4 * k + 1)), .int (xs (4 * k + 2))]) (q0 := 0) (ci := 3) hx hb hml hown hts (c_X3_stretch l D cI cZ cL cO am th n nw ns σ η H1 (xs (4 * k + 1)) (xs (4 * k + 2)) (A_ am 13) (okm13 hO) ⟨hB.1, hB.2.2.1, hB.2.2.2⟩ pl hB.2.1 hI.1.2.2.2.1 hI.1.2.2.2.2.1) (cwV 2 hts gL_law_X3_stretch rfl rfl rfl (by decide +kernel) ⟨Nat.le_of_ble_eq_true rfl, Nat.le_of_ble_eq_true rfl⟩) hK hE hPm rfl rfl rfl rfl hl.1 rfl (Nat.le_of_ble_eq_true rfl) hS (okmA hO) dL_law_648 ⟨by show cells + 1 ≤ 601024; omega, by show slots + 6 ≤ 7293034; omega⟩ (fun H2 locs hPm2 _ hk2 hS => ?_)
  replace hP : va_P D vwCl (wL cI cZ cL a am qo n pl nw ns σ u.1 u.2.1 u.2.2 (oK (kTwo n 5 (xs (4 * k + 1)) (xs (4 * k + 2))) (ifk (kTwo n 5 (xs (4 * k + 1)) (xs (4 * k + 2))) (stT n nw σ (nN (xs (4 * k + 1))) (nN (xs (4 * k + 2))))) f) n nw ns σ (nI (kTwo n 5 (xs (4 * k + 1)) (xs (4 * k + 2)))) η) H2 := jnM hO hP hPm2 hk2
  refine lv_istore (lv' := [(6, .int (ifk (kTwo n 5 (xs (4 * k + 1)) (xs (4 * k + 2))) (stT n nw σ (nN (xs (4 * k + 1))) (nN (xs (4 * k + 2)))))), (5, .int (nI (kTwo n 5 (xs (4 * k + 1)) (xs (4 * k + 2))))), (4, .int (nI (4 * k))), (0, .ref b), (1, .ref (a 40)), (2, .ref (am 0)), (3, .ref qo)]) hx hb dL_law_651 hl (by decide) rfl (fun ls hl => ?_)
  refine lv_aload_n hx hb dL_law_653 rfl (lv_at hl 5 rfl) ?_
  have hB9 := hI.1.1
  refine roV (As := []) (q0 := 0) (ci := 3) hx hb hml hown hts (c_X3_thrown l D cI cZ cL cO am (nI (kTwo n 5 (xs (4 * k + 1)) (xs (4 * k + 2)))) n nw ns σ η H2 ⟨hB9.1, hB9.2.2.1, hB9.2.2.2⟩) (cwV 0 hts gL_law_X3_thrown rfl rfl rfl (by decide +kernel) ⟨Nat.le_of_ble_eq_true rfl, Nat.le_of_ble_eq_true rfl⟩) hK hE (hP.sub (ws' := wM cI cZ am (nI (kTwo n 5 (xs (4 * k + 1)) (xs (4 * k + 2)))) n nw ns σ η) m13 rfl) rfl rfl rfl rfl hl.1 rfl (Nat.le_of_ble_eq_true rfl) hS dL_law_654 ⟨by show cells + 1 ≤ 601024; omega, by show slots + 6 ≤ 7293034; omega⟩ (fun locs hS => ?_)
  refine lv_iload hx hb dL_law_657 (lv_at hl 1 rfl) ?_
  refine lv_icmp_eq (tgt := 664) hx hb dL_law_659 (by decide) (fun c1 => ?_) (fun c1 => absurd rfl c1)
  refine lv_iload hx hb dL_law_664 (lv_at hl 1 rfl) ?_
  refine li_ne0 (tgt := 681) hx hb dL_law_666 (by decide) (by have h9 := kTwo_le (n := n) (hi := 5) (x := (xs (4 * k + 1))) (y := (xs (4 * k + 2))); omega) (fun c2 => ?_) (fun c2 => ?_)
  · skip
    refine lv_goto (tgt := 1315) hx hb dL_law_681 (by decide) ?_
    refine w_wide (k := cells + 18) (n := slots + 420) (by omega) (by omega) ?_
    exact kk _ _ _ _ _ _ _ _ _ _ _ _ H2 locs ls hI hLZ (by omega) hP hS (lv_sub hl [2, 3, 4, 5, 6] rfl)
  · skip
    refine lv_aload_n hx hb dL_law_669 rfl (lv_at hl 6 rfl) ?_
    refine lv_iconst (v := nI 0) hx hb dL_law_670 rfl ?_
    refine va_lald hx hb hK hP 41 2 rfl rfl (vp_in_nI (by decide) (by decide)) dL_law_671 ?_
    refine li_topl (show _ = (ifk (kTwo n 5 (xs (4 * k + 1)) (xs (4 * k + 2))) (stT n nw σ (nN (xs (4 * k + 1))) (nN (xs (4 * k + 2))))).toInt64 from by rw [oK_0 c2]; rfl) ?_
    refine lv_iload hx hb dL_law_672 (lv_at hl 0 rfl) ?_
    refine lv_i2l (v := (ifk (kTwo n 5 (xs (4 * k + 1)) (xs (4 * k + 2))) (stT n nw σ (nN (xs (4 * k + 1))) (nN (xs (4 * k + 2))))).toInt64) hx hb dL_law_674 rfl ?_
    refine W.lcmp hx hb dL_law_675 ?_
    refine li_topi (show _ = nI 0 from lg_cmp_rf _) ?_
    refine li_eq0 (tgt := 681) hx hb dL_law_676 (by decide) (by decide) (fun c3 => ?_) (fun c3 => absurd rfl c3)
    refine lv_goto (tgt := 1315) hx hb dL_law_681 (by decide) ?_
    refine w_wide (k := cells + 18) (n := slots + 420) (by omega) (by omega) ?_
    exact kk _ _ _ _ _ _ _ _ _ _ _ _ H2 locs ls hI hLZ (by omega) hP hS (lv_sub hl [2, 3, 4, 5, 6] rfl)
set_option maxHeartbeats 4000000 in
set_option maxRecDepth 100000 in
theorem law_walker {p : Program} {l : Launch} {e : Env} {s : State} {m : MethodId} {below : List Frame} {meth : Method} {c : Code} {b L : Nat} {xs : Nat → Int32} {D : va_G} {cI cZ cL cO : ClassId} {a am : Nat → Nat} {qo : Nat} (C0 : lw_At p s m meth c b L xs) (hlT : l.stackTraces = false) (hK : va_K D vwCl (T4 cI cZ cL cO) s) (hE : lwE s) (hT0 : lwT (LA s) s s.heap) (hO : okP (LA s) (al a am qo) 55) (hL : L ≤ 2048) {k : Nat} (hk : 4 * k + 4 ≤ L) {n pl nw ns t : Nat} {σ κ σ' κ' η : Sg} {th : Int32} {f : Nat → Int64} (hI : INW n pl nw ns t σ) (hLZ : LZ nw ns η) (ht : t ≤ 200 * k) {H : Heap} {locs : List Loc} {ls : Array Slot} {cells slots : Nat} (hc : cells + 18 ≤ 601024) (hs : slots + 420 ≤ 7293034) (hP : va_P D vwCl (wL cI cZ cL a am qo n pl nw ns σ κ σ' κ' f n nw ns σ th η) H) (hS : va_S (LA s) s.heap H locs) (hl : lv_has ls 9 [(4, .int (nI (4 * k))), (0, .ref b), (1, .ref (a 40)), (2, .ref (am 0)), (3, .ref qo)]) (kk : LK p l e s m b below meth c D cI cZ cL a am qo k t cells slots) : W p l e room_1 s m #[Value.ref b] below meth c H locs cells slots (lw_Z below #[Value.ref b] s) (F0 m 684 ls []) := by
  obtain ⟨hx, hb, hr, hml, hown, hts0, hX, hbl, hlocks, hgv⟩ := C0
  have hown : s.vm.findClass RL = some m.cls := hown
  have hts : ∀ w ∈ wsL_law, w.before #[Value.ref b] s = true := fun w h => hts0 w (wsL_law_in w h)
  have hbA : ¬ LA s b := Nat.not_le.mpr hbl
  have hB := hI.1.1
  have hTH := hT0.kept hS
  have hA2 : ∀ q, A_ (al a am qo) 42 q → LA s q := ak_of (hO.M (by decide))
  refine lv_aload_n hx hb dL_law_684 rfl (lv_at hl 2 rfl) ?_
  refine lv_aload_n hx hb dL_law_685 rfl (lv_at hl 1 rfl) ?_
  refine lv_iload hx hb dL_law_686 (lv_at hl 0 rfl) ?_
  refine lv_iconst (v := nI 1) hx hb dL_law_688 rfl ?_
  refine lv_iadd hx hb dL_law_689 ?_
  refine li_topi (nI_add _ _) ?_
  refine li_sld hx hb hX hbl hbA hS (i := 4 * k + 1) (by omega) (by omega) dL_law_690 ?_
  refine lv_aload_n hx hb dL_law_691 rfl (lv_at hl 1 rfl) ?_
  refine lv_iload hx hb dL_law_692 (lv_at hl 0 rfl) ?_
  refine lv_iconst (v := nI 2) hx hb dL_law_694 rfl ?_
  refine lv_iadd hx hb dL_law_695 ?_
  refine li_topi (nI_add _ _) ?_
  refine li_sld hx hb hX hbl hbA hS (i := 4 * k + 2) (by omega) (by omega) dL_law_696 ?_
  refine lv_aload_n hx hb dL_law_697 rfl (lv_at hl 4 rfl) ?_
  have hPc : va_P D vwCl (wXo cI cZ cL a n pl nw ns σ κ σ' κ' qo f) H := hP.sub i42 rfl
  refine va_calli (vx_runSW (As := [.ref (a 40), .int (xs (4 * k + 1)), .int (xs (4 * k + 2)), .ref qo]) (rest := []) ⟨hx, hb, hml, hown, hts⟩ (c_L_walker l hlT D cI cZ cL cO a n pl nw ns σ κ σ' κ' H qo f (xs (4 * k + 1)) (xs (4 * k + 2)) (A_ (al a am qo) 42) (oka41 hO) hO.ao (okDo hO) hB hI.1.2.1.1) (vx_cwSW 4 hts gL_law_L_walker rfl rfl rfl (by decide +kernel) ⟨Nat.le_of_ble_eq_true rfl, Nat.le_of_ble_eq_true rfl⟩) ⟨ax_blind, fun U hU hW => ⟨rfl, hU, hPc, va_K.moved hW.alike hK, lwE.warm hW hE, (hTH.warm hW).narrow hA2⟩⟩ rfl rfl hl.1 rfl (lv_room (Nat.le_of_ble_eq_true rfl)) dL_law_698 ⟨by show cells + 1 ≤ 601024; omega, by show slots + 6 ≤ 7293034; omega⟩) hS (fun q _ h => hA2 q h) hA2 (fun r u t9 H1 locs ht9 hal hr9 hB1 hz1 hk1 hS => ?_)
  replace hr9 : r = nI (kTwo nw 8 (xs (4 * k + 1)) (xs (4 * k + 2))) := hr9
  subst hr9
  have hP1 : va_P D vwCl (wXo cI cZ cL a n pl nw ns σ u.1 u.2.1 u.2.2 qo (oK (kTwo nw 8 (xs (4 * k + 1)) (xs (4 * k + 2))) (ifk (kTwo nw 8 (xs (4 * k + 1)) (xs (4 * k + 2))) (waT nw σ (nN (xs (4 * k + 1))) (nN (xs (4 * k + 2))))) f)) H1 := by rw [← ht9]; exact hB1
  replace hP : va_P D vwCl (wL cI cZ cL a am qo n pl nw ns σ u.1 u.2.1 u.2.2 (oK (kTwo nw 8 (xs (4 * k + 1)) (xs (4 * k + 2))) (ifk (kTwo nw 8 (xs (4 * k + 1)) (xs (4 * k + 2))) (waT nw σ (nN (xs (4 * k + 1))) (nN (xs (4 * k + 2))))) f) n nw ns σ th η) H1 := jnH hO hP hP1 hk1
  refine lv_istore (lv' := [(5, .int (nI (kTwo nw 8 (xs (4 * k + 1)) (xs (4 * k + 2))))), (4, .int (nI (4 * k))), (0, .ref b), (1, .ref (a 40)), (2, .ref (am 0)), (3, .ref qo)]) hx hb dL_law_701 hl (by decide) rfl (fun ls hl => ?_)
  refine lv_aload_n hx hb dL_law_703 rfl (lv_at hl 4 rfl) ?_
  refine lv_aload_n hx hb dL_law_704 rfl (lv_at hl 2 rfl) ?_
  refine lv_iload hx hb dL_law_705 (lv_at hl 1 rfl) ?_
  refine lv_iconst (v := nI 1) hx hb dL_law_707 rfl ?_
  refine lv_iadd hx hb dL_law_708 ?_
  refine li_topi (nI_add _ _) ?_
  refine li_sld hx hb hX hbl hbA hS (i := 4 * k + 1) (by omega) (by omega) dL_law_709 ?_
  refine lv_aload_n hx hb dL_law_710 rfl (lv_at hl 2 rfl) ?_
  refine lv_iload hx hb dL_law_711 (lv_at hl 1 rfl) ?_
  refine lv_iconst (v := nI 2) hx hb dL_law_713 rfl ?_
  refine lv_iadd hx hb dL_law_714 ?_
  refine li_topi (nI_add _ _) ?_
  refine li_sld hx hb hX hbl hbA hS (i := 4 * k + 2) (by omega) (by omega) dL_law_715 ?_
  have hPm : va_P D vwCl (wM cI cZ am th n nw ns σ η) H1 := hP.sub m13 rfl
  refine miV (As := [.int (xs (4 * k + 1)), .int (xs (4 * k + 2))]) (q0 := 0) (ci := 3) hx hb hml hown hts (c_X3_walker l D cI cZ cL cO am th n nw ns σ η H1 (xs (4 * k + 1)) (xs (4 * k + 2)) (A_ am 13) (okm13 hO) ⟨hB.1, hB.2.2.1, hB.2.2.2⟩) (cwV 2 hts gL_law_X3_walker rfl rfl rfl (by decide +kernel) ⟨Nat.le_of_ble_eq_true rfl, Nat.le_of_ble_eq_true rfl⟩) hK hE hPm rfl rfl rfl rfl hl.1 rfl (Nat.le_of_ble_eq_true rfl) hS (okmA hO) dL_law_716 ⟨by show cells + 1 ≤ 601024; omega, by show slots + 6 ≤ 7293034; omega⟩ (fun H2 locs hPm2 _ hk2 hS => ?_)
  replace hP : va_P D vwCl (wL cI cZ cL a am qo n pl nw ns σ u.1 u.2.1 u.2.2 (oK (kTwo nw 8 (xs (4 * k + 1)) (xs (4 * k + 2))) (ifk (kTwo nw 8 (xs (4 * k + 1)) (xs (4 * k + 2))) (waT nw σ (nN (xs (4 * k + 1))) (nN (xs (4 * k + 2))))) f) n nw ns σ (nI (kTwo nw 8 (xs (4 * k + 1)) (xs (4 * k + 2)))) η) H2 := jnM hO hP hPm2 hk2
  refine lv_istore (lv' := [(6, .int (ifk (kTwo nw 8 (xs (4 * k + 1)) (xs (4 * k + 2))) (waT nw σ (nN (xs (4 * k + 1))) (nN (xs (4 * k + 2)))))), (5, .int (nI (kTwo nw 8 (xs (4 * k + 1)) (xs (4 * k + 2))))), (4, .int (nI (4 * k))), (0, .ref b), (1, .ref (a 40)), (2, .ref (am 0)), (3, .ref qo)]) hx hb dL_law_719 hl (by decide) rfl (fun ls hl => ?_)
  refine lv_aload_n hx hb dL_law_721 rfl (lv_at hl 5 rfl) ?_
  have hB9 := hI.1.1
  refine roV (As := []) (q0 := 0) (ci := 3) hx hb hml hown hts (c_X3_thrown l D cI cZ cL cO am (nI (kTwo nw 8 (xs (4 * k + 1)) (xs (4 * k + 2)))) n nw ns σ η H2 ⟨hB9.1, hB9.2.2.1, hB9.2.2.2⟩) (cwV 0 hts gL_law_X3_thrown rfl rfl rfl (by decide +kernel) ⟨Nat.le_of_ble_eq_true rfl, Nat.le_of_ble_eq_true rfl⟩) hK hE (hP.sub (ws' := wM cI cZ am (nI (kTwo nw 8 (xs (4 * k + 1)) (xs (4 * k + 2)))) n nw ns σ η) m13 rfl) rfl rfl rfl rfl hl.1 rfl (Nat.le_of_ble_eq_true rfl) hS dL_law_722 ⟨by show cells + 1 ≤ 601024; omega, by show slots + 6 ≤ 7293034; omega⟩ (fun locs hS => ?_)
  refine lv_iload hx hb dL_law_725 (lv_at hl 1 rfl) ?_
  refine lv_icmp_eq (tgt := 732) hx hb dL_law_727 (by decide) (fun c1 => ?_) (fun c1 => absurd rfl c1)
  refine lv_iload hx hb dL_law_732 (lv_at hl 1 rfl) ?_
  refine li_ne0 (tgt := 749) hx hb dL_law_734 (by decide) (by have h9 := kTwo_le (n := nw) (hi := 8) (x := (xs (4 * k + 1))) (y := (xs (4 * k + 2))); omega) (fun c2 => ?_) (fun c2 => ?_)
  · skip
    refine lv_goto (tgt := 1315) hx hb dL_law_749 (by decide) ?_
    refine w_wide (k := cells + 18) (n := slots + 420) (by omega) (by omega) ?_
    exact kk _ _ _ _ _ _ _ _ _ _ _ _ H2 locs ls hI hLZ (by omega) hP hS (lv_sub hl [2, 3, 4, 5, 6] rfl)
  · skip
    refine lv_aload_n hx hb dL_law_737 rfl (lv_at hl 6 rfl) ?_
    refine lv_iconst (v := nI 0) hx hb dL_law_738 rfl ?_
    refine va_lald hx hb hK hP 41 2 rfl rfl (vp_in_nI (by decide) (by decide)) dL_law_739 ?_
    refine li_topl (show _ = (ifk (kTwo nw 8 (xs (4 * k + 1)) (xs (4 * k + 2))) (waT nw σ (nN (xs (4 * k + 1))) (nN (xs (4 * k + 2))))).toInt64 from by rw [oK_0 c2]; rfl) ?_
    refine lv_iload hx hb dL_law_740 (lv_at hl 0 rfl) ?_
    refine lv_i2l (v := (ifk (kTwo nw 8 (xs (4 * k + 1)) (xs (4 * k + 2))) (waT nw σ (nN (xs (4 * k + 1))) (nN (xs (4 * k + 2))))).toInt64) hx hb dL_law_742 rfl ?_
    refine W.lcmp hx hb dL_law_743 ?_
    refine li_topi (show _ = nI 0 from lg_cmp_rf _) ?_
    refine li_eq0 (tgt := 749) hx hb dL_law_744 (by decide) (by decide) (fun c3 => ?_) (fun c3 => absurd rfl c3)
    refine lv_goto (tgt := 1315) hx hb dL_law_749 (by decide) ?_
    refine w_wide (k := cells + 18) (n := slots + 420) (by omega) (by omega) ?_
    exact kk _ _ _ _ _ _ _ _ _ _ _ _ H2 locs ls hI hLZ (by omega) hP hS (lv_sub hl [2, 3, 4, 5, 6] rfl)
set_option maxHeartbeats 4000000 in
set_option maxRecDepth 100000 in
theorem law_knows {p : Program} {l : Launch} {e : Env} {s : State} {m : MethodId} {below : List Frame} {meth : Method} {c : Code} {b L : Nat} {xs : Nat → Int32} {D : va_G} {cI cZ cL cO : ClassId} {a am : Nat → Nat} {qo : Nat} (C0 : lw_At p s m meth c b L xs) (hlT : l.stackTraces = false) (hK : va_K D vwCl (T4 cI cZ cL cO) s) (hE : lwE s) (hT0 : lwT (LA s) s s.heap) (hO : okP (LA s) (al a am qo) 55) (hL : L ≤ 2048) {k : Nat} (hk : 4 * k + 4 ≤ L) {n pl nw ns t : Nat} {σ κ σ' κ' η : Sg} {th : Int32} {f : Nat → Int64} (hI : INW n pl nw ns t σ) (hLZ : LZ nw ns η) (ht : t ≤ 200 * k) {H : Heap} {locs : List Loc} {ls : Array Slot} {cells slots : Nat} (hc : cells + 18 ≤ 601024) (hs : slots + 420 ≤ 7293034) (hP : va_P D vwCl (wL cI cZ cL a am qo n pl nw ns σ κ σ' κ' f n nw ns σ th η) H) (hS : va_S (LA s) s.heap H locs) (hl : lv_has ls 9 [(4, .int (nI (4 * k))), (0, .ref b), (1, .ref (a 40)), (2, .ref (am 0)), (3, .ref qo)]) (kk : LK p l e s m b below meth c D cI cZ cL a am qo k t cells slots) : W p l e room_1 s m #[Value.ref b] below meth c H locs cells slots (lw_Z below #[Value.ref b] s) (F0 m 752 ls []) := by
  obtain ⟨hx, hb, hr, hml, hown, hts0, hX, hbl, hlocks, hgv⟩ := C0
  have hown : s.vm.findClass RL = some m.cls := hown
  have hts : ∀ w ∈ wsL_law, w.before #[Value.ref b] s = true := fun w h => hts0 w (wsL_law_in w h)
  have hbA : ¬ LA s b := Nat.not_le.mpr hbl
  have hB := hI.1.1
  have hTH := hT0.kept hS
  have hA2 : ∀ q, A_ (al a am qo) 42 q → LA s q := ak_of (hO.M (by decide))
  refine lv_aload_n hx hb dL_law_752 rfl (lv_at hl 2 rfl) ?_
  refine lv_aload_n hx hb dL_law_753 rfl (lv_at hl 1 rfl) ?_
  refine lv_iload hx hb dL_law_754 (lv_at hl 0 rfl) ?_
  refine lv_iconst (v := nI 1) hx hb dL_law_756 rfl ?_
  refine lv_iadd hx hb dL_law_757 ?_
  refine li_topi (nI_add _ _) ?_
  refine li_sld hx hb hX hbl hbA hS (i := 4 * k + 1) (by omega) (by omega) dL_law_758 ?_
  refine lv_aload_n hx hb dL_law_759 rfl (lv_at hl 1 rfl) ?_
  refine lv_iload hx hb dL_law_760 (lv_at hl 0 rfl) ?_
  refine lv_iconst (v := nI 2) hx hb dL_law_762 rfl ?_
  refine lv_iadd hx hb dL_law_763 ?_
  refine li_topi (nI_add _ _) ?_
  refine li_sld hx hb hX hbl hbA hS (i := 4 * k + 2) (by omega) (by omega) dL_law_764 ?_
  refine lv_aload_n hx hb dL_law_765 rfl (lv_at hl 4 rfl) ?_
  have hPc : va_P D vwCl (wXo cI cZ cL a n pl nw ns σ κ σ' κ' qo f) H := hP.sub i42 rfl
  refine va_calli (vx_runSW (As := [.ref (a 40), .int (xs (4 * k + 1)), .int (xs (4 * k + 2)), .ref qo]) (rest := []) ⟨hx, hb, hml, hown, hts⟩ (c_L_knows l hlT D cI cZ cL cO a n pl nw ns σ κ σ' κ' H qo f (xs (4 * k + 1)) (xs (4 * k + 2)) (A_ (al a am qo) 42) (oka41 hO) hO.ao (okDo hO) hB) (vx_cwSW 4 hts gL_law_L_knows rfl rfl rfl (by decide +kernel) ⟨Nat.le_of_ble_eq_true rfl, Nat.le_of_ble_eq_true rfl⟩) ⟨ax_blind, fun U hU hW => ⟨rfl, hU, hPc, va_K.moved hW.alike hK, lwE.warm hW hE, (hTH.warm hW).narrow hA2⟩⟩ rfl rfl hl.1 rfl (lv_room (Nat.le_of_ble_eq_true rfl)) dL_law_766 ⟨by show cells + 1 ≤ 601024; omega, by show slots + 6 ≤ 7293034; omega⟩) hS (fun q _ h => hA2 q h) hA2 (fun r u t9 H1 locs ht9 hal hr9 hB1 hz1 hk1 hS => ?_)
  replace hr9 : r = nI (kKnow nw ns (xs (4 * k + 1)) (xs (4 * k + 2))) := hr9
  subst hr9
  have hP1 : va_P D vwCl (wXo cI cZ cL a n pl nw ns σ u.1 u.2.1 u.2.2 qo (oK (kKnow nw ns (xs (4 * k + 1)) (xs (4 * k + 2))) (vKnow nw ns σ (xs (4 * k + 1)) (xs (4 * k + 2))) f)) H1 := by rw [← ht9]; exact hB1
  replace hP : va_P D vwCl (wL cI cZ cL a am qo n pl nw ns σ u.1 u.2.1 u.2.2 (oK (kKnow nw ns (xs (4 * k + 1)) (xs (4 * k + 2))) (vKnow nw ns σ (xs (4 * k + 1)) (xs (4 * k + 2))) f) n nw ns σ th η) H1 := jnH hO hP hP1 hk1
  refine lv_istore (lv' := [(5, .int (nI (kKnow nw ns (xs (4 * k + 1)) (xs (4 * k + 2))))), (4, .int (nI (4 * k))), (0, .ref b), (1, .ref (a 40)), (2, .ref (am 0)), (3, .ref qo)]) hx hb dL_law_769 hl (by decide) rfl (fun ls hl => ?_)
  refine lv_aload_n hx hb dL_law_771 rfl (lv_at hl 4 rfl) ?_
  refine lv_aload_n hx hb dL_law_772 rfl (lv_at hl 2 rfl) ?_
  refine lv_iload hx hb dL_law_773 (lv_at hl 1 rfl) ?_
  refine lv_iconst (v := nI 1) hx hb dL_law_775 rfl ?_
  refine lv_iadd hx hb dL_law_776 ?_
  refine li_topi (nI_add _ _) ?_
  refine li_sld hx hb hX hbl hbA hS (i := 4 * k + 1) (by omega) (by omega) dL_law_777 ?_
  refine lv_aload_n hx hb dL_law_778 rfl (lv_at hl 2 rfl) ?_
  refine lv_iload hx hb dL_law_779 (lv_at hl 1 rfl) ?_
  refine lv_iconst (v := nI 2) hx hb dL_law_781 rfl ?_
  refine lv_iadd hx hb dL_law_782 ?_
  refine li_topi (nI_add _ _) ?_
  refine li_sld hx hb hX hbl hbA hS (i := 4 * k + 2) (by omega) (by omega) dL_law_783 ?_
  have hPm : va_P D vwCl (wM cI cZ am th n nw ns σ η) H1 := hP.sub m13 rfl
  refine miV (As := [.int (xs (4 * k + 1)), .int (xs (4 * k + 2))]) (q0 := 0) (ci := 3) hx hb hml hown hts (c_X3_knows l D cI cZ cL cO am th n nw ns σ η H1 (xs (4 * k + 1)) (xs (4 * k + 2)) (A_ am 13) (okm13 hO) ⟨hB.1, hB.2.2.1, hB.2.2.2⟩) (cwV 2 hts gL_law_X3_knows rfl rfl rfl (by decide +kernel) ⟨Nat.le_of_ble_eq_true rfl, Nat.le_of_ble_eq_true rfl⟩) hK hE hPm rfl rfl rfl rfl hl.1 rfl (Nat.le_of_ble_eq_true rfl) hS (okmA hO) dL_law_784 ⟨by show cells + 1 ≤ 601024; omega, by show slots + 6 ≤ 7293034; omega⟩ (fun H2 locs hPm2 _ hk2 hS => ?_)
  replace hP : va_P D vwCl (wL cI cZ cL a am qo n pl nw ns σ u.1 u.2.1 u.2.2 (oK (kKnow nw ns (xs (4 * k + 1)) (xs (4 * k + 2))) (vKnow nw ns σ (xs (4 * k + 1)) (xs (4 * k + 2))) f) n nw ns σ (nI (kKnow nw ns (xs (4 * k + 1)) (xs (4 * k + 2)))) η) H2 := jnM hO hP hPm2 hk2
  refine lv_istore (lv' := [(6, .int (vKnow nw ns σ (xs (4 * k + 1)) (xs (4 * k + 2)))), (5, .int (nI (kKnow nw ns (xs (4 * k + 1)) (xs (4 * k + 2))))), (4, .int (nI (4 * k))), (0, .ref b), (1, .ref (a 40)), (2, .ref (am 0)), (3, .ref qo)]) hx hb dL_law_787 hl (by decide) rfl (fun ls hl => ?_)
  refine lv_aload_n hx hb dL_law_789 rfl (lv_at hl 5 rfl) ?_
  have hB9 := hI.1.1
  refine roV (As := []) (q0 := 0) (ci := 3) hx hb hml hown hts (c_X3_thrown l D cI cZ cL cO am (nI (kKnow nw ns (xs (4 * k + 1)) (xs (4 * k + 2)))) n nw ns σ η H2 ⟨hB9.1, hB9.2.2.1, hB9.2.2.2⟩) (cwV 0 hts gL_law_X3_thrown rfl rfl rfl (by decide +kernel) ⟨Nat.le_of_ble_eq_true rfl, Nat.le_of_ble_eq_true rfl⟩) hK hE (hP.sub (ws' := wM cI cZ am (nI (kKnow nw ns (xs (4 * k + 1)) (xs (4 * k + 2)))) n nw ns σ η) m13 rfl) rfl rfl rfl rfl hl.1 rfl (Nat.le_of_ble_eq_true rfl) hS dL_law_790 ⟨by show cells + 1 ≤ 601024; omega, by show slots + 6 ≤ 7293034; omega⟩ (fun locs hS => ?_)
  refine lv_iload hx hb dL_law_793 (lv_at hl 1 rfl) ?_
  refine lv_icmp_eq (tgt := 800) hx hb dL_law_795 (by decide) (fun c1 => ?_) (fun c1 => absurd rfl c1)
  refine lv_iload hx hb dL_law_800 (lv_at hl 1 rfl) ?_
  refine li_ne0 (tgt := 817) hx hb dL_law_802 (by decide) (by have h9 := kKnow_le (nw := nw) (ns := ns) (x := (xs (4 * k + 1))) (y := (xs (4 * k + 2))); omega) (fun c2 => ?_) (fun c2 => ?_)
  · skip
    refine lv_goto (tgt := 1315) hx hb dL_law_817 (by decide) ?_
    refine w_wide (k := cells + 18) (n := slots + 420) (by omega) (by omega) ?_
    exact kk _ _ _ _ _ _ _ _ _ _ _ _ H2 locs ls hI hLZ (by omega) hP hS (lv_sub hl [2, 3, 4, 5, 6] rfl)
  · skip
    refine lv_aload_n hx hb dL_law_805 rfl (lv_at hl 6 rfl) ?_
    refine lv_iconst (v := nI 0) hx hb dL_law_806 rfl ?_
    refine va_lald hx hb hK hP 41 2 rfl rfl (vp_in_nI (by decide) (by decide)) dL_law_807 ?_
    refine li_topl (show _ = (vKnow nw ns σ (xs (4 * k + 1)) (xs (4 * k + 2))).toInt64 from by rw [oK_0 c2]; rfl) ?_
    refine lv_iload hx hb dL_law_808 (lv_at hl 0 rfl) ?_
    refine lv_i2l (v := (vKnow nw ns σ (xs (4 * k + 1)) (xs (4 * k + 2))).toInt64) hx hb dL_law_810 rfl ?_
    refine W.lcmp hx hb dL_law_811 ?_
    refine li_topi (show _ = nI 0 from lg_cmp_rf _) ?_
    refine li_eq0 (tgt := 817) hx hb dL_law_812 (by decide) (by decide) (fun c3 => ?_) (fun c3 => absurd rfl c3)
    refine lv_goto (tgt := 1315) hx hb dL_law_817 (by decide) ?_
    refine w_wide (k := cells + 18) (n := slots + 420) (by omega) (by omega) ?_
    exact kk _ _ _ _ _ _ _ _ _ _ _ _ H2 locs ls hI hLZ (by omega) hP hS (lv_sub hl [2, 3, 4, 5, 6] rfl)
