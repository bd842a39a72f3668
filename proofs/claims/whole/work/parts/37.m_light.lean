/-! the model: light and digest -/
set_option maxHeartbeats 4000000 in
set_option maxRecDepth 100000 in
theorem c_X3_light (l : Launch) (D : va_G) (cI cZ cL cO : ClassId) (a : Nat → Nat) (th : Int32) (n nw ns : Nat) (σ η : Sg) (H : Heap) (A : Nat → Prop) (hA : okP A a 13) (hB : n ≤ 10 ∧ nw ≤ 20 ∧ ns ≤ 6) (hz : bz σ) : Met l yX3_light wsX3_light ({ frames := 3, cells := 0, slots := 0, locals := 65 } : Room) (ro_P D (T4 cI cZ cL cO) (wM cI cZ a th n nw ns σ η) H [.ref (a 0)]) (md_Q D (liV nw σ) (wM cI cZ a (nI 0) n nw ns σ η) A) 0 0 A := by
  refine mdz_of (cc := cX3_light) (maxL := 1) (by decide) rfl (Nat.le_of_ble_eq_true rfl) ?_
  intro p e s m args below meth c Q ls locs hx hb hml hown hts hK hE hP hl hS hEnd
  have hl : lv_has ls 1 [(0, .ref (a 0))] := hl
  have hX3 : ∀ w ∈ wsX30, w.before args s = true := fun w h => hts w (List.mem_cons_of_mem _ (List.mem_append_right _ (h)))
  have f47 : (Cond.fieldLink RX3 47 "LanternWalkModel" "thrown" "I").before args s = true := hts _ (List.mem_of_getElem? (i := 1) rfl)
  refine lv_aload_n hx hb dX3_light_0 rfl (lv_at hl 0 rfl) ?_
  refine lv_iconst (v := nI 0) hx hb dX3_light_1 rfl ?_
  refine li_pf3 hx hb hX3 hown hK hP hA.DM hS 0 rfl 0 (by decide) f47 rfl rfl rfl (Nat.le_of_ble_eq_true rfl) stM_th dX3_light_2 (fun G locs hP hS => ?_)
  refine lv_aload_n hx hb dX3_light_5 rfl (lv_at hl 0 rfl) ?_
  refine lv_iconst (v := nI 1) hx hb dX3_light_6 rfl ?_
  refine roV (As := [.int (nI 1)]) (q0 := 0) (ci := 3) hx hb hml hown hts (c_X3_inState l D cI cZ cL cO a (nI 0) n nw ns σ η G (nI 1) (hB)) (cwV 1 hts gX3_light_X3_inState rfl rfl rfl (by decide +kernel) ⟨by decide, by decide⟩) hK hE hP rfl rfl rfl rfl hl.1 rfl (Nat.le_of_ble_eq_true rfl) hS dX3_light_7 ⟨Nat.zero_le _, Nat.zero_le _⟩ (fun locs hS => ?_)
  refine li_ne0 (tgt := 17) hx hb dX3_light_10 (by decide) (by first | omega | (have := hm_le (σ := σ) (nw := nw) (x := nI 1); omega)) (fun c1 => ?_) (fun c1 => ?_)
  · skip
    refine lv_aload_n hx hb dX3_light_17 rfl (lv_at hl 0 rfl) ?_
    refine roV (As := []) (q0 := 0) (ci := 3) hx hb hml hown hts (c_X3_burning l D cI cZ cL cO a (nI 0) n nw ns σ η G (hB) (hz)) (cwV 0 hts gX3_light_X3_burning rfl rfl rfl (by decide +kernel) ⟨by decide, by decide⟩) hK hE hP rfl rfl rfl rfl hl.1 rfl (Nat.le_of_ble_eq_true rfl) hS dX3_light_18 ⟨Nat.zero_le _, Nat.zero_le _⟩ (fun locs hS => ?_)
    refine lv_i2d hx hb dX3_light_21 ?_
    refine lv_aload_n hx hb dX3_light_22 rfl (lv_at hl 0 rfl) ?_
    refine lv_iconst (v := nI 1) hx hb dX3_light_23 rfl ?_
    refine roV (As := [.int (nI 1)]) (q0 := 0) (ci := 3) hx hb hml hown hts (c_X3_inState l D cI cZ cL cO a (nI 0) n nw ns σ η G (nI 1) (hB)) (cwV 1 hts gX3_light_X3_inState rfl rfl rfl (by decide +kernel) ⟨by decide, by decide⟩) hK hE hP rfl rfl rfl rfl hl.1 rfl (Nat.le_of_ble_eq_true rfl) hS dX3_light_24 ⟨Nat.zero_le _, Nat.zero_le _⟩ (fun locs hS => ?_)
    refine lv_i2d hx hb dX3_light_27 ?_
    refine lv_ddiv hx hb dX3_light_28 (nd_li hB.2.1 (by omega)) ?_
    refine li_topd (show FP.ddiv (FP.i2d (nI (lb σ nw))) (FP.i2d (nI (hm σ nw (nI 1)))) = liV nw σ from by unfold liV; first | rw [if_pos (by omega)] | rw [if_neg (by omega)]) ?_
    exact hEnd 29 ls G locs dX3_light_29 hP hS
  · skip
    refine lv_dconst0 hx hb dX3_light_13 ?_
    refine lv_goto (tgt := 29) hx hb dX3_light_14 (by decide) ?_
    refine li_topd (show FP.dconst0 = liV nw σ from by unfold liV; first | rw [if_pos (by omega)] | rw [if_neg (by omega)]) ?_
    exact hEnd 29 ls G locs dX3_light_29 hP hS
set_option maxHeartbeats 4000000 in
set_option maxRecDepth 100000 in
theorem c_X3_digest (l : Launch) (D : va_G) (cI cZ cL cO : ClassId) (a : Nat → Nat) (th : Int32) (n nw ns : Nat) (σ η : Sg) (H : Heap) (A : Nat → Prop) (hA : okP A a 13) (hB : n ≤ 10 ∧ nw ≤ 20 ∧ ns ≤ 6) (pl : Nat) (hpl : pl ≤ 200) (hz : bz σ) (hRF : RF n pl σ) (hPB : PB pl nw σ) : Met l yX3_digest wsX3_digest ({ frames := 5, cells := 0, slots := 0, locals := 110 } : Room) (ro_P D (T4 cI cZ cL cO) (wM cI cZ a th n nw ns σ η) H [.ref (a 0)]) (ml_Q D (diV n pl nw ns σ) (wM cI cZ a (nI 0) n nw ns σ η) A) 0 0 A := by
  refine mlz_of (cc := cX3_digest) (maxL := 5) (by decide) rfl (Nat.le_of_ble_eq_true rfl) ?_
  intro p e s m args below meth c Q ls locs hx hb hml hown hts hK hE hP hl hS hEnd
  have hl : lv_has ls 5 [(0, .ref (a 0))] := hl
  have hX3 : ∀ w ∈ wsX30, w.before args s = true := fun w h => hts w (List.mem_cons_of_mem _ (List.mem_append_right _ (h)))
  have f47 : (Cond.fieldLink RX3 47 "LanternWalkModel" "thrown" "I").before args s = true := hts _ (List.mem_of_getElem? (i := 1) rfl)
  have g1 : (Cond.constantLong RX3 186 (659)).before args s = true := hts _ (List.mem_of_getElem? (i := 2) rfl)
  have f51 : (Cond.fieldLink RX3 51 "LanternWalkModel" "stretches" "I").before args s = true := hts _ (List.mem_of_getElem? (i := 5) rfl)
  have f58 : (Cond.fieldLink RX3 58 "LanternWalkModel" "walkers" "I").before args s = true := hts _ (List.mem_of_getElem? (i := 6) rfl)
  have f61 : (Cond.fieldLink RX3 61 "LanternWalkModel" "songs" "I").before args s = true := hts _ (List.mem_of_getElem? (i := 7) rfl)
  have g5 : (Cond.constantLong RX3 188 (31)).before args s = true := hts _ (List.mem_of_getElem? (i := 3) rfl)
  have f22 : (Cond.fieldLink RX3 22 "LanternWalkModel" "lengths" "[I").before args s = true := hts _ (List.mem_of_getElem? (i := 9) rfl)
  have f25 : (Cond.fieldLink RX3 25 "LanternWalkModel" "known" "[I").before args s = true := hts _ (List.mem_of_getElem? (i := 8) rfl)
  have f16 : (Cond.fieldLink RX3 16 "LanternWalkModel" "wind" "[I").before args s = true := hts _ (List.mem_of_getElem? (i := 4) rfl)
  refine lv_aload_n hx hb dX3_digest_0 rfl (lv_at hl 0 rfl) ?_
  refine lv_iconst (v := nI 0) hx hb dX3_digest_1 rfl ?_
  refine li_pf3 hx hb hX3 hown hK hP hA.DM hS 0 rfl 0 (by decide) f47 rfl rfl rfl (Nat.le_of_ble_eq_true rfl) stM_th dX3_digest_2 (fun G locs hP hS => ?_)
  refine lv_ldc2 hx hb hown g1 dX3_digest_5 ?_
  refine lv_lstore_n (lv' := [(1, .long 659), (0, .ref (a 0))]) hx hb dX3_digest_8 rfl hl (by decide) rfl (fun ls hl => ?_)
  refine lv_iconst (v := nI 0) hx hb dX3_digest_9 rfl ?_
  refine lv_istore_n (lv' := [(3, .int (nI 0)), (1, .long 659), (0, .ref (a 0))]) hx hb dX3_digest_10 rfl hl (by decide) rfl (fun ls hl => ?_)
  have L11_1 : ∀ (fuel : Nat) (k : Nat), (11 - k) < fuel → (k ≤ 11) → ∀ (G : Heap) (locs : List Loc), va_P D vwCl (wM cI cZ a (nI 0) n nw ns σ η) G → va_S A H G locs → ∀ (ls : Array Slot), lv_has ls 5 [(3, .int (nI k)), (1, .long (dgN (alT n pl nw ns σ) 659 k)), (0, .ref (a 0))] → W p l e ({ frames := 5, cells := 0, slots := 0, locals := 110 } : Room) s m args below meth c G locs 0 0 Q (F0 m 11 ls []) := by
    intro fuel
    induction fuel with
    | zero =>
      intro k hfuel
      exact absurd hfuel (Nat.not_lt_zero _)
    | succ fuel ih11 =>
      intro k hfuel11 hk G locs hP hS ls hl
      refine lv_iload_n hx hb dX3_digest_11 rfl (lv_at hl 0 rfl) ?_
      refine lv_bipush (v := nI 11) hx hb dX3_digest_12 rfl ?_
      refine li_ge (tgt := 36) hx hb dX3_digest_14 (by decide) (by omega) (by omega) (fun c2 => ?_) (fun c2 => ?_)
      · skip
        refine lv_iconst (v := nI 0) hx hb dX3_digest_36 rfl ?_
        refine lv_istore_n (lv' := [(3, .int (nI 0)), (1, .long (dgN (alT n pl nw ns σ) 659 k)), (0, .ref (a 0))]) hx hb dX3_digest_37 rfl hl (by decide) rfl (fun ls hl => ?_)
        have L38_3 : ∀ (fuel : Nat) (k : Nat), (10 - k) < fuel → (k ≤ 10) → ∀ (G : Heap) (locs : List Loc), va_P D vwCl (wM cI cZ a (nI 0) n nw ns σ η) G → va_S A H G locs → ∀ (ls : Array Slot), lv_has ls 5 [(3, .int (nI k)), (1, .long (dgN (σ 3) (dgN (alT n pl nw ns σ) 659 11) k)), (0, .ref (a 0))] → W p l e ({ frames := 5, cells := 0, slots := 0, locals := 110 } : Room) s m args below meth c G locs 0 0 Q (F0 m 38 ls []) := by
          intro fuel
          induction fuel with
          | zero =>
            intro k hfuel
            exact absurd hfuel (Nat.not_lt_zero _)
          | succ fuel ih38 =>
            intro k hfuel38 hk G locs hP hS ls hl
            refine lv_iload_n hx hb dX3_digest_38 rfl (lv_at hl 0 rfl) ?_
            refine lv_bipush (v := nI 10) hx hb dX3_digest_39 rfl ?_
            refine li_ge (tgt := 64) hx hb dX3_digest_41 (by decide) (by omega) (by omega) (fun c4 => ?_) (fun c4 => ?_)
            · skip
              refine lv_iconst (v := nI 0) hx hb dX3_digest_64 rfl ?_
              refine lv_istore_n (lv' := [(3, .int (nI 0)), (1, .long (dgN (σ 3) (dgN (alT n pl nw ns σ) 659 11) k)), (0, .ref (a 0))]) hx hb dX3_digest_65 rfl hl (by decide) rfl (fun ls hl => ?_)
              have L66_5 : ∀ (fuel : Nat) (k : Nat), (n - k) < fuel → (k ≤ n) → ∀ (G : Heap) (locs : List Loc), va_P D vwCl (wM cI cZ a (nI 0) n nw ns σ η) G → va_S A H G locs → ∀ (ls : Array Slot), lv_has ls 5 [(3, .int (nI k)), (1, .long (dgS n nw σ (dgN (σ 3) (dgN (alT n pl nw ns σ) 659 11) 10) k)), (0, .ref (a 0))] → W p l e ({ frames := 5, cells := 0, slots := 0, locals := 110 } : Room) s m args below meth c G locs 0 0 Q (F0 m 66 ls []) := by
                intro fuel
                induction fuel with
                | zero =>
                  intro k hfuel
                  exact absurd hfuel (Nat.not_lt_zero _)
                | succ fuel ih66 =>
                  intro k hfuel66 hk G locs hP hS ls hl
                  refine lv_iload_n hx hb dX3_digest_66 rfl (lv_at hl 0 rfl) ?_
                  refine lv_aload_n hx hb dX3_digest_67 rfl (lv_at hl 2 rfl) ?_
                  refine li_gf3 hx hb hX3 hown hK hP 0 rfl 1 (by decide) f51 rfl dX3_digest_68 ?_
                  refine li_ge (tgt := 111) hx hb dX3_digest_71 (by decide) (by omega) (by omega) (fun c6 => ?_) (fun c6 => ?_)
                  · skip
                    refine lv_iconst (v := nI 0) hx hb dX3_digest_111 rfl ?_
                    refine lv_istore_n (lv' := [(3, .int (nI 0)), (1, .long (dgS n nw σ (dgN (σ 3) (dgN (alT n pl nw ns σ) 659 11) 10) k)), (0, .ref (a 0))]) hx hb dX3_digest_112 rfl hl (by decide) rfl (fun ls hl => ?_)
                    have L113_7 : ∀ (fuel : Nat) (k : Nat), (nw - k) < fuel → (k ≤ nw) → ∀ (G : Heap) (locs : List Loc), va_P D vwCl (wM cI cZ a (nI 0) n nw ns σ η) G → va_S A H G locs → ∀ (ls : Array Slot), lv_has ls 5 [(3, .int (nI k)), (1, .long (dgW nw ns σ (dgS n nw σ (dgN (σ 3) (dgN (alT n pl nw ns σ) 659 11) 10) n) k)), (0, .ref (a 0))] → W p l e ({ frames := 5, cells := 0, slots := 0, locals := 110 } : Room) s m args below meth c G locs 0 0 Q (F0 m 113 ls []) := by
                      intro fuel
                      induction fuel with
                      | zero =>
                        intro k hfuel
                        exact absurd hfuel (Nat.not_lt_zero _)
                      | succ fuel ih113 =>
                        intro k hfuel113 hk G locs hP hS ls hl
                        refine lv_iload_n hx hb dX3_digest_113 rfl (lv_at hl 0 rfl) ?_
                        refine lv_aload_n hx hb dX3_digest_114 rfl (lv_at hl 2 rfl) ?_
                        refine li_gf3 hx hb hX3 hown hK hP 0 rfl 5 (by decide) f58 rfl dX3_digest_115 ?_
                        refine li_ge (tgt := 196) hx hb dX3_digest_118 (by decide) (by omega) (by omega) (fun c8 => ?_) (fun c8 => ?_)
                        · skip
                          refine lv_iconst (v := nI 0) hx hb dX3_digest_196 rfl ?_
                          refine lv_istore_n (lv' := [(3, .int (nI 0)), (1, .long (dgW nw ns σ (dgS n nw σ (dgN (σ 3) (dgN (alT n pl nw ns σ) 659 11) 10) n) k)), (0, .ref (a 0))]) hx hb dX3_digest_197 rfl hl (by decide) rfl (fun ls hl => ?_)
                          have L198_9 : ∀ (fuel : Nat) (k : Nat), (ns - k) < fuel → (k ≤ ns) → ∀ (G : Heap) (locs : List Loc), va_P D vwCl (wM cI cZ a (nI 0) n nw ns σ η) G → va_S A H G locs → ∀ (ls : Array Slot), lv_has ls 5 [(3, .int (nI k)), (1, .long (dgN (σ 6) (dgW nw ns σ (dgS n nw σ (dgN (σ 3) (dgN (alT n pl nw ns σ) 659 11) 10) n) nw) k)), (0, .ref (a 0))] → W p l e ({ frames := 5, cells := 0, slots := 0, locals := 110 } : Room) s m args below meth c G locs 0 0 Q (F0 m 198 ls []) := by
                            intro fuel
                            induction fuel with
                            | zero =>
                              intro k hfuel
                              exact absurd hfuel (Nat.not_lt_zero _)
                            | succ fuel ih198 =>
                              intro k hfuel198 hk G locs hP hS ls hl
                              refine lv_iload_n hx hb dX3_digest_198 rfl (lv_at hl 0 rfl) ?_
                              refine lv_aload_n hx hb dX3_digest_199 rfl (lv_at hl 2 rfl) ?_
                              refine li_gf3 hx hb hX3 hown hK hP 0 rfl 7 (by decide) f61 rfl dX3_digest_200 ?_
                              refine li_ge (tgt := 226) hx hb dX3_digest_203 (by decide) (by omega) (by omega) (fun c10 => ?_) (fun c10 => ?_)
                              · skip
                                refine lv_lload_n hx hb dX3_digest_226 rfl (lv_at hl 1 rfl) ?_
                                refine li_topl (show dgN (σ 6) (dgW nw ns σ (dgS n nw σ (dgN (σ 3) (dgN (alT n pl nw ns σ) 659 11) 10) n) nw) k = diV n pl nw ns σ from by rw [show k = ns by omega]; rfl) ?_
                                exact hEnd 227 ls G locs dX3_digest_227 hP hS
                              · skip
                                refine lv_lload_n hx hb dX3_digest_206 rfl (lv_at hl 1 rfl) ?_
                                refine lv_ldc2 hx hb hown g5 dX3_digest_207 ?_
                                refine lv_lmul hx hb dX3_digest_210 ?_
                                refine lv_aload_n hx hb dX3_digest_211 rfl (lv_at hl 2 rfl) ?_
                                refine li_gf3 hx hb hX3 hown hK hP 0 rfl 8 (by decide) f22 rfl dX3_digest_212 ?_
                                refine lv_iload_n hx hb dX3_digest_215 rfl (lv_at hl 0 rfl) ?_
                                refine li_ild hx hb hK hP 5 0 rfl rfl (by omega) (by decide) dX3_digest_216 ?_
                                refine lv_i2l (v := (σ 6 k).toInt64) hx hb dX3_digest_217 rfl ?_
                                refine lv_ladd hx hb dX3_digest_218 ?_
                                refine lv_lstore_n (lv' := [(1, .long (((dgN (σ 6) (dgW nw ns σ (dgS n nw σ (dgN (σ 3) (dgN (alT n pl nw ns σ) 659 11) 10) n) nw) k) * 31) + ((σ 6 k).toInt64))), (3, .int (nI k)), (0, .ref (a 0))]) hx hb dX3_digest_219 rfl hl (by decide) rfl (fun ls hl => ?_)
                                refine lv_iinc (v := nI (k + 1)) (lv' := [(3, .int (nI (k + 1))), (1, .long (((dgN (σ 6) (dgW nw ns σ (dgS n nw σ (dgN (σ 3) (dgN (alT n pl nw ns σ) 659 11) 10) n) nw) k) * 31) + ((σ 6 k).toInt64))), (0, .ref (a 0))]) hx hb dX3_digest_220 hl (k := 1) rfl (nI_inc _ _) (by decide) rfl (fun ls hl => ?_)
                                refine lv_goto (tgt := 198) hx hb dX3_digest_223 (by decide) ?_
                                have hl9 : lv_has ls 5 [(3, .int (nI (k + 1))), (1, .long (((dgN (σ 6) (dgW nw ns σ (dgS n nw σ (dgN (σ 3) (dgN (alT n pl nw ns σ) 659 11) 10) n) nw) k) * 31) + ((σ 6 k).toInt64))), (0, .ref (a 0))] := lv_sub hl [0, 1, 2] rfl
                                have hl9 : lv_has ls 5 [(3, .int (nI (k + 1))), (1, .long (dgN (σ 6) (dgW nw ns σ (dgS n nw σ (dgN (σ 3) (dgN (alT n pl nw ns σ) 659 11) 10) n) nw) (k + 1))), (0, .ref (a 0))] := lv_reg hl9 (i := 1) rfl (congrArg Value.long (show ((dgN (σ 6) (dgW nw ns σ (dgS n nw σ (dgN (σ 3) (dgN (alT n pl nw ns σ) 659 11) 10) n) nw) k) * 31) + ((σ 6 k).toInt64) = dgN (σ 6) (dgW nw ns σ (dgS n nw σ (dgN (σ 3) (dgN (alT n pl nw ns σ) 659 11) 10) n) nw) (k + 1) from rfl))
                                exact ih198 (k + 1) (by omega) (by omega) G locs hP hS ls hl9
                          have hl9 : lv_has ls 5 [(3, .int (nI 0)), (1, .long (dgW nw ns σ (dgS n nw σ (dgN (σ 3) (dgN (alT n pl nw ns σ) 659 11) 10) n) k)), (0, .ref (a 0))] := lv_sub hl [0, 1, 2] rfl
                          have hl9 : lv_has ls 5 [(3, .int (nI 0)), (1, .long (dgN (σ 6) (dgW nw ns σ (dgS n nw σ (dgN (σ 3) (dgN (alT n pl nw ns σ) 659 11) 10) n) nw) 0)), (0, .ref (a 0))] := lv_reg hl9 (i := 1) rfl (congrArg Value.long (show dgW nw ns σ (dgS n nw σ (dgN (σ 3) (dgN (alT n pl nw ns σ) 659 11) 10) n) k = dgN (σ 6) (dgW nw ns σ (dgS n nw σ (dgN (σ 3) (dgN (alT n pl nw ns σ) 659 11) 10) n) nw) 0 from by rw [show k = nw by omega]; rfl))
                          exact L198_9 ((ns - 0) + 1) 0 (Nat.lt_succ_self _) (by omega) G locs hP hS ls hl9
                        · skip
                          refine lv_iconst (v := nI 0) hx hb dX3_digest_121 rfl ?_
                          refine lv_istore (lv' := [(4, .int (nI 0)), (3, .int (nI k)), (1, .long (dgW nw ns σ (dgS n nw σ (dgN (σ 3) (dgN (alT n pl nw ns σ) 659 11) 10) n) k)), (0, .ref (a 0))]) hx hb dX3_digest_122 hl (by decide) rfl (fun ls hl => ?_)
                          have L124_11 : ∀ (fuel : Nat) (j : Nat), (9 - j) < fuel → (j ≤ 9) → ∀ (G : Heap) (locs : List Loc), va_P D vwCl (wM cI cZ a (nI 0) n nw ns σ η) G → va_S A H G locs → ∀ (ls : Array Slot), lv_has ls 5 [(4, .int (nI j)), (3, .int (nI k)), (1, .long (dgN (waT nw σ k) (dgW nw ns σ (dgS n nw σ (dgN (σ 3) (dgN (alT n pl nw ns σ) 659 11) 10) n) k) j)), (0, .ref (a 0))] → W p l e ({ frames := 5, cells := 0, slots := 0, locals := 110 } : Room) s m args below meth c G locs 0 0 Q (F0 m 124 ls []) := by
                            intro fuel
                            induction fuel with
                            | zero =>
                              intro j hfuel
                              exact absurd hfuel (Nat.not_lt_zero _)
                            | succ fuel ih124 =>
                              intro j hfuel124 hj G locs hP hS ls hl
                              refine lv_iload hx hb dX3_digest_124 (lv_at hl 0 rfl) ?_
                              refine lv_bipush (v := nI 9) hx hb dX3_digest_126 rfl ?_
                              refine li_ge (tgt := 152) hx hb dX3_digest_128 (by decide) (by omega) (by omega) (fun c12 => ?_) (fun c12 => ?_)
                              · skip
                                refine lv_iconst (v := nI 0) hx hb dX3_digest_152 rfl ?_
                                refine lv_istore (lv' := [(4, .int (nI 0)), (3, .int (nI k)), (1, .long (dgN (waT nw σ k) (dgW nw ns σ (dgS n nw σ (dgN (σ 3) (dgN (alT n pl nw ns σ) 659 11) 10) n) k) j)), (0, .ref (a 0))]) hx hb dX3_digest_153 hl (by decide) rfl (fun ls hl => ?_)
                                have L155_13 : ∀ (fuel : Nat) (j : Nat), (ns - j) < fuel → (j ≤ ns) → ∀ (G : Heap) (locs : List Loc), va_P D vwCl (wM cI cZ a (nI 0) n nw ns σ η) G → va_S A H G locs → ∀ (ls : Array Slot), lv_has ls 5 [(4, .int (nI j)), (3, .int (nI k)), (1, .long (dgN (fun s9 => σ 16 (6 * k + s9)) (dgN (waT nw σ k) (dgW nw ns σ (dgS n nw σ (dgN (σ 3) (dgN (alT n pl nw ns σ) 659 11) 10) n) k) 9) j)), (0, .ref (a 0))] → W p l e ({ frames := 5, cells := 0, slots := 0, locals := 110 } : Room) s m args below meth c G locs 0 0 Q (F0 m 155 ls []) := by
                                  intro fuel
                                  induction fuel with
                                  | zero =>
                                    intro j hfuel
                                    exact absurd hfuel (Nat.not_lt_zero _)
                                  | succ fuel ih155 =>
                                    intro j hfuel155 hj G locs hP hS ls hl
                                    refine lv_iload hx hb dX3_digest_155 (lv_at hl 0 rfl) ?_
                                    refine lv_aload_n hx hb dX3_digest_157 rfl (lv_at hl 3 rfl) ?_
                                    refine li_gf3 hx hb hX3 hown hK hP 0 rfl 7 (by decide) f61 rfl dX3_digest_158 ?_
                                    refine li_ge (tgt := 190) hx hb dX3_digest_161 (by decide) (by omega) (by omega) (fun c14 => ?_) (fun c14 => ?_)
                                    · skip
                                      refine lv_iinc (v := nI (k + 1)) (lv' := [(3, .int (nI (k + 1))), (4, .int (nI j)), (1, .long (dgN (fun s9 => σ 16 (6 * k + s9)) (dgN (waT nw σ k) (dgW nw ns σ (dgS n nw σ (dgN (σ 3) (dgN (alT n pl nw ns σ) 659 11) 10) n) k) 9) j)), (0, .ref (a 0))]) hx hb dX3_digest_190 hl (k := 1) rfl (nI_inc _ _) (by decide) rfl (fun ls hl => ?_)
                                      refine lv_goto (tgt := 113) hx hb dX3_digest_193 (by decide) ?_
                                      have hl9 : lv_has ls 5 [(3, .int (nI (k + 1))), (1, .long (dgN (fun s9 => σ 16 (6 * k + s9)) (dgN (waT nw σ k) (dgW nw ns σ (dgS n nw σ (dgN (σ 3) (dgN (alT n pl nw ns σ) 659 11) 10) n) k) 9) j)), (0, .ref (a 0))] := lv_sub hl [0, 2, 3] rfl
                                      have hl9 : lv_has ls 5 [(3, .int (nI (k + 1))), (1, .long (dgW nw ns σ (dgS n nw σ (dgN (σ 3) (dgN (alT n pl nw ns σ) 659 11) 10) n) (k + 1))), (0, .ref (a 0))] := lv_reg hl9 (i := 1) rfl (congrArg Value.long (show dgN (fun s9 => σ 16 (6 * k + s9)) (dgN (waT nw σ k) (dgW nw ns σ (dgS n nw σ (dgN (σ 3) (dgN (alT n pl nw ns σ) 659 11) 10) n) k) 9) j = dgW nw ns σ (dgS n nw σ (dgN (σ 3) (dgN (alT n pl nw ns σ) 659 11) 10) n) (k + 1) from by rw [show j = ns by omega]; rfl))
                                      exact ih113 (k + 1) (by omega) (by omega) G locs hP hS ls hl9
                                    · skip
                                      refine lv_lload_n hx hb dX3_digest_164 rfl (lv_at hl 2 rfl) ?_
                                      refine lv_ldc2 hx hb hown g5 dX3_digest_165 ?_
                                      refine lv_lmul hx hb dX3_digest_168 ?_
                                      refine lv_aload_n hx hb dX3_digest_169 rfl (lv_at hl 3 rfl) ?_
                                      refine li_gf3 hx hb hX3 hown hK hP 0 rfl 9 (by decide) f25 rfl dX3_digest_170 ?_
                                      refine lv_bipush (v := nI 6) hx hb dX3_digest_173 rfl ?_
                                      refine lv_iload_n hx hb dX3_digest_175 rfl (lv_at hl 1 rfl) ?_
                                      refine lv_imul hx hb dX3_digest_176 ?_
                                      refine li_topi (pk_mul _ _) ?_
                                      refine lv_iload hx hb dX3_digest_177 (lv_at hl 0 rfl) ?_
                                      refine lv_iadd hx hb dX3_digest_179 ?_
                                      refine li_topi (nI_add _ _) ?_
                                      refine li_ild hx hb hK hP 6 0 rfl rfl (by omega) (by decide) dX3_digest_180 ?_
                                      refine lv_i2l (v := (σ 16 (6 * k + j)).toInt64) hx hb dX3_digest_181 rfl ?_
                                      refine lv_ladd hx hb dX3_digest_182 ?_
                                      refine lv_lstore_n (lv' := [(1, .long (((dgN (fun s9 => σ 16 (6 * k + s9)) (dgN (waT nw σ k) (dgW nw ns σ (dgS n nw σ (dgN (σ 3) (dgN (alT n pl nw ns σ) 659 11) 10) n) k) 9) j) * 31) + ((σ 16 (6 * k + j)).toInt64))), (4, .int (nI j)), (3, .int (nI k)), (0, .ref (a 0))]) hx hb dX3_digest_183 rfl hl (by decide) rfl (fun ls hl => ?_)
                                      refine lv_iinc (v := nI (j + 1)) (lv' := [(4, .int (nI (j + 1))), (1, .long (((dgN (fun s9 => σ 16 (6 * k + s9)) (dgN (waT nw σ k) (dgW nw ns σ (dgS n nw σ (dgN (σ 3) (dgN (alT n pl nw ns σ) 659 11) 10) n) k) 9) j) * 31) + ((σ 16 (6 * k + j)).toInt64))), (3, .int (nI k)), (0, .ref (a 0))]) hx hb dX3_digest_184 hl (k := 1) rfl (nI_inc _ _) (by decide) rfl (fun ls hl => ?_)
                                      refine lv_goto (tgt := 155) hx hb dX3_digest_187 (by decide) ?_
                                      have hl9 : lv_has ls 5 [(4, .int (nI (j + 1))), (3, .int (nI k)), (1, .long (((dgN (fun s9 => σ 16 (6 * k + s9)) (dgN (waT nw σ k) (dgW nw ns σ (dgS n nw σ (dgN (σ 3) (dgN (alT n pl nw ns σ) 659 11) 10) n) k) 9) j) * 31) + ((σ 16 (6 * k + j)).toInt64))), (0, .ref (a 0))] := lv_sub hl [0, 2, 1, 3] rfl
                                      have hl9 : lv_has ls 5 [(4, .int (nI (j + 1))), (3, .int (nI k)), (1, .long (dgN (fun s9 => σ 16 (6 * k + s9)) (dgN (waT nw σ k) (dgW nw ns σ (dgS n nw σ (dgN (σ 3) (dgN (alT n pl nw ns σ) 659 11) 10) n) k) 9) (j + 1))), (0, .ref (a 0))] := lv_reg hl9 (i := 2) rfl (congrArg Value.long (show ((dgN (fun s9 => σ 16 (6 * k + s9)) (dgN (waT nw σ k) (dgW nw ns σ (dgS n nw σ (dgN (σ 3) (dgN (alT n pl nw ns σ) 659 11) 10) n) k) 9) j) * 31) + ((σ 16 (6 * k + j)).toInt64) = dgN (fun s9 => σ 16 (6 * k + s9)) (dgN (waT nw σ k) (dgW nw ns σ (dgS n nw σ (dgN (σ 3) (dgN (alT n pl nw ns σ) 659 11) 10) n) k) 9) (j + 1) from rfl))
                                      exact ih155 (j + 1) (by omega) (by omega) G locs hP hS ls hl9
                                have hl9 : lv_has ls 5 [(4, .int (nI 0)), (3, .int (nI k)), (1, .long (dgN (waT nw σ k) (dgW nw ns σ (dgS n nw σ (dgN (σ 3) (dgN (alT n pl nw ns σ) 659 11) 10) n) k) j)), (0, .ref (a 0))] := lv_sub hl [0, 1, 2, 3] rfl
                                have hl9 : lv_has ls 5 [(4, .int (nI 0)), (3, .int (nI k)), (1, .long (dgN (fun s9 => σ 16 (6 * k + s9)) (dgN (waT nw σ k) (dgW nw ns σ (dgS n nw σ (dgN (σ 3) (dgN (alT n pl nw ns σ) 659 11) 10) n) k) 9) 0)), (0, .ref (a 0))] := lv_reg hl9 (i := 2) rfl (congrArg Value.long (show dgN (waT nw σ k) (dgW nw ns σ (dgS n nw σ (dgN (σ 3) (dgN (alT n pl nw ns σ) 659 11) 10) n) k) j = dgN (fun s9 => σ 16 (6 * k + s9)) (dgN (waT nw σ k) (dgW nw ns σ (dgS n nw σ (dgN (σ 3) (dgN (alT n pl nw ns σ) 659 11) 10) n) k) 9) 0 from by rw [show j = 9 by omega]; rfl))
                                exact L155_13 ((ns - 0) + 1) 0 (Nat.lt_succ_self _) (by omega) G locs hP hS ls hl9
                              · skip
                                refine lv_lload_n hx hb dX3_digest_131 rfl (lv_at hl 2 rfl) ?_
                                refine lv_ldc2 hx hb hown g5 dX3_digest_132 ?_
                                refine lv_lmul hx hb dX3_digest_135 ?_
                                refine lv_aload_n hx hb dX3_digest_136 rfl (lv_at hl 3 rfl) ?_
                                refine lv_iload_n hx hb dX3_digest_137 rfl (lv_at hl 1 rfl) ?_
                                refine lv_iload hx hb dX3_digest_138 (lv_at hl 0 rfl) ?_
                                refine roV (As := [.int (nI k), .int (nI j)]) (q0 := 0) (ci := 3) hx hb hml hown hts (c_X3_walkerTold l D cI cZ cL cO a (nI 0) n nw ns σ η G k j (hB) (by omega) (by omega)) (cwV 2 hts gX3_digest_X3_walkerTold rfl rfl rfl (by decide +kernel) ⟨by decide, by decide⟩) hK hE hP rfl rfl rfl rfl hl.1 rfl (Nat.le_of_ble_eq_true rfl) hS dX3_digest_140 ⟨Nat.zero_le _, Nat.zero_le _⟩ (fun locs hS => ?_)
                                refine lv_i2l (v := (waT nw σ k j).toInt64) hx hb dX3_digest_143 rfl ?_
                                refine lv_ladd hx hb dX3_digest_144 ?_
                                refine lv_lstore_n (lv' := [(1, .long (((dgN (waT nw σ k) (dgW nw ns σ (dgS n nw σ (dgN (σ 3) (dgN (alT n pl nw ns σ) 659 11) 10) n) k) j) * 31) + ((waT nw σ k j).toInt64))), (4, .int (nI j)), (3, .int (nI k)), (0, .ref (a 0))]) hx hb dX3_digest_145 rfl hl (by decide) rfl (fun ls hl => ?_)
                                refine lv_iinc (v := nI (j + 1)) (lv' := [(4, .int (nI (j + 1))), (1, .long (((dgN (waT nw σ k) (dgW nw ns σ (dgS n nw σ (dgN (σ 3) (dgN (alT n pl nw ns σ) 659 11) 10) n) k) j) * 31) + ((waT nw σ k j).toInt64))), (3, .int (nI k)), (0, .ref (a 0))]) hx hb dX3_digest_146 hl (k := 1) rfl (nI_inc _ _) (by decide) rfl (fun ls hl => ?_)
                                refine lv_goto (tgt := 124) hx hb dX3_digest_149 (by decide) ?_
                                have hl9 : lv_has ls 5 [(4, .int (nI (j + 1))), (3, .int (nI k)), (1, .long (((dgN (waT nw σ k) (dgW nw ns σ (dgS n nw σ (dgN (σ 3) (dgN (alT n pl nw ns σ) 659 11) 10) n) k) j) * 31) + ((waT nw σ k j).toInt64))), (0, .ref (a 0))] := lv_sub hl [0, 2, 1, 3] rfl
                                have hl9 : lv_has ls 5 [(4, .int (nI (j + 1))), (3, .int (nI k)), (1, .long (dgN (waT nw σ k) (dgW nw ns σ (dgS n nw σ (dgN (σ 3) (dgN (alT n pl nw ns σ) 659 11) 10) n) k) (j + 1))), (0, .ref (a 0))] := lv_reg hl9 (i := 2) rfl (congrArg Value.long (show ((dgN (waT nw σ k) (dgW nw ns σ (dgS n nw σ (dgN (σ 3) (dgN (alT n pl nw ns σ) 659 11) 10) n) k) j) * 31) + ((waT nw σ k j).toInt64) = dgN (waT nw σ k) (dgW nw ns σ (dgS n nw σ (dgN (σ 3) (dgN (alT n pl nw ns σ) 659 11) 10) n) k) (j + 1) from rfl))
                                exact ih124 (j + 1) (by omega) (by omega) G locs hP hS ls hl9
                          have hl9 : lv_has ls 5 [(4, .int (nI 0)), (3, .int (nI k)), (1, .long (dgW nw ns σ (dgS n nw σ (dgN (σ 3) (dgN (alT n pl nw ns σ) 659 11) 10) n) k)), (0, .ref (a 0))] := lv_sub hl [0, 1, 2, 3] rfl
                          have hl9 : lv_has ls 5 [(4, .int (nI 0)), (3, .int (nI k)), (1, .long (dgN (waT nw σ k) (dgW nw ns σ (dgS n nw σ (dgN (σ 3) (dgN (alT n pl nw ns σ) 659 11) 10) n) k) 0)), (0, .ref (a 0))] := lv_reg hl9 (i := 2) rfl (congrArg Value.long (show dgW nw ns σ (dgS n nw σ (dgN (σ 3) (dgN (alT n pl nw ns σ) 659 11) 10) n) k = dgN (waT nw σ k) (dgW nw ns σ (dgS n nw σ (dgN (σ 3) (dgN (alT n pl nw ns σ) 659 11) 10) n) k) 0 from rfl))
                          exact L124_11 ((9 - 0) + 1) 0 (Nat.lt_succ_self _) (by omega) G locs hP hS ls hl9
                    have hl9 : lv_has ls 5 [(3, .int (nI 0)), (1, .long (dgS n nw σ (dgN (σ 3) (dgN (alT n pl nw ns σ) 659 11) 10) k)), (0, .ref (a 0))] := lv_sub hl [0, 1, 2] rfl
                    have hl9 : lv_has ls 5 [(3, .int (nI 0)), (1, .long (dgW nw ns σ (dgS n nw σ (dgN (σ 3) (dgN (alT n pl nw ns σ) 659 11) 10) n) 0)), (0, .ref (a 0))] := lv_reg hl9 (i := 1) rfl (congrArg Value.long (show dgS n nw σ (dgN (σ 3) (dgN (alT n pl nw ns σ) 659 11) 10) k = dgW nw ns σ (dgS n nw σ (dgN (σ 3) (dgN (alT n pl nw ns σ) 659 11) 10) n) 0 from by rw [show k = n by omega]; rfl))
                    exact L113_7 ((nw - 0) + 1) 0 (Nat.lt_succ_self _) (by omega) G locs hP hS ls hl9
                  · skip
                    refine lv_iconst (v := nI 0) hx hb dX3_digest_74 rfl ?_
                    refine lv_istore (lv' := [(4, .int (nI 0)), (3, .int (nI k)), (1, .long (dgS n nw σ (dgN (σ 3) (dgN (alT n pl nw ns σ) 659 11) 10) k)), (0, .ref (a 0))]) hx hb dX3_digest_75 hl (by decide) rfl (fun ls hl => ?_)
                    have L77_15 : ∀ (fuel : Nat) (j : Nat), (6 - j) < fuel → (j ≤ 6) → ∀ (G : Heap) (locs : List Loc), va_P D vwCl (wM cI cZ a (nI 0) n nw ns σ η) G → va_S A H G locs → ∀ (ls : Array Slot), lv_has ls 5 [(4, .int (nI j)), (3, .int (nI k)), (1, .long (dgN (stT n nw σ k) (dgS n nw σ (dgN (σ 3) (dgN (alT n pl nw ns σ) 659 11) 10) k) j)), (0, .ref (a 0))] → W p l e ({ frames := 5, cells := 0, slots := 0, locals := 110 } : Room) s m args below meth c G locs 0 0 Q (F0 m 77 ls []) := by
                      intro fuel
                      induction fuel with
                      | zero =>
                        intro j hfuel
                        exact absurd hfuel (Nat.not_lt_zero _)
                      | succ fuel ih77 =>
                        intro j hfuel77 hj G locs hP hS ls hl
                        refine lv_iload hx hb dX3_digest_77 (lv_at hl 0 rfl) ?_
                        refine lv_bipush (v := nI 6) hx hb dX3_digest_79 rfl ?_
                        refine li_ge (tgt := 105) hx hb dX3_digest_81 (by decide) (by omega) (by omega) (fun c16 => ?_) (fun c16 => ?_)
                        · skip
                          refine lv_iinc (v := nI (k + 1)) (lv' := [(3, .int (nI (k + 1))), (4, .int (nI j)), (1, .long (dgN (stT n nw σ k) (dgS n nw σ (dgN (σ 3) (dgN (alT n pl nw ns σ) 659 11) 10) k) j)), (0, .ref (a 0))]) hx hb dX3_digest_105 hl (k := 1) rfl (nI_inc _ _) (by decide) rfl (fun ls hl => ?_)
                          refine lv_goto (tgt := 66) hx hb dX3_digest_108 (by decide) ?_
                          have hl9 : lv_has ls 5 [(3, .int (nI (k + 1))), (1, .long (dgN (stT n nw σ k) (dgS n nw σ (dgN (σ 3) (dgN (alT n pl nw ns σ) 659 11) 10) k) j)), (0, .ref (a 0))] := lv_sub hl [0, 2, 3] rfl
                          have hl9 : lv_has ls 5 [(3, .int (nI (k + 1))), (1, .long (dgS n nw σ (dgN (σ 3) (dgN (alT n pl nw ns σ) 659 11) 10) (k + 1))), (0, .ref (a 0))] := lv_reg hl9 (i := 1) rfl (congrArg Value.long (show dgN (stT n nw σ k) (dgS n nw σ (dgN (σ 3) (dgN (alT n pl nw ns σ) 659 11) 10) k) j = dgS n nw σ (dgN (σ 3) (dgN (alT n pl nw ns σ) 659 11) 10) (k + 1) from by rw [show j = 6 by omega]; rfl))
                          exact ih66 (k + 1) (by omega) (by omega) G locs hP hS ls hl9
                        · skip
                          refine lv_lload_n hx hb dX3_digest_84 rfl (lv_at hl 2 rfl) ?_
                          refine lv_ldc2 hx hb hown g5 dX3_digest_85 ?_
                          refine lv_lmul hx hb dX3_digest_88 ?_
                          refine lv_aload_n hx hb dX3_digest_89 rfl (lv_at hl 3 rfl) ?_
                          refine lv_iload_n hx hb dX3_digest_90 rfl (lv_at hl 1 rfl) ?_
                          refine lv_iload hx hb dX3_digest_91 (lv_at hl 0 rfl) ?_
                          refine roV (As := [.int (nI k), .int (nI j)]) (q0 := 0) (ci := 3) hx hb hml hown hts (c_X3_stretchTold l D cI cZ cL cO a (nI 0) n nw ns σ η G k j (hB) (pl) (hpl) (by omega) (by omega) (hRF) (hPB)) (cwV 2 hts gX3_digest_X3_stretchTold rfl rfl rfl (by decide +kernel) ⟨by decide, by decide⟩) hK hE hP rfl rfl rfl rfl hl.1 rfl (Nat.le_of_ble_eq_true rfl) hS dX3_digest_93 ⟨Nat.zero_le _, Nat.zero_le _⟩ (fun locs hS => ?_)
                          refine lv_i2l (v := (stT n nw σ k j).toInt64) hx hb dX3_digest_96 rfl ?_
                          refine lv_ladd hx hb dX3_digest_97 ?_
                          refine lv_lstore_n (lv' := [(1, .long (((dgN (stT n nw σ k) (dgS n nw σ (dgN (σ 3) (dgN (alT n pl nw ns σ) 659 11) 10) k) j) * 31) + ((stT n nw σ k j).toInt64))), (4, .int (nI j)), (3, .int (nI k)), (0, .ref (a 0))]) hx hb dX3_digest_98 rfl hl (by decide) rfl (fun ls hl => ?_)
                          refine lv_iinc (v := nI (j + 1)) (lv' := [(4, .int (nI (j + 1))), (1, .long (((dgN (stT n nw σ k) (dgS n nw σ (dgN (σ 3) (dgN (alT n pl nw ns σ) 659 11) 10) k) j) * 31) + ((stT n nw σ k j).toInt64))), (3, .int (nI k)), (0, .ref (a 0))]) hx hb dX3_digest_99 hl (k := 1) rfl (nI_inc _ _) (by decide) rfl (fun ls hl => ?_)
                          refine lv_goto (tgt := 77) hx hb dX3_digest_102 (by decide) ?_
                          have hl9 : lv_has ls 5 [(4, .int (nI (j + 1))), (3, .int (nI k)), (1, .long (((dgN (stT n nw σ k) (dgS n nw σ (dgN (σ 3) (dgN (alT n pl nw ns σ) 659 11) 10) k) j) * 31) + ((stT n nw σ k j).toInt64))), (0, .ref (a 0))] := lv_sub hl [0, 2, 1, 3] rfl
                          have hl9 : lv_has ls 5 [(4, .int (nI (j + 1))), (3, .int (nI k)), (1, .long (dgN (stT n nw σ k) (dgS n nw σ (dgN (σ 3) (dgN (alT n pl nw ns σ) 659 11) 10) k) (j + 1))), (0, .ref (a 0))] := lv_reg hl9 (i := 2) rfl (congrArg Value.long (show ((dgN (stT n nw σ k) (dgS n nw σ (dgN (σ 3) (dgN (alT n pl nw ns σ) 659 11) 10) k) j) * 31) + ((stT n nw σ k j).toInt64) = dgN (stT n nw σ k) (dgS n nw σ (dgN (σ 3) (dgN (alT n pl nw ns σ) 659 11) 10) k) (j + 1) from rfl))
                          exact ih77 (j + 1) (by omega) (by omega) G locs hP hS ls hl9
                    have hl9 : lv_has ls 5 [(4, .int (nI 0)), (3, .int (nI k)), (1, .long (dgS n nw σ (dgN (σ 3) (dgN (alT n pl nw ns σ) 659 11) 10) k)), (0, .ref (a 0))] := lv_sub hl [0, 1, 2, 3] rfl
                    have hl9 : lv_has ls 5 [(4, .int (nI 0)), (3, .int (nI k)), (1, .long (dgN (stT n nw σ k) (dgS n nw σ (dgN (σ 3) (dgN (alT n pl nw ns σ) 659 11) 10) k) 0)), (0, .ref (a 0))] := lv_reg hl9 (i := 2) rfl (congrArg Value.long (show dgS n nw σ (dgN (σ 3) (dgN (alT n pl nw ns σ) 659 11) 10) k = dgN (stT n nw σ k) (dgS n nw σ (dgN (σ 3) (dgN (alT n pl nw ns σ) 659 11) 10) k) 0 from rfl))
                    exact L77_15 ((6 - 0) + 1) 0 (Nat.lt_succ_self _) (by omega) G locs hP hS ls hl9
              have hl9 : lv_has ls 5 [(3, .int (nI 0)), (1, .long (dgN (σ 3) (dgN (alT n pl nw ns σ) 659 11) k)), (0, .ref (a 0))] := lv_sub hl [0, 1, 2] rfl
              have hl9 : lv_has ls 5 [(3, .int (nI 0)), (1, .long (dgS n nw σ (dgN (σ 3) (dgN (alT n pl nw ns σ) 659 11) 10) 0)), (0, .ref (a 0))] := lv_reg hl9 (i := 1) rfl (congrArg Value.long (show dgN (σ 3) (dgN (alT n pl nw ns σ) 659 11) k = dgS n nw σ (dgN (σ 3) (dgN (alT n pl nw ns σ) 659 11) 10) 0 from by rw [show k = 10 by omega]; rfl))
              exact L66_5 ((n - 0) + 1) 0 (Nat.lt_succ_self _) (by omega) G locs hP hS ls hl9
            · skip
              refine lv_lload_n hx hb dX3_digest_44 rfl (lv_at hl 1 rfl) ?_
              refine lv_ldc2 hx hb hown g5 dX3_digest_45 ?_
              refine lv_lmul hx hb dX3_digest_48 ?_
              refine lv_aload_n hx hb dX3_digest_49 rfl (lv_at hl 2 rfl) ?_
              refine li_gf3 hx hb hX3 hown hK hP 0 rfl 4 (by decide) f16 rfl dX3_digest_50 ?_
              refine lv_iload_n hx hb dX3_digest_53 rfl (lv_at hl 0 rfl) ?_
              refine li_ild hx hb hK hP 3 0 rfl rfl (by omega) (by decide) dX3_digest_54 ?_
              refine lv_i2l (v := (σ 3 k).toInt64) hx hb dX3_digest_55 rfl ?_
              refine lv_ladd hx hb dX3_digest_56 ?_
              refine lv_lstore_n (lv' := [(1, .long (((dgN (σ 3) (dgN (alT n pl nw ns σ) 659 11) k) * 31) + ((σ 3 k).toInt64))), (3, .int (nI k)), (0, .ref (a 0))]) hx hb dX3_digest_57 rfl hl (by decide) rfl (fun ls hl => ?_)
              refine lv_iinc (v := nI (k + 1)) (lv' := [(3, .int (nI (k + 1))), (1, .long (((dgN (σ 3) (dgN (alT n pl nw ns σ) 659 11) k) * 31) + ((σ 3 k).toInt64))), (0, .ref (a 0))]) hx hb dX3_digest_58 hl (k := 1) rfl (nI_inc _ _) (by decide) rfl (fun ls hl => ?_)
              refine lv_goto (tgt := 38) hx hb dX3_digest_61 (by decide) ?_
              have hl9 : lv_has ls 5 [(3, .int (nI (k + 1))), (1, .long (((dgN (σ 3) (dgN (alT n pl nw ns σ) 659 11) k) * 31) + ((σ 3 k).toInt64))), (0, .ref (a 0))] := lv_sub hl [0, 1, 2] rfl
              have hl9 : lv_has ls 5 [(3, .int (nI (k + 1))), (1, .long (dgN (σ 3) (dgN (alT n pl nw ns σ) 659 11) (k + 1))), (0, .ref (a 0))] := lv_reg hl9 (i := 1) rfl (congrArg Value.long (show ((dgN (σ 3) (dgN (alT n pl nw ns σ) 659 11) k) * 31) + ((σ 3 k).toInt64) = dgN (σ 3) (dgN (alT n pl nw ns σ) 659 11) (k + 1) from rfl))
              exact ih38 (k + 1) (by omega) (by omega) G locs hP hS ls hl9
        have hl9 : lv_has ls 5 [(3, .int (nI 0)), (1, .long (dgN (alT n pl nw ns σ) 659 k)), (0, .ref (a 0))] := lv_sub hl [0, 1, 2] rfl
        have hl9 : lv_has ls 5 [(3, .int (nI 0)), (1, .long (dgN (σ 3) (dgN (alT n pl nw ns σ) 659 11) 0)), (0, .ref (a 0))] := lv_reg hl9 (i := 1) rfl (congrArg Value.long (show dgN (alT n pl nw ns σ) 659 k = dgN (σ 3) (dgN (alT n pl nw ns σ) 659 11) 0 from by rw [show k = 11 by omega]; rfl))
        exact L38_3 ((10 - 0) + 1) 0 (Nat.lt_succ_self _) (by omega) G locs hP hS ls hl9
      · skip
        refine lv_lload_n hx hb dX3_digest_17 rfl (lv_at hl 1 rfl) ?_
        refine lv_ldc2 hx hb hown g5 dX3_digest_18 ?_
        refine lv_lmul hx hb dX3_digest_21 ?_
        refine lv_aload_n hx hb dX3_digest_22 rfl (lv_at hl 2 rfl) ?_
        refine lv_iload_n hx hb dX3_digest_23 rfl (lv_at hl 0 rfl) ?_
        refine roV (As := [.int (nI k)]) (q0 := 0) (ci := 3) hx hb hml hown hts (c_X3_counted l D cI cZ cL cO a (nI 0) n nw ns σ η G k (hB) (pl) (hpl) (by omega) (hz) (hRF) (hPB)) (cwV 1 hts gX3_digest_X3_counted rfl rfl rfl (by decide +kernel) ⟨by decide, by decide⟩) hK hE hP rfl rfl rfl rfl hl.1 rfl (Nat.le_of_ble_eq_true rfl) hS dX3_digest_24 ⟨Nat.zero_le _, Nat.zero_le _⟩ (fun locs hS => ?_)
        refine lv_i2l (v := (alT n pl nw ns σ k).toInt64) hx hb dX3_digest_27 rfl ?_
        refine lv_ladd hx hb dX3_digest_28 ?_
        refine lv_lstore_n (lv' := [(1, .long (((dgN (alT n pl nw ns σ) 659 k) * 31) + ((alT n pl nw ns σ k).toInt64))), (3, .int (nI k)), (0, .ref (a 0))]) hx hb dX3_digest_29 rfl hl (by decide) rfl (fun ls hl => ?_)
        refine lv_iinc (v := nI (k + 1)) (lv' := [(3, .int (nI (k + 1))), (1, .long (((dgN (alT n pl nw ns σ) 659 k) * 31) + ((alT n pl nw ns σ k).toInt64))), (0, .ref (a 0))]) hx hb dX3_digest_30 hl (k := 1) rfl (nI_inc _ _) (by decide) rfl (fun ls hl => ?_)
        refine lv_goto (tgt := 11) hx hb dX3_digest_33 (by decide) ?_
        have hl9 : lv_has ls 5 [(3, .int (nI (k + 1))), (1, .long (((dgN (alT n pl nw ns σ) 659 k) * 31) + ((alT n pl nw ns σ k).toInt64))), (0, .ref (a 0))] := lv_sub hl [0, 1, 2] rfl
        have hl9 : lv_has ls 5 [(3, .int (nI (k + 1))), (1, .long (dgN (alT n pl nw ns σ) 659 (k + 1))), (0, .ref (a 0))] := lv_reg hl9 (i := 1) rfl (congrArg Value.long (show ((dgN (alT n pl nw ns σ) 659 k) * 31) + ((alT n pl nw ns σ k).toInt64) = dgN (alT n pl nw ns σ) 659 (k + 1) from rfl))
        exact ih11 (k + 1) (by omega) (by omega) G locs hP hS ls hl9
  have hl9 : lv_has ls 5 [(3, .int (nI 0)), (1, .long 659), (0, .ref (a 0))] := lv_sub hl [0, 1, 2] rfl
  have hl9 : lv_has ls 5 [(3, .int (nI 0)), (1, .long (dgN (alT n pl nw ns σ) 659 0)), (0, .ref (a 0))] := lv_reg hl9 (i := 1) rfl (congrArg Value.long (show 659 = dgN (alT n pl nw ns σ) 659 0 from rfl))
  exact L11_1 ((11 - 0) + 1) 0 (Nat.lt_succ_self _) (by omega) G locs hP hS ls hl9
