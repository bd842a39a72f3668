/-! the model: a step -/
set_option maxHeartbeats 4000000 in
set_option maxRecDepth 100000 in
theorem c_X3_stepOn (l : Launch) (D : va_G) (cI cZ cL cO : ClassId) (a : Nat → Nat) (th : Int32) (n nw ns : Nat) (σ η : Sg) (H : Heap) (A : Nat → Prop) (hA : okP A a 13) (hB : n ≤ 10 ∧ nw ≤ 20 ∧ ns ≤ 6) (pl : Nat) (t : Nat) (hpl : pl ≤ 200) (hok : okS nw t σ) (ht : t < 2 ^ 31) (hwz : wz σ) (hRF : RF n pl σ) (hPB : PB pl nw σ) (hLT : LT n σ) : Met l yX3_stepOn wsX3_stepOn ({ frames := 5, cells := 0, slots := 0, locals := 111 } : Room) (ro_P D (T4 cI cZ cL cO) (wM cI cZ a th n nw ns σ η) H [.ref (a 0)]) (mi_Q D (nI (hm (ms5 n pl nw ns σ η) nw (nI 2)) - nI (hm σ nw (nI 2))) (wM cI cZ a th n nw ns (ms5 n pl nw ns σ η) (me5 n pl nw ns σ η)) A) 0 0 A := by
  refine mi_of (cc := cX3_stepOn) (maxL := 5) (by decide) rfl (Nat.le_of_ble_eq_true rfl) rfl ?_
  intro p e s m args below meth c Q ls locs hx hb hml hown hts hK hE hP hl hS hEnd
  have hl : lv_has ls 5 [(0, .ref (a 0))] := hl
  have hX3 : ∀ w ∈ wsX30, w.before args s = true := fun w h => hts w (List.mem_cons_of_mem _ (List.mem_append_right _ (h)))
  have f16 : (Cond.fieldLink RX3 16 "LanternWalkModel" "wind" "[I").before args s = true := hts _ (List.mem_of_getElem? (i := 1) rfl)
  have f28 : (Cond.fieldLink RX3 28 "LanternWalkModel" "step" "[I").before args s = true := hts _ (List.mem_of_getElem? (i := 2) rfl)
  have f58 : (Cond.fieldLink RX3 58 "LanternWalkModel" "walkers" "I").before args s = true := hts _ (List.mem_of_getElem? (i := 4) rfl)
  have f41 : (Cond.fieldLink RX3 41 "LanternWalkModel" "went" "[Z").before args s = true := hts _ (List.mem_of_getElem? (i := 5) rfl)
  have f44 : (Cond.fieldLink RX3 44 "LanternWalkModel" "ahead" "[I").before args s = true := hts _ (List.mem_of_getElem? (i := 6) rfl)
  have f38 : (Cond.fieldLink RX3 38 "LanternWalkModel" "through" "[I").before args s = true := hts _ (List.mem_of_getElem? (i := 3) rfl)
  refine lv_aload_n hx hb dX3_stepOn_0 rfl (lv_at hl 0 rfl) ?_
  refine lv_iconst (v := nI 2) hx hb dX3_stepOn_1 rfl ?_
  refine roV (As := [.int (nI 2)]) (q0 := 0) (ci := 3) hx hb hml hown hts (c_X3_inState l D cI cZ cL cO a th n nw ns σ η H (nI 2) (hB)) (cwV 1 hts gX3_stepOn_X3_inState rfl rfl rfl (by decide +kernel) ⟨by decide, by decide⟩) hK hE hP rfl rfl rfl rfl hl.1 rfl (Nat.le_of_ble_eq_true rfl) hS dX3_stepOn_2 ⟨Nat.zero_le _, Nat.zero_le _⟩ (fun locs hS => ?_)
  refine lv_istore_n (lv' := [(1, .int (nI (hm σ nw (nI 2)))), (0, .ref (a 0))]) hx hb dX3_stepOn_5 rfl hl (by decide) rfl (fun ls hl => ?_)
  refine lv_aload_n hx hb dX3_stepOn_6 rfl (lv_at hl 1 rfl) ?_
  refine lv_aload_n hx hb dX3_stepOn_7 rfl (lv_at hl 1 rfl) ?_
  refine li_gf3 hx hb hX3 hown hK hP 0 rfl 4 (by decide) f16 rfl dX3_stepOn_8 ?_
  refine lv_aload_n hx hb dX3_stepOn_11 rfl (lv_at hl 1 rfl) ?_
  refine li_gf3 hx hb hX3 hown hK hP 0 rfl 10 (by decide) f28 rfl dX3_stepOn_12 ?_
  refine lv_iconst (v := nI 0) hx hb dX3_stepOn_15 rfl ?_
  refine li_ild hx hb hK hP 7 0 rfl rfl (by omega) (by decide) dX3_stepOn_16 ?_
  refine li_topi (show σ 17 0 = nI t from hok.2.2) ?_
  refine lv_bipush (v := nI 10) hx hb dX3_stepOn_17 rfl ?_
  refine lv_irem hx hb dX3_stepOn_19 (by decide) ?_
  refine li_topi (show (nI t) - (nI t) / (nI 10) * (nI 10) = nI (t % 10) from pk_rem ht (by decide) (by decide)) ?_
  have hwd : windOf σ = σ 3 (t % 10) := by unfold windOf; rw [hok.2.2, nN_nI ht]
  refine li_ild hx hb hK hP 3 0 rfl rfl (by omega) (by decide) dX3_stepOn_20 ?_
  refine li_topi (show σ 3 (t % 10) = windOf σ from hwd.symm) ?_
  refine muV (As := [.int (windOf σ)]) (q0 := 0) (ci := 3) hx hb hml hown hts (c_X3_burn l D cI cZ cL cO a th n nw ns σ η H (windOf σ) A hA (hB) (hok.1) (by assumption)) (cwV 1 hts gX3_stepOn_X3_burn rfl rfl rfl (by decide +kernel) ⟨by decide, by decide⟩) hK hE hP rfl rfl rfl rfl hl.1 rfl (Nat.le_of_ble_eq_true rfl) hS (fun _ h => h) dX3_stepOn_21 ⟨Nat.zero_le _, Nat.zero_le _⟩ (fun G locs hP _ _ hS => ?_)
  have hP : va_P D vwCl (wM cI cZ a th n nw ns (ms1 nw σ η) (me1 nw σ η)) G := hP
  refine lv_aload_n hx hb dX3_stepOn_24 rfl (lv_at hl 1 rfl) ?_
  refine muV (As := []) (q0 := 0) (ci := 3) hx hb hml hown hts (c_X3_sing l D cI cZ cL cO a th n nw ns (ms1 nw σ η) (me1 nw σ η) G A hA (hB)) (cwV 0 hts gX3_stepOn_X3_sing rfl rfl rfl (by decide +kernel) ⟨by decide, by decide⟩) hK hE hP rfl rfl rfl rfl hl.1 rfl (Nat.le_of_ble_eq_true rfl) hS (fun _ h => h) dX3_stepOn_25 ⟨Nat.zero_le _, Nat.zero_le _⟩ (fun G locs hP _ _ hS => ?_)
  have hP : va_P D vwCl (wM cI cZ a th n nw ns (ms2 nw ns σ η) (me2 nw ns σ η)) G := hP
  refine lv_iconst (v := nI 0) hx hb dX3_stepOn_28 rfl ?_
  refine lv_istore_n (lv' := [(2, .int (nI 0)), (1, .int (nI (hm σ nw (nI 2)))), (0, .ref (a 0))]) hx hb dX3_stepOn_29 rfl hl (by decide) rfl (fun ls hl => ?_)
  have L30_1 : ∀ (fuel : Nat) (k : Nat), (10 - k) < fuel → (k ≤ 10) → ∀ (G : Heap) (locs : List Loc), va_P D vwCl (wM cI cZ a th n nw ns (ms2 nw ns σ η) (va_up (me2 nw ns σ η) 2 (cpk (fun _ => nI 0) ((me2 nw ns σ η) 2) k))) G → va_S A H G locs → ∀ (ls : Array Slot), lv_has ls 5 [(2, .int (nI k)), (1, .int (nI (hm σ nw (nI 2)))), (0, .ref (a 0))] → W p l e ({ frames := 5, cells := 0, slots := 0, locals := 111 } : Room) s m args below meth c G locs 0 0 Q (F0 m 30 ls []) := by
    intro fuel
    induction fuel with
    | zero =>
      intro k hfuel
      exact absurd hfuel (Nat.not_lt_zero _)
    | succ fuel ih30 =>
      intro k hfuel30 hk G locs hP hS ls hl
      refine lv_iload_n hx hb dX3_stepOn_30 rfl (lv_at hl 0 rfl) ?_
      refine lv_bipush (v := nI 10) hx hb dX3_stepOn_31 rfl ?_
      refine li_ge (tgt := 49) hx hb dX3_stepOn_33 (by decide) (by first | omega | (have := wa_le (σ := foldN (st1 nw) k (mgF n pl nw ns σ η).1.1) (nw := nw) (z := nI 0); omega)) (by first | omega | (have := wa_le (σ := foldN (st1 nw) k (mgF n pl nw ns σ η).1.1) (nw := nw) (z := nI 0); omega)) (fun c2 => ?_) (fun c2 => ?_)
      · skip
        have hP := va_P_row (q0 := 10) (b := a 10) (cA := cI) (n := 10) (f := (va_up (me2 nw ns σ η) 2 (cpk (fun _ => nI 0) ((me2 nw ns σ η) 2) k)) 2) (g := fun _ => nI 0) hP rfl (fun j hj => by unfold va_up cpk; simp only [if_true]; rw [if_pos (by omega)])
        have hP : va_P D vwCl (wM cI cZ a th n nw ns (ms2 nw ns σ η) (va_up (va_up (me2 nw ns σ η) 2 (cpk (fun _ => nI 0) ((me2 nw ns σ η) 2) k)) 2 (fun _ => nI 0))) G := hP
        have hw9 : va_up (va_up (me2 nw ns σ η) 2 (cpk (fun _ => nI 0) ((me2 nw ns σ η) 2) k)) 2 (fun _ => nI 0) = (thE (ms2 nw ns σ η) (me2 nw ns σ η) (k0 (ms2 nw ns σ η))) := by unfold thE; rw [thr_k0]; funext r; unfold va_up; by_cases q : r = 2; (rw [if_pos q, if_pos q]); (rw [if_neg q, if_neg q, if_neg q])
        have hP : va_P D vwCl (wM cI cZ a th n nw ns (ms2 nw ns σ η) (thE (ms2 nw ns σ η) (me2 nw ns σ η) (k0 (ms2 nw ns σ η)))) G := Eq.mp (congrArg (fun z9 => va_P D vwCl (wM cI cZ a th n nw ns (ms2 nw ns σ η) z9) G) hw9) hP
        clear hw9
        refine lv_iconst (v := nI 0) hx hb dX3_stepOn_49 rfl ?_
        refine lv_istore_n (lv' := [(2, .int (nI 0)), (1, .int (nI (hm σ nw (nI 2)))), (0, .ref (a 0))]) hx hb dX3_stepOn_50 rfl hl (by decide) rfl (fun ls hl => ?_)
        have L51_3 : ∀ (fuel : Nat) (k : Nat), (nw - k) < fuel → (k ≤ nw) → ∀ (G : Heap) (locs : List Loc), va_P D vwCl (wM cI cZ a th n nw ns (dkS (ms2 nw ns σ η) k) (wnE (ms2 nw ns σ η) (thE (ms2 nw ns σ η) (me2 nw ns σ η) (k0 (ms2 nw ns σ η))) k)) G → va_S A H G locs → ∀ (ls : Array Slot), lv_has ls 5 [(2, .int (nI k)), (1, .int (nI (hm σ nw (nI 2)))), (0, .ref (a 0))] → W p l e ({ frames := 5, cells := 0, slots := 0, locals := 111 } : Room) s m args below meth c G locs 0 0 Q (F0 m 51 ls []) := by
          intro fuel
          induction fuel with
          | zero =>
            intro k hfuel
            exact absurd hfuel (Nat.not_lt_zero _)
          | succ fuel ih51 =>
            intro k hfuel51 hk G locs hP hS ls hl
            refine lv_iload_n hx hb dX3_stepOn_51 rfl (lv_at hl 0 rfl) ?_
            refine lv_aload_n hx hb dX3_stepOn_52 rfl (lv_at hl 2 rfl) ?_
            refine li_gf3 hx hb hX3 hown hK hP 0 rfl 5 (by decide) f58 rfl dX3_stepOn_53 ?_
            refine li_ge (tgt := 129) hx hb dX3_stepOn_56 (by decide) (by first | omega | (have := wa_le (σ := foldN (st1 nw) k (mgF n pl nw ns σ η).1.1) (nw := nw) (z := nI 0); omega)) (by first | omega | (have := wa_le (σ := foldN (st1 nw) k (mgF n pl nw ns σ η).1.1) (nw := nw) (z := nI 0); omega)) (fun c4 => ?_) (fun c4 => ?_)
            · skip
              refine lv_iconst (v := nI 0) hx hb dX3_stepOn_129 rfl ?_
              refine lv_istore_n (lv' := [(2, .int (nI 0)), (1, .int (nI (hm σ nw (nI 2)))), (0, .ref (a 0))]) hx hb dX3_stepOn_130 rfl hl (by decide) rfl (fun ls hl => ?_)
              have L131_5 : ∀ (fuel : Nat) (k : Nat) (s9 : Sg) (k9 : Sg) (wt : Nat → Int32), (nw - k) < fuel → (k ≤ nw) → (gI n pl nw (ms2 nw ns σ η) s9 k9 wt) → (mgo n pl nw ((me3 nw ns σ η) 4) (nw - k) (s9, k9) wt = mgF n pl nw ns σ η) → ∀ (G : Heap) (locs : List Loc), va_P D vwCl (wM cI cZ a th n nw ns s9 (tuE (ms2 nw ns σ η) (me3 nw ns σ η) k9 wt)) G → va_S A H G locs → ∀ (ls : Array Slot), lv_has ls 5 [(2, .int (nI k)), (1, .int (nI (hm σ nw (nI 2)))), (0, .ref (a 0))] → W p l e ({ frames := 5, cells := 0, slots := 0, locals := 111 } : Room) s m args below meth c G locs 0 0 Q (F0 m 131 ls []) := by
                intro fuel
                induction fuel with
                | zero =>
                  intro k s9 k9 wt hfuel
                  exact absurd hfuel (Nat.not_lt_zero _)
                | succ fuel ih131 =>
                  intro k s9 k9 wt hfuel131 hk hgI hM G locs hP hS ls hl
                  refine lv_iload_n hx hb dX3_stepOn_131 rfl (lv_at hl 0 rfl) ?_
                  refine lv_aload_n hx hb dX3_stepOn_132 rfl (lv_at hl 2 rfl) ?_
                  refine li_gf3 hx hb hX3 hown hK hP 0 rfl 5 (by decide) f58 rfl dX3_stepOn_133 ?_
                  refine li_ge (tgt := 219) hx hb dX3_stepOn_136 (by decide) (by first | omega | (have := wa_le (σ := foldN (st1 nw) k (mgF n pl nw ns σ η).1.1) (nw := nw) (z := nI 0); omega)) (by first | omega | (have := wa_le (σ := foldN (st1 nw) k (mgF n pl nw ns σ η).1.1) (nw := nw) (z := nI 0); omega)) (fun c6 => ?_) (fun c6 => ?_)
                  · have hMf : mgF n pl nw ns σ η = ((s9, k9), wt) := by rw [← hM, show nw - k = 0 by omega]; rfl
                    refine lv_iconst (v := nI 0) hx hb dX3_stepOn_219 rfl ?_
                    refine lv_istore_n (lv' := [(2, .int (nI 0)), (1, .int (nI (hm σ nw (nI 2)))), (0, .ref (a 0))]) hx hb dX3_stepOn_220 rfl hl (by decide) rfl (fun ls hl => ?_)
                    have L221_7 : ∀ (fuel : Nat) (k : Nat), (nw - k) < fuel → (k ≤ nw) → ∀ (G : Heap) (locs : List Loc), va_P D vwCl (wM cI cZ a th n nw ns (foldN (st1 nw) k (mgF n pl nw ns σ η).1.1) (tuE (ms2 nw ns σ η) (me3 nw ns σ η) (mgF n pl nw ns σ η).1.2 (mgF n pl nw ns σ η).2)) G → va_S A H G locs → ∀ (ls : Array Slot), lv_has ls 5 [(2, .int (nI k)), (1, .int (nI (hm σ nw (nI 2)))), (0, .ref (a 0))] → W p l e ({ frames := 5, cells := 0, slots := 0, locals := 111 } : Room) s m args below meth c G locs 0 0 Q (F0 m 221 ls []) := by
                      intro fuel
                      induction fuel with
                      | zero =>
                        intro k hfuel
                        exact absurd hfuel (Nat.not_lt_zero _)
                      | succ fuel ih221 =>
                        intro k hfuel221 hk G locs hP hS ls hl
                        refine lv_iload_n hx hb dX3_stepOn_221 rfl (lv_at hl 0 rfl) ?_
                        refine lv_aload_n hx hb dX3_stepOn_222 rfl (lv_at hl 2 rfl) ?_
                        refine li_gf3 hx hb hX3 hown hK hP 0 rfl 5 (by decide) f58 rfl dX3_stepOn_223 ?_
                        refine li_ge (tgt := 270) hx hb dX3_stepOn_226 (by decide) (by first | omega | (have := wa_le (σ := foldN (st1 nw) k (mgF n pl nw ns σ η).1.1) (nw := nw) (z := nI 0); omega)) (by first | omega | (have := wa_le (σ := foldN (st1 nw) k (mgF n pl nw ns σ η).1.1) (nw := nw) (z := nI 0); omega)) (fun c8 => ?_) (fun c8 => ?_)
                        · skip
                          refine lv_aload_n hx hb dX3_stepOn_270 rfl (lv_at hl 2 rfl) ?_
                          refine li_gf3 hx hb hX3 hown hK hP 0 rfl 10 (by decide) f28 rfl dX3_stepOn_271 ?_
                          refine lv_iconst (v := nI 0) hx hb dX3_stepOn_274 rfl ?_
                          refine lv_dup2_11 hx hb dX3_stepOn_275 rfl rfl ?_
                          refine li_ild hx hb hK hP 7 0 rfl rfl (by omega) (by decide) dX3_stepOn_276 ?_
                          refine lv_iconst (v := nI 1) hx hb dX3_stepOn_277 rfl ?_
                          refine lv_iadd hx hb dX3_stepOn_278 ?_
                          refine li_ist hx hb hK hP hA.DM hS 7 0 rfl rfl (by omega) (by decide) stM_17 dX3_stepOn_279 (fun G locs hP hS => ?_)
                          refine lv_aload_n hx hb dX3_stepOn_280 rfl (lv_at hl 2 rfl) ?_
                          refine lv_iconst (v := nI 2) hx hb dX3_stepOn_281 rfl ?_
                          refine roV (As := [.int (nI 2)]) (q0 := 0) (ci := 3) hx hb hml hown hts (c_X3_inState l D cI cZ cL cO a th n nw ns (up2 (foldN (st1 nw) k (mgF n pl nw ns σ η).1.1) 17 0 (((foldN (st1 nw) k (mgF n pl nw ns σ η).1.1) 17 0) + (nI 1))) (tuE (ms2 nw ns σ η) (me3 nw ns σ η) (mgF n pl nw ns σ η).1.2 (mgF n pl nw ns σ η).2) G (nI 2) (hB)) (cwV 1 hts gX3_stepOn_X3_inState rfl rfl rfl (by decide +kernel) ⟨by decide, by decide⟩) hK hE hP rfl rfl rfl rfl hl.1 rfl (Nat.le_of_ble_eq_true rfl) hS dX3_stepOn_282 ⟨Nat.zero_le _, Nat.zero_le _⟩ (fun locs hS => ?_)
                          refine lv_iload_n hx hb dX3_stepOn_285 rfl (lv_at hl 1 rfl) ?_
                          refine lv_isub hx hb dX3_stepOn_286 ?_
                          refine li_topi (show (nI (hm (up2 (foldN (st1 nw) k (mgF n pl nw ns σ η).1.1) 17 0 (((foldN (st1 nw) k (mgF n pl nw ns σ η).1.1) 17 0) + (nI 1))) nw (nI 2))) - (nI (hm σ nw (nI 2))) = nI (hm (ms5 n pl nw ns σ η) nw (nI 2)) - nI (hm σ nw (nI 2)) from by rw [show k = nw by omega]; rfl) ?_
                          have hw9 : up2 (foldN (st1 nw) k (mgF n pl nw ns σ η).1.1) 17 0 (((foldN (st1 nw) k (mgF n pl nw ns σ η).1.1) 17 0) + (nI 1)) = ms5 n pl nw ns σ η := by rw [show k = nw by omega]; rfl
                          have hP : va_P D vwCl (wM cI cZ a th n nw ns (ms5 n pl nw ns σ η) (tuE (ms2 nw ns σ η) (me3 nw ns σ η) (mgF n pl nw ns σ η).1.2 (mgF n pl nw ns σ η).2)) G := Eq.mp (congrArg (fun z9 => va_P D vwCl (wM cI cZ a th n nw ns z9 (tuE (ms2 nw ns σ η) (me3 nw ns σ η) (mgF n pl nw ns σ η).1.2 (mgF n pl nw ns σ η).2)) G) hw9) hP
                          clear hw9
                          have hw9 : tuE (ms2 nw ns σ η) (me3 nw ns σ η) (mgF n pl nw ns σ η).1.2 (mgF n pl nw ns σ η).2 = me5 n pl nw ns σ η := rfl
                          have hP : va_P D vwCl (wM cI cZ a th n nw ns (ms5 n pl nw ns σ η) (me5 n pl nw ns σ η)) G := Eq.mp (congrArg (fun z9 => va_P D vwCl (wM cI cZ a th n nw ns (ms5 n pl nw ns σ η) z9) G) hw9) hP
                          clear hw9
                          exact hEnd 287 ls G locs dX3_stepOn_287 hP hS
                        · skip
                          refine lv_aload_n hx hb dX3_stepOn_229 rfl (lv_at hl 2 rfl) ?_
                          refine lv_iload_n hx hb dX3_stepOn_230 rfl (lv_at hl 0 rfl) ?_
                          refine lv_iconst (v := nI 4) hx hb dX3_stepOn_231 rfl ?_
                          refine roV (As := [.int (nI k), .int (nI 4)]) (q0 := 0) (ci := 3) hx hb hml hown hts (c_X3_pe l D cI cZ cL cO a th n nw ns (foldN (st1 nw) k (mgF n pl nw ns σ η).1.1) (tuE (ms2 nw ns σ η) (me3 nw ns σ η) (mgF n pl nw ns σ η).1.2 (mgF n pl nw ns σ η).2) G k 4 (hB) (by omega) (by omega)) (cwV 2 hts gX3_stepOn_X3_pe rfl rfl rfl (by decide +kernel) ⟨by decide, by decide⟩) hK hE hP rfl rfl rfl rfl hl.1 rfl (Nat.le_of_ble_eq_true rfl) hS dX3_stepOn_232 ⟨Nat.zero_le _, Nat.zero_le _⟩ (fun locs hS => ?_)
                          refine li_topi (show (foldN (st1 nw) k (mgF n pl nw ns σ η).1.1) (pid 4) k = (foldN (st1 nw) k (mgF n pl nw ns σ η).1.1) 12 k from rfl) ?_
                          refine lv_if_ne (tgt := 264) hx hb dX3_stepOn_235 (by decide) (fun c9 => ?_) (fun c9 => ?_)
                          · skip
                            refine lv_iinc (v := nI (k + 1)) (lv' := [(2, .int (nI (k + 1))), (1, .int (nI (hm σ nw (nI 2)))), (0, .ref (a 0))]) hx hb dX3_stepOn_264 hl (k := 0) rfl (nI_inc _ _) (by decide) rfl (fun ls hl => ?_)
                            refine lv_goto (tgt := 221) hx hb dX3_stepOn_267 (by decide) ?_
                            have hw9 : foldN (st1 nw) k (mgF n pl nw ns σ η).1.1 = foldN (st1 nw) (k + 1) (mgF n pl nw ns σ η).1.1 := by first | exact (st1_0 (by assumption)).symm | exact (st1_2 (by omega)).symm | exact (st1_a (by assumption) (by omega)).symm
                            have hP : va_P D vwCl (wM cI cZ a th n nw ns (foldN (st1 nw) (k + 1) (mgF n pl nw ns σ η).1.1) (tuE (ms2 nw ns σ η) (me3 nw ns σ η) (mgF n pl nw ns σ η).1.2 (mgF n pl nw ns σ η).2)) G := Eq.mp (congrArg (fun z9 => va_P D vwCl (wM cI cZ a th n nw ns z9 (tuE (ms2 nw ns σ η) (me3 nw ns σ η) (mgF n pl nw ns σ η).1.2 (mgF n pl nw ns σ η).2)) G) hw9) hP
                            clear hw9
                            have hl9 : lv_has ls 5 [(2, .int (nI (k + 1))), (1, .int (nI (hm σ nw (nI 2)))), (0, .ref (a 0))] := lv_sub hl [0, 1, 2] rfl
                            exact ih221 (k + 1) (by omega) (by omega) G locs hP hS ls hl9
                          · skip
                            refine lv_aload_n hx hb dX3_stepOn_238 rfl (lv_at hl 2 rfl) ?_
                            refine lv_iconst (v := nI 0) hx hb dX3_stepOn_239 rfl ?_
                            refine roV (As := [.int (nI 0)]) (q0 := 0) (ci := 3) hx hb hml hown hts (c_X3_at l D cI cZ cL cO a th n nw ns (foldN (st1 nw) k (mgF n pl nw ns σ η).1.1) (tuE (ms2 nw ns σ η) (me3 nw ns σ η) (mgF n pl nw ns σ η).1.2 (mgF n pl nw ns σ η).2) G (nI 0) (hB)) (cwV 1 hts gX3_stepOn_X3_at rfl rfl rfl (by decide +kernel) ⟨by decide, by decide⟩) hK hE hP rfl rfl rfl rfl hl.1 rfl (Nat.le_of_ble_eq_true rfl) hS dX3_stepOn_240 ⟨Nat.zero_le _, Nat.zero_le _⟩ (fun locs hS => ?_)
                            refine lv_iconst (v := nI 1) hx hb dX3_stepOn_243 rfl ?_
                            refine li_le (tgt := 250) hx hb dX3_stepOn_244 (by decide) (by first | omega | (have := wa_le (σ := foldN (st1 nw) k (mgF n pl nw ns σ η).1.1) (nw := nw) (z := nI 0); omega)) (by first | omega | (have := wa_le (σ := foldN (st1 nw) k (mgF n pl nw ns σ η).1.1) (nw := nw) (z := nI 0); omega)) (fun c10 => ?_) (fun c10 => ?_)
                            · skip
                              refine lv_aload_n hx hb dX3_stepOn_250 rfl (lv_at hl 2 rfl) ?_
                              refine lv_iload_n hx hb dX3_stepOn_251 rfl (lv_at hl 0 rfl) ?_
                              refine lv_iconst (v := nI 4) hx hb dX3_stepOn_252 rfl ?_
                              refine lv_iconst (v := nI 1) hx hb dX3_stepOn_253 rfl ?_
                              refine muV (As := [.int (nI k), .int (nI 4), .int (nI 1)]) (q0 := 0) (ci := 3) hx hb hml hown hts (c_X3_set l D cI cZ cL cO a th n nw ns (foldN (st1 nw) k (mgF n pl nw ns σ η).1.1) (tuE (ms2 nw ns σ η) (me3 nw ns σ η) (mgF n pl nw ns σ η).1.2 (mgF n pl nw ns σ η).2) G k 4 (nI 1) A hA (hB) (by omega) (by omega)) (cwV 3 hts gX3_stepOn_X3_set rfl rfl rfl (by decide +kernel) ⟨by decide, by decide⟩) hK hE hP rfl rfl rfl rfl hl.1 rfl (Nat.le_of_ble_eq_true rfl) hS (fun _ h => h) dX3_stepOn_254 ⟨Nat.zero_le _, Nat.zero_le _⟩ (fun G locs hP _ _ hS => ?_)
                              have hP : va_P D vwCl (wM cI cZ a th n nw ns (up2 (foldN (st1 nw) k (mgF n pl nw ns σ η).1.1) 12 k (nI 1)) (tuE (ms2 nw ns σ η) (me3 nw ns σ η) (mgF n pl nw ns σ η).1.2 (mgF n pl nw ns σ η).2)) G := hP
                              refine lv_aload_n hx hb dX3_stepOn_257 rfl (lv_at hl 2 rfl) ?_
                              refine lv_iload_n hx hb dX3_stepOn_258 rfl (lv_at hl 0 rfl) ?_
                              refine lv_iconst (v := nI 5) hx hb dX3_stepOn_259 rfl ?_
                              refine lv_iconst (v := nI 0) hx hb dX3_stepOn_260 rfl ?_
                              refine muV (As := [.int (nI k), .int (nI 5), .int (nI 0)]) (q0 := 0) (ci := 3) hx hb hml hown hts (c_X3_set l D cI cZ cL cO a th n nw ns (up2 (foldN (st1 nw) k (mgF n pl nw ns σ η).1.1) 12 k (nI 1)) (tuE (ms2 nw ns σ η) (me3 nw ns σ η) (mgF n pl nw ns σ η).1.2 (mgF n pl nw ns σ η).2) G k 5 (nI 0) A hA (hB) (by omega) (by omega)) (cwV 3 hts gX3_stepOn_X3_set rfl rfl rfl (by decide +kernel) ⟨by decide, by decide⟩) hK hE hP rfl rfl rfl rfl hl.1 rfl (Nat.le_of_ble_eq_true rfl) hS (fun _ h => h) dX3_stepOn_261 ⟨Nat.zero_le _, Nat.zero_le _⟩ (fun G locs hP _ _ hS => ?_)
                              have hP : va_P D vwCl (wM cI cZ a th n nw ns (up2 (up2 (foldN (st1 nw) k (mgF n pl nw ns σ η).1.1) 12 k (nI 1)) 13 k (nI 0)) (tuE (ms2 nw ns σ η) (me3 nw ns σ η) (mgF n pl nw ns σ η).1.2 (mgF n pl nw ns σ η).2)) G := hP
                              refine lv_iinc (v := nI (k + 1)) (lv' := [(2, .int (nI (k + 1))), (1, .int (nI (hm σ nw (nI 2)))), (0, .ref (a 0))]) hx hb dX3_stepOn_264 hl (k := 0) rfl (nI_inc _ _) (by decide) rfl (fun ls hl => ?_)
                              refine lv_goto (tgt := 221) hx hb dX3_stepOn_267 (by decide) ?_
                              have hw9 : up2 (up2 (foldN (st1 nw) k (mgF n pl nw ns σ η).1.1) 12 k (nI 1)) 13 k (nI 0) = foldN (st1 nw) (k + 1) (mgF n pl nw ns σ η).1.1 := by first | exact (st1_0 (by assumption)).symm | exact (st1_2 (by omega)).symm | exact (st1_a (by assumption) (by omega)).symm
                              have hP : va_P D vwCl (wM cI cZ a th n nw ns (foldN (st1 nw) (k + 1) (mgF n pl nw ns σ η).1.1) (tuE (ms2 nw ns σ η) (me3 nw ns σ η) (mgF n pl nw ns σ η).1.2 (mgF n pl nw ns σ η).2)) G := Eq.mp (congrArg (fun z9 => va_P D vwCl (wM cI cZ a th n nw ns z9 (tuE (ms2 nw ns σ η) (me3 nw ns σ η) (mgF n pl nw ns σ η).1.2 (mgF n pl nw ns σ η).2)) G) hw9) hP
                              clear hw9
                              have hl9 : lv_has ls 5 [(2, .int (nI (k + 1))), (1, .int (nI (hm σ nw (nI 2)))), (0, .ref (a 0))] := lv_sub hl [0, 1, 2] rfl
                              exact ih221 (k + 1) (by omega) (by omega) G locs hP hS ls hl9
                            · skip
                              refine lv_goto (tgt := 264) hx hb dX3_stepOn_247 (by decide) ?_
                              refine lv_iinc (v := nI (k + 1)) (lv' := [(2, .int (nI (k + 1))), (1, .int (nI (hm σ nw (nI 2)))), (0, .ref (a 0))]) hx hb dX3_stepOn_264 hl (k := 0) rfl (nI_inc _ _) (by decide) rfl (fun ls hl => ?_)
                              refine lv_goto (tgt := 221) hx hb dX3_stepOn_267 (by decide) ?_
                              have hw9 : foldN (st1 nw) k (mgF n pl nw ns σ η).1.1 = foldN (st1 nw) (k + 1) (mgF n pl nw ns σ η).1.1 := by first | exact (st1_0 (by assumption)).symm | exact (st1_2 (by omega)).symm | exact (st1_a (by assumption) (by omega)).symm
                              have hP : va_P D vwCl (wM cI cZ a th n nw ns (foldN (st1 nw) (k + 1) (mgF n pl nw ns σ η).1.1) (tuE (ms2 nw ns σ η) (me3 nw ns σ η) (mgF n pl nw ns σ η).1.2 (mgF n pl nw ns σ η).2)) G := Eq.mp (congrArg (fun z9 => va_P D vwCl (wM cI cZ a th n nw ns z9 (tuE (ms2 nw ns σ η) (me3 nw ns σ η) (mgF n pl nw ns σ η).1.2 (mgF n pl nw ns σ η).2)) G) hw9) hP
                              clear hw9
                              have hl9 : lv_has ls 5 [(2, .int (nI (k + 1))), (1, .int (nI (hm σ nw (nI 2)))), (0, .ref (a 0))] := lv_sub hl [0, 1, 2] rfl
                              exact ih221 (k + 1) (by omega) (by omega) G locs hP hS ls hl9
                    have hw9 : s9 = foldN (st1 nw) 0 (mgF n pl nw ns σ η).1.1 := by rw [hMf]; rfl
                    have hP : va_P D vwCl (wM cI cZ a th n nw ns (foldN (st1 nw) 0 (mgF n pl nw ns σ η).1.1) (tuE (ms2 nw ns σ η) (me3 nw ns σ η) k9 wt)) G := Eq.mp (congrArg (fun z9 => va_P D vwCl (wM cI cZ a th n nw ns z9 (tuE (ms2 nw ns σ η) (me3 nw ns σ η) k9 wt)) G) hw9) hP
                    clear hw9
                    have hw9 : tuE (ms2 nw ns σ η) (me3 nw ns σ η) k9 wt = tuE (ms2 nw ns σ η) (me3 nw ns σ η) (mgF n pl nw ns σ η).1.2 (mgF n pl nw ns σ η).2 := by rw [hMf]
                    have hP : va_P D vwCl (wM cI cZ a th n nw ns (foldN (st1 nw) 0 (mgF n pl nw ns σ η).1.1) (tuE (ms2 nw ns σ η) (me3 nw ns σ η) (mgF n pl nw ns σ η).1.2 (mgF n pl nw ns σ η).2)) G := Eq.mp (congrArg (fun z9 => va_P D vwCl (wM cI cZ a th n nw ns (foldN (st1 nw) 0 (mgF n pl nw ns σ η).1.1) z9) G) hw9) hP
                    clear hw9
                    have hl9 : lv_has ls 5 [(2, .int (nI 0)), (1, .int (nI (hm σ nw (nI 2)))), (0, .ref (a 0))] := lv_sub hl [0, 1, 2] rfl
                    exact L221_7 ((nw - 0) + 1) 0 (Nat.lt_succ_self _) (by omega) G locs hP hS ls hl9
                  · skip
                    refine lv_iconst (v := (-1)) hx hb dX3_stepOn_139 rfl ?_
                    refine lv_istore_n (lv' := [(3, .int (-1)), (2, .int (nI k)), (1, .int (nI (hm σ nw (nI 2)))), (0, .ref (a 0))]) hx hb dX3_stepOn_140 rfl hl (by decide) rfl (fun ls hl => ?_)
                    refine lv_iconst (v := nI 0) hx hb dX3_stepOn_141 rfl ?_
                    refine lv_istore (lv' := [(4, .int (nI 0)), (3, .int (-1)), (2, .int (nI k)), (1, .int (nI (hm σ nw (nI 2)))), (0, .ref (a 0))]) hx hb dX3_stepOn_142 hl (by decide) rfl (fun ls hl => ?_)
                    have L144_11 : ∀ (fuel : Nat) (o9 : Nat), (nw - o9) < fuel → (o9 ≤ nw) → ∀ (G : Heap) (locs : List Loc), va_P D vwCl (wM cI cZ a th n nw ns s9 (tuE (ms2 nw ns σ η) (me3 nw ns σ η) k9 wt)) G → va_S A H G locs → ∀ (ls : Array Slot), lv_has ls 5 [(4, .int (nI o9)), (3, .int (oI (mf wt ((me3 nw ns σ η) 4) o9))), (2, .int (nI k)), (1, .int (nI (hm σ nw (nI 2)))), (0, .ref (a 0))] → W p l e ({ frames := 5, cells := 0, slots := 0, locals := 111 } : Room) s m args below meth c G locs 0 0 Q (F0 m 144 ls []) := by
                      intro fuel
                      induction fuel with
                      | zero =>
                        intro o9 hfuel
                        exact absurd hfuel (Nat.not_lt_zero _)
                      | succ fuel ih144 =>
                        intro o9 hfuel144 ho G locs hP hS ls hl
                        refine lv_iload hx hb dX3_stepOn_144 (lv_at hl 0 rfl) ?_
                        refine lv_aload_n hx hb dX3_stepOn_146 rfl (lv_at hl 4 rfl) ?_
                        refine li_gf3 hx hb hX3 hown hK hP 0 rfl 5 (by decide) f58 rfl dX3_stepOn_147 ?_
                        refine li_ge (tgt := 193) hx hb dX3_stepOn_150 (by decide) (by first | omega | (have := wa_le (σ := foldN (st1 nw) k (mgF n pl nw ns σ η).1.1) (nw := nw) (z := nI 0); omega)) (by first | omega | (have := wa_le (σ := foldN (st1 nw) k (mgF n pl nw ns σ η).1.1) (nw := nw) (z := nI 0); omega)) (fun c12 => ?_) (fun c12 => ?_)
                        · skip
                          refine lv_iload_n hx hb dX3_stepOn_193 rfl (lv_at hl 1 rfl) ?_
                          refine lv_iconst (v := (-1)) hx hb dX3_stepOn_194 rfl ?_
                          refine lv_icmp_ne (tgt := 201) hx hb dX3_stepOn_195 (by decide) (fun c13 => ?_) (fun c13 => ?_)
                          · skip
                            obtain ⟨j, hlf⟩ := oI_n c13
                            have hj : j < o9 := (mf_lt hlf).1
                            rw [hlf] at hl
                            have hl : lv_has ls 5 [(4, .int (nI o9)), (3, .int (nI j)), (2, .int (nI k)), (1, .int (nI (hm σ nw (nI 2)))), (0, .ref (a 0))] := hl
                            rw [show o9 = nw by omega] at hlf hj
                            have hwk : s9 12 j = nI 1 := hgI.2.2.2 j hj (mf_lt hlf).2
                            have hRS : ∀ r, goK r → r ≠ 10 → r ≠ 11 → r ≠ 14 → r ≠ 16 → s9 r = σ r := fun r h1 h2 h3 h4 h5 => by rw [hgI.1 r h1, dkS_row h4, ms2_rowS h2 h3 h5]
                            have hz9 : bz s9 := bz_row (ms_bz (nw := nw) (x := windOf σ) (η := η) hok.1) (by rw [hgI.1 11 (by unfold goK; omega), dkS_row (by omega), ms2_row (by omega)]; rfl)
                            have hpc9 := hok.2.1 j hj
                            rw [← hRS 4 (by unfold goK; omega) (by omega) (by omega) (by omega) (by omega)] at hpc9
                            have e1 : s9 1 = (ms2 nw ns σ η) 1 := by rw [hgI.1 1 (by unfold goK; omega), dkS_row (by omega)]
                            have e7 : s9 7 = (ms2 nw ns σ η) 7 := by rw [hgI.1 7 (by unfold goK; omega), dkS_row (by omega)]
                            refine lv_aload_n hx hb dX3_stepOn_201 rfl (lv_at hl 4 rfl) ?_
                            refine li_gf3 hx hb hX3 hown hK hP 0 rfl 14 (by decide) f41 rfl dX3_stepOn_202 ?_
                            refine lv_iload_n hx hb dX3_stepOn_205 rfl (lv_at hl 1 rfl) ?_
                            refine lv_iconst (v := nI 1) hx hb dX3_stepOn_206 rfl ?_
                            refine li_zst hx hb hK hP hA.DM hS 11 1 rfl rfl (by omega) (by decide) (rfl) stE_3 dX3_stepOn_207 (fun G locs hP hS => ?_)
                            have hP : va_P D vwCl (wM cI cZ a th n nw ns s9 (tuE (ms2 nw ns σ η) (me3 nw ns σ η) k9 (upd wt j (nI 1)))) G := by rw [← tuE_up]; exact hP
                            refine lv_aload_n hx hb dX3_stepOn_208 rfl (lv_at hl 4 rfl) ?_
                            refine lv_iload_n hx hb dX3_stepOn_209 rfl (lv_at hl 1 rfl) ?_
                            refine muV (As := [.int (nI j)]) (q0 := 0) (ci := 3) hx hb hml hown hts (c_X3_go l D cI cZ cL cO a th n nw ns s9 (tuE (ms2 nw ns σ η) (me3 nw ns σ η) k9 (upd wt j (nI 1))) G j A hA (hB) (pl) (k9) (by omega) (hj) (by rw [show tuE (ms2 nw ns σ η) (me3 nw ns σ η) k9 (upd wt j (nI 1)) 2 = thr (ms2 nw ns σ η) k9 from tuE_2, thr_rows e1 e7]) (RF_rows hRF (hRS 0 (by unfold goK; omega) (by omega) (by omega) (by omega) (by omega)) (hRS 2 (by unfold goK; omega) (by omega) (by omega) (by omega) (by omega))) (hgI.2.1) (hz9) (hpc9) (TH_rows e1 e7 hgI.2.2.1) (by assumption)) (cwV 1 hts gX3_stepOn_X3_go rfl rfl rfl (by decide +kernel) ⟨by decide, by decide⟩) hK hE hP rfl rfl rfl rfl hl.1 rfl (Nat.le_of_ble_eq_true rfl) hS (fun _ h => h) dX3_stepOn_210 ⟨Nat.zero_le _, Nat.zero_le _⟩ (fun G locs hP _ _ hS => ?_)
                            refine lv_iinc (v := nI (k + 1)) (lv' := [(2, .int (nI (k + 1))), (4, .int (nI o9)), (3, .int (nI j)), (1, .int (nI (hm σ nw (nI 2)))), (0, .ref (a 0))]) hx hb dX3_stepOn_213 hl (k := 2) rfl (nI_inc _ _) (by decide) rfl (fun ls hl => ?_)
                            refine lv_goto (tgt := 131) hx hb dX3_stepOn_216 (by decide) ?_
                            have hw9 : (wl n pl nw j (wkP j s9) (true, (s9, k9))).2.1 = ((wl n pl nw j (wkP j s9) (true, (s9, k9))).2.1) := rfl
                            have hP : va_P D vwCl (wM cI cZ a th n nw ns ((wl n pl nw j (wkP j s9) (true, (s9, k9))).2.1) (thE s9 (tuE (ms2 nw ns σ η) (me3 nw ns σ η) k9 (upd wt j (nI 1))) (wl n pl nw j (wkP j s9) (true, (s9, k9))).2.2)) G := Eq.mp (congrArg (fun z9 => va_P D vwCl (wM cI cZ a th n nw ns z9 (thE s9 (tuE (ms2 nw ns σ η) (me3 nw ns σ η) k9 (upd wt j (nI 1))) (wl n pl nw j (wkP j s9) (true, (s9, k9))).2.2)) G) hw9) hP
                            clear hw9
                            have hw9 : thE s9 (tuE (ms2 nw ns σ η) (me3 nw ns σ η) k9 (upd wt j (nI 1))) (wl n pl nw j (wkP j s9) (true, (s9, k9))).2.2 = tuE (ms2 nw ns σ η) (me3 nw ns σ η) ((wl n pl nw j (wkP j s9) (true, (s9, k9))).2.2) (upd wt j (nI 1)) := by rw [thE_rows e1 e7]; exact tuE_th
                            have hP : va_P D vwCl (wM cI cZ a th n nw ns ((wl n pl nw j (wkP j s9) (true, (s9, k9))).2.1) (tuE (ms2 nw ns σ η) (me3 nw ns σ η) ((wl n pl nw j (wkP j s9) (true, (s9, k9))).2.2) (upd wt j (nI 1)))) G := Eq.mp (congrArg (fun z9 => va_P D vwCl (wM cI cZ a th n nw ns ((wl n pl nw j (wkP j s9) (true, (s9, k9))).2.1) z9) G) hw9) hP
                            clear hw9
                            have hl9 : lv_has ls 5 [(2, .int (nI (k + 1))), (1, .int (nI (hm σ nw (nI 2)))), (0, .ref (a 0))] := lv_sub hl [0, 3, 4] rfl
                            exact ih131 (k + 1) ((wl n pl nw j (wkP j s9) (true, (s9, k9))).2.1) ((wl n pl nw j (wkP j s9) (true, (s9, k9))).2.2) (upd wt j (nI 1)) (by omega) (by omega) (gI_step hpl hgI hlf) (by rw [← hM, show nw - k = (nw - (k + 1)) + 1 by omega]; exact (mgo_s (q := (s9, k9)) hlf).symm) G locs hP hS ls hl9
                          · skip
                            have hlf : mf wt ((me3 nw ns σ η) 4) o9 = none := oI_m1 (fun j h => (mf_lt h).1) (n := o9) (by omega) c13
                            rw [show o9 = nw by omega] at hlf
                            have hMf : mgF n pl nw ns σ η = ((s9, k9), wt) := by rw [← hM, show nw - k = (nw - k - 1) + 1 by omega]; exact mgo_n hlf
                            refine lv_goto (tgt := 219) hx hb dX3_stepOn_198 (by decide) ?_
                            refine lv_iconst (v := nI 0) hx hb dX3_stepOn_219 rfl ?_
                            refine lv_istore_n (lv' := [(2, .int (nI 0)), (4, .int (nI o9)), (3, .int (oI (mf wt ((me3 nw ns σ η) 4) o9))), (1, .int (nI (hm σ nw (nI 2)))), (0, .ref (a 0))]) hx hb dX3_stepOn_220 rfl hl (by decide) rfl (fun ls hl => ?_)
                            have L221_14 : ∀ (fuel : Nat) (k : Nat), (nw - k) < fuel → (k ≤ nw) → ∀ (G : Heap) (locs : List Loc), va_P D vwCl (wM cI cZ a th n nw ns (foldN (st1 nw) k (mgF n pl nw ns σ η).1.1) (tuE (ms2 nw ns σ η) (me3 nw ns σ η) (mgF n pl nw ns σ η).1.2 (mgF n pl nw ns σ η).2)) G → va_S A H G locs → ∀ (ls : Array Slot), lv_has ls 5 [(2, .int (nI k)), (1, .int (nI (hm σ nw (nI 2)))), (0, .ref (a 0))] → W p l e ({ frames := 5, cells := 0, slots := 0, locals := 111 } : Room) s m args below meth c G locs 0 0 Q (F0 m 221 ls []) := by
                              intro fuel
                              induction fuel with
                              | zero =>
                                intro k hfuel
                                exact absurd hfuel (Nat.not_lt_zero _)
                              | succ fuel ih221 =>
                                intro k hfuel221 hk G locs hP hS ls hl
                                refine lv_iload_n hx hb dX3_stepOn_221 rfl (lv_at hl 0 rfl) ?_
                                refine lv_aload_n hx hb dX3_stepOn_222 rfl (lv_at hl 2 rfl) ?_
                                refine li_gf3 hx hb hX3 hown hK hP 0 rfl 5 (by decide) f58 rfl dX3_stepOn_223 ?_
                                refine li_ge (tgt := 270) hx hb dX3_stepOn_226 (by decide) (by first | omega | (have := wa_le (σ := foldN (st1 nw) k (mgF n pl nw ns σ η).1.1) (nw := nw) (z := nI 0); omega)) (by first | omega | (have := wa_le (σ := foldN (st1 nw) k (mgF n pl nw ns σ η).1.1) (nw := nw) (z := nI 0); omega)) (fun c15 => ?_) (fun c15 => ?_)
                                · skip
                                  refine lv_aload_n hx hb dX3_stepOn_270 rfl (lv_at hl 2 rfl) ?_
                                  refine li_gf3 hx hb hX3 hown hK hP 0 rfl 10 (by decide) f28 rfl dX3_stepOn_271 ?_
                                  refine lv_iconst (v := nI 0) hx hb dX3_stepOn_274 rfl ?_
                                  refine lv_dup2_11 hx hb dX3_stepOn_275 rfl rfl ?_
                                  refine li_ild hx hb hK hP 7 0 rfl rfl (by omega) (by decide) dX3_stepOn_276 ?_
                                  refine lv_iconst (v := nI 1) hx hb dX3_stepOn_277 rfl ?_
                                  refine lv_iadd hx hb dX3_stepOn_278 ?_
                                  refine li_ist hx hb hK hP hA.DM hS 7 0 rfl rfl (by omega) (by decide) stM_17 dX3_stepOn_279 (fun G locs hP hS => ?_)
                                  refine lv_aload_n hx hb dX3_stepOn_280 rfl (lv_at hl 2 rfl) ?_
                                  refine lv_iconst (v := nI 2) hx hb dX3_stepOn_281 rfl ?_
                                  refine roV (As := [.int (nI 2)]) (q0 := 0) (ci := 3) hx hb hml hown hts (c_X3_inState l D cI cZ cL cO a th n nw ns (up2 (foldN (st1 nw) k (mgF n pl nw ns σ η).1.1) 17 0 (((foldN (st1 nw) k (mgF n pl nw ns σ η).1.1) 17 0) + (nI 1))) (tuE (ms2 nw ns σ η) (me3 nw ns σ η) (mgF n pl nw ns σ η).1.2 (mgF n pl nw ns σ η).2) G (nI 2) (hB)) (cwV 1 hts gX3_stepOn_X3_inState rfl rfl rfl (by decide +kernel) ⟨by decide, by decide⟩) hK hE hP rfl rfl rfl rfl hl.1 rfl (Nat.le_of_ble_eq_true rfl) hS dX3_stepOn_282 ⟨Nat.zero_le _, Nat.zero_le _⟩ (fun locs hS => ?_)
                                  refine lv_iload_n hx hb dX3_stepOn_285 rfl (lv_at hl 1 rfl) ?_
                                  refine lv_isub hx hb dX3_stepOn_286 ?_
                                  refine li_topi (show (nI (hm (up2 (foldN (st1 nw) k (mgF n pl nw ns σ η).1.1) 17 0 (((foldN (st1 nw) k (mgF n pl nw ns σ η).1.1) 17 0) + (nI 1))) nw (nI 2))) - (nI (hm σ nw (nI 2))) = nI (hm (ms5 n pl nw ns σ η) nw (nI 2)) - nI (hm σ nw (nI 2)) from by rw [show k = nw by omega]; rfl) ?_
                                  have hw9 : up2 (foldN (st1 nw) k (mgF n pl nw ns σ η).1.1) 17 0 (((foldN (st1 nw) k (mgF n pl nw ns σ η).1.1) 17 0) + (nI 1)) = ms5 n pl nw ns σ η := by rw [show k = nw by omega]; rfl
                                  have hP : va_P D vwCl (wM cI cZ a th n nw ns (ms5 n pl nw ns σ η) (tuE (ms2 nw ns σ η) (me3 nw ns σ η) (mgF n pl nw ns σ η).1.2 (mgF n pl nw ns σ η).2)) G := Eq.mp (congrArg (fun z9 => va_P D vwCl (wM cI cZ a th n nw ns z9 (tuE (ms2 nw ns σ η) (me3 nw ns σ η) (mgF n pl nw ns σ η).1.2 (mgF n pl nw ns σ η).2)) G) hw9) hP
                                  clear hw9
                                  have hw9 : tuE (ms2 nw ns σ η) (me3 nw ns σ η) (mgF n pl nw ns σ η).1.2 (mgF n pl nw ns σ η).2 = me5 n pl nw ns σ η := rfl
                                  have hP : va_P D vwCl (wM cI cZ a th n nw ns (ms5 n pl nw ns σ η) (me5 n pl nw ns σ η)) G := Eq.mp (congrArg (fun z9 => va_P D vwCl (wM cI cZ a th n nw ns (ms5 n pl nw ns σ η) z9) G) hw9) hP
                                  clear hw9
                                  exact hEnd 287 ls G locs dX3_stepOn_287 hP hS
                                · skip
                                  refine lv_aload_n hx hb dX3_stepOn_229 rfl (lv_at hl 2 rfl) ?_
                                  refine lv_iload_n hx hb dX3_stepOn_230 rfl (lv_at hl 0 rfl) ?_
                                  refine lv_iconst (v := nI 4) hx hb dX3_stepOn_231 rfl ?_
                                  refine roV (As := [.int (nI k), .int (nI 4)]) (q0 := 0) (ci := 3) hx hb hml hown hts (c_X3_pe l D cI cZ cL cO a th n nw ns (foldN (st1 nw) k (mgF n pl nw ns σ η).1.1) (tuE (ms2 nw ns σ η) (me3 nw ns σ η) (mgF n pl nw ns σ η).1.2 (mgF n pl nw ns σ η).2) G k 4 (hB) (by omega) (by omega)) (cwV 2 hts gX3_stepOn_X3_pe rfl rfl rfl (by decide +kernel) ⟨by decide, by decide⟩) hK hE hP rfl rfl rfl rfl hl.1 rfl (Nat.le_of_ble_eq_true rfl) hS dX3_stepOn_232 ⟨Nat.zero_le _, Nat.zero_le _⟩ (fun locs hS => ?_)
                                  refine li_topi (show (foldN (st1 nw) k (mgF n pl nw ns σ η).1.1) (pid 4) k = (foldN (st1 nw) k (mgF n pl nw ns σ η).1.1) 12 k from rfl) ?_
                                  refine lv_if_ne (tgt := 264) hx hb dX3_stepOn_235 (by decide) (fun c16 => ?_) (fun c16 => ?_)
                                  · skip
                                    refine lv_iinc (v := nI (k + 1)) (lv' := [(2, .int (nI (k + 1))), (1, .int (nI (hm σ nw (nI 2)))), (0, .ref (a 0))]) hx hb dX3_stepOn_264 hl (k := 0) rfl (nI_inc _ _) (by decide) rfl (fun ls hl => ?_)
                                    refine lv_goto (tgt := 221) hx hb dX3_stepOn_267 (by decide) ?_
                                    have hw9 : foldN (st1 nw) k (mgF n pl nw ns σ η).1.1 = foldN (st1 nw) (k + 1) (mgF n pl nw ns σ η).1.1 := by first | exact (st1_0 (by assumption)).symm | exact (st1_2 (by omega)).symm | exact (st1_a (by assumption) (by omega)).symm
                                    have hP : va_P D vwCl (wM cI cZ a th n nw ns (foldN (st1 nw) (k + 1) (mgF n pl nw ns σ η).1.1) (tuE (ms2 nw ns σ η) (me3 nw ns σ η) (mgF n pl nw ns σ η).1.2 (mgF n pl nw ns σ η).2)) G := Eq.mp (congrArg (fun z9 => va_P D vwCl (wM cI cZ a th n nw ns z9 (tuE (ms2 nw ns σ η) (me3 nw ns σ η) (mgF n pl nw ns σ η).1.2 (mgF n pl nw ns σ η).2)) G) hw9) hP
                                    clear hw9
                                    have hl9 : lv_has ls 5 [(2, .int (nI (k + 1))), (1, .int (nI (hm σ nw (nI 2)))), (0, .ref (a 0))] := lv_sub hl [0, 1, 2] rfl
                                    exact ih221 (k + 1) (by omega) (by omega) G locs hP hS ls hl9
                                  · skip
                                    refine lv_aload_n hx hb dX3_stepOn_238 rfl (lv_at hl 2 rfl) ?_
                                    refine lv_iconst (v := nI 0) hx hb dX3_stepOn_239 rfl ?_
                                    refine roV (As := [.int (nI 0)]) (q0 := 0) (ci := 3) hx hb hml hown hts (c_X3_at l D cI cZ cL cO a th n nw ns (foldN (st1 nw) k (mgF n pl nw ns σ η).1.1) (tuE (ms2 nw ns σ η) (me3 nw ns σ η) (mgF n pl nw ns σ η).1.2 (mgF n pl nw ns σ η).2) G (nI 0) (hB)) (cwV 1 hts gX3_stepOn_X3_at rfl rfl rfl (by decide +kernel) ⟨by decide, by decide⟩) hK hE hP rfl rfl rfl rfl hl.1 rfl (Nat.le_of_ble_eq_true rfl) hS dX3_stepOn_240 ⟨Nat.zero_le _, Nat.zero_le _⟩ (fun locs hS => ?_)
                                    refine lv_iconst (v := nI 1) hx hb dX3_stepOn_243 rfl ?_
                                    refine li_le (tgt := 250) hx hb dX3_stepOn_244 (by decide) (by first | omega | (have := wa_le (σ := foldN (st1 nw) k (mgF n pl nw ns σ η).1.1) (nw := nw) (z := nI 0); omega)) (by first | omega | (have := wa_le (σ := foldN (st1 nw) k (mgF n pl nw ns σ η).1.1) (nw := nw) (z := nI 0); omega)) (fun c17 => ?_) (fun c17 => ?_)
                                    · skip
                                      refine lv_aload_n hx hb dX3_stepOn_250 rfl (lv_at hl 2 rfl) ?_
                                      refine lv_iload_n hx hb dX3_stepOn_251 rfl (lv_at hl 0 rfl) ?_
                                      refine lv_iconst (v := nI 4) hx hb dX3_stepOn_252 rfl ?_
                                      refine lv_iconst (v := nI 1) hx hb dX3_stepOn_253 rfl ?_
                                      refine muV (As := [.int (nI k), .int (nI 4), .int (nI 1)]) (q0 := 0) (ci := 3) hx hb hml hown hts (c_X3_set l D cI cZ cL cO a th n nw ns (foldN (st1 nw) k (mgF n pl nw ns σ η).1.1) (tuE (ms2 nw ns σ η) (me3 nw ns σ η) (mgF n pl nw ns σ η).1.2 (mgF n pl nw ns σ η).2) G k 4 (nI 1) A hA (hB) (by omega) (by omega)) (cwV 3 hts gX3_stepOn_X3_set rfl rfl rfl (by decide +kernel) ⟨by decide, by decide⟩) hK hE hP rfl rfl rfl rfl hl.1 rfl (Nat.le_of_ble_eq_true rfl) hS (fun _ h => h) dX3_stepOn_254 ⟨Nat.zero_le _, Nat.zero_le _⟩ (fun G locs hP _ _ hS => ?_)
                                      have hP : va_P D vwCl (wM cI cZ a th n nw ns (up2 (foldN (st1 nw) k (mgF n pl nw ns σ η).1.1) 12 k (nI 1)) (tuE (ms2 nw ns σ η) (me3 nw ns σ η) (mgF n pl nw ns σ η).1.2 (mgF n pl nw ns σ η).2)) G := hP
                                      refine lv_aload_n hx hb dX3_stepOn_257 rfl (lv_at hl 2 rfl) ?_
                                      refine lv_iload_n hx hb dX3_stepOn_258 rfl (lv_at hl 0 rfl) ?_
                                      refine lv_iconst (v := nI 5) hx hb dX3_stepOn_259 rfl ?_
                                      refine lv_iconst (v := nI 0) hx hb dX3_stepOn_260 rfl ?_
                                      refine muV (As := [.int (nI k), .int (nI 5), .int (nI 0)]) (q0 := 0) (ci := 3) hx hb hml hown hts (c_X3_set l D cI cZ cL cO a th n nw ns (up2 (foldN (st1 nw) k (mgF n pl nw ns σ η).1.1) 12 k (nI 1)) (tuE (ms2 nw ns σ η) (me3 nw ns σ η) (mgF n pl nw ns σ η).1.2 (mgF n pl nw ns σ η).2) G k 5 (nI 0) A hA (hB) (by omega) (by omega)) (cwV 3 hts gX3_stepOn_X3_set rfl rfl rfl (by decide +kernel) ⟨by decide, by decide⟩) hK hE hP rfl rfl rfl rfl hl.1 rfl (Nat.le_of_ble_eq_true rfl) hS (fun _ h => h) dX3_stepOn_261 ⟨Nat.zero_le _, Nat.zero_le _⟩ (fun G locs hP _ _ hS => ?_)
                                      have hP : va_P D vwCl (wM cI cZ a th n nw ns (up2 (up2 (foldN (st1 nw) k (mgF n pl nw ns σ η).1.1) 12 k (nI 1)) 13 k (nI 0)) (tuE (ms2 nw ns σ η) (me3 nw ns σ η) (mgF n pl nw ns σ η).1.2 (mgF n pl nw ns σ η).2)) G := hP
                                      refine lv_iinc (v := nI (k + 1)) (lv' := [(2, .int (nI (k + 1))), (1, .int (nI (hm σ nw (nI 2)))), (0, .ref (a 0))]) hx hb dX3_stepOn_264 hl (k := 0) rfl (nI_inc _ _) (by decide) rfl (fun ls hl => ?_)
                                      refine lv_goto (tgt := 221) hx hb dX3_stepOn_267 (by decide) ?_
                                      have hw9 : up2 (up2 (foldN (st1 nw) k (mgF n pl nw ns σ η).1.1) 12 k (nI 1)) 13 k (nI 0) = foldN (st1 nw) (k + 1) (mgF n pl nw ns σ η).1.1 := by first | exact (st1_0 (by assumption)).symm | exact (st1_2 (by omega)).symm | exact (st1_a (by assumption) (by omega)).symm
                                      have hP : va_P D vwCl (wM cI cZ a th n nw ns (foldN (st1 nw) (k + 1) (mgF n pl nw ns σ η).1.1) (tuE (ms2 nw ns σ η) (me3 nw ns σ η) (mgF n pl nw ns σ η).1.2 (mgF n pl nw ns σ η).2)) G := Eq.mp (congrArg (fun z9 => va_P D vwCl (wM cI cZ a th n nw ns z9 (tuE (ms2 nw ns σ η) (me3 nw ns σ η) (mgF n pl nw ns σ η).1.2 (mgF n pl nw ns σ η).2)) G) hw9) hP
                                      clear hw9
                                      have hl9 : lv_has ls 5 [(2, .int (nI (k + 1))), (1, .int (nI (hm σ nw (nI 2)))), (0, .ref (a 0))] := lv_sub hl [0, 1, 2] rfl
                                      exact ih221 (k + 1) (by omega) (by omega) G locs hP hS ls hl9
                                    · skip
                                      refine lv_goto (tgt := 264) hx hb dX3_stepOn_247 (by decide) ?_
                                      refine lv_iinc (v := nI (k + 1)) (lv' := [(2, .int (nI (k + 1))), (1, .int (nI (hm σ nw (nI 2)))), (0, .ref (a 0))]) hx hb dX3_stepOn_264 hl (k := 0) rfl (nI_inc _ _) (by decide) rfl (fun ls hl => ?_)
                                      refine lv_goto (tgt := 221) hx hb dX3_stepOn_267 (by decide) ?_
                                      have hw9 : foldN (st1 nw) k (mgF n pl nw ns σ η).1.1 = foldN (st1 nw) (k + 1) (mgF n pl nw ns σ η).1.1 := by first | exact (st1_0 (by assumption)).symm | exact (st1_2 (by omega)).symm | exact (st1_a (by assumption) (by omega)).symm
                                      have hP : va_P D vwCl (wM cI cZ a th n nw ns (foldN (st1 nw) (k + 1) (mgF n pl nw ns σ η).1.1) (tuE (ms2 nw ns σ η) (me3 nw ns σ η) (mgF n pl nw ns σ η).1.2 (mgF n pl nw ns σ η).2)) G := Eq.mp (congrArg (fun z9 => va_P D vwCl (wM cI cZ a th n nw ns z9 (tuE (ms2 nw ns σ η) (me3 nw ns σ η) (mgF n pl nw ns σ η).1.2 (mgF n pl nw ns σ η).2)) G) hw9) hP
                                      clear hw9
                                      have hl9 : lv_has ls 5 [(2, .int (nI (k + 1))), (1, .int (nI (hm σ nw (nI 2)))), (0, .ref (a 0))] := lv_sub hl [0, 1, 2] rfl
                                      exact ih221 (k + 1) (by omega) (by omega) G locs hP hS ls hl9
                            have hw9 : s9 = foldN (st1 nw) 0 (mgF n pl nw ns σ η).1.1 := by rw [hMf]; rfl
                            have hP : va_P D vwCl (wM cI cZ a th n nw ns (foldN (st1 nw) 0 (mgF n pl nw ns σ η).1.1) (tuE (ms2 nw ns σ η) (me3 nw ns σ η) k9 wt)) G := Eq.mp (congrArg (fun z9 => va_P D vwCl (wM cI cZ a th n nw ns z9 (tuE (ms2 nw ns σ η) (me3 nw ns σ η) k9 wt)) G) hw9) hP
                            clear hw9
                            have hw9 : tuE (ms2 nw ns σ η) (me3 nw ns σ η) k9 wt = tuE (ms2 nw ns σ η) (me3 nw ns σ η) (mgF n pl nw ns σ η).1.2 (mgF n pl nw ns σ η).2 := by rw [hMf]
                            have hP : va_P D vwCl (wM cI cZ a th n nw ns (foldN (st1 nw) 0 (mgF n pl nw ns σ η).1.1) (tuE (ms2 nw ns σ η) (me3 nw ns σ η) (mgF n pl nw ns σ η).1.2 (mgF n pl nw ns σ η).2)) G := Eq.mp (congrArg (fun z9 => va_P D vwCl (wM cI cZ a th n nw ns (foldN (st1 nw) 0 (mgF n pl nw ns σ η).1.1) z9) G) hw9) hP
                            clear hw9
                            have hl9 : lv_has ls 5 [(2, .int (nI 0)), (1, .int (nI (hm σ nw (nI 2)))), (0, .ref (a 0))] := lv_sub hl [0, 3, 4] rfl
                            exact L221_14 ((nw - 0) + 1) 0 (Nat.lt_succ_self _) (by omega) G locs hP hS ls hl9
                        · skip
                          refine lv_aload_n hx hb dX3_stepOn_153 rfl (lv_at hl 4 rfl) ?_
                          refine li_gf3 hx hb hX3 hown hK hP 0 rfl 14 (by decide) f41 rfl dX3_stepOn_154 ?_
                          refine lv_iload hx hb dX3_stepOn_157 (lv_at hl 0 rfl) ?_
                          refine li_zld hx hb hK hP 11 1 rfl rfl (by omega) (by decide) dX3_stepOn_159 ?_
                          refine li_topi (show (tuE (ms2 nw ns σ η) (me3 nw ns σ η) k9 wt) 3 o9 = wt o9 from by rw [tuE_3]) ?_
                          refine lv_if_ne (tgt := 187) hx hb dX3_stepOn_160 (by decide) (fun c18 => ?_) (fun c18 => ?_)
                          · skip
                            refine lv_iinc (v := nI (o9 + 1)) (lv' := [(4, .int (nI (o9 + 1))), (3, .int (oI (mf wt ((me3 nw ns σ η) 4) o9))), (2, .int (nI k)), (1, .int (nI (hm σ nw (nI 2)))), (0, .ref (a 0))]) hx hb dX3_stepOn_187 hl (k := 0) rfl (nI_inc _ _) (by decide) rfl (fun ls hl => ?_)
                            refine lv_goto (tgt := 144) hx hb dX3_stepOn_190 (by decide) ?_
                            have hl9 : lv_has ls 5 [(4, .int (nI (o9 + 1))), (3, .int (oI (mf wt ((me3 nw ns σ η) 4) o9))), (2, .int (nI k)), (1, .int (nI (hm σ nw (nI 2)))), (0, .ref (a 0))] := lv_sub hl [0, 1, 2, 3, 4] rfl
                            have hl9 : lv_has ls 5 [(4, .int (nI (o9 + 1))), (3, .int (oI (mf wt ((me3 nw ns σ η) 4) (o9 + 1)))), (2, .int (nI k)), (1, .int (nI (hm σ nw (nI 2)))), (0, .ref (a 0))] := lv_re hl9 1 rfl (show oI (mf wt ((me3 nw ns σ η) 4) o9) = oI (mf wt ((me3 nw ns σ η) 4) (o9 + 1)) from by first | exact congrArg oI (mf_0 (by assumption)).symm | exact (show oI (some o9) = _ from congrArg oI (mf_n (by assumption) hlf).symm) | exact (show oI (some o9) = _ from congrArg oI (mf_k (by assumption) hlf (by assumption)).symm) | exact (show oI (some j) = _ from congrArg oI (mf_j hlf (by assumption)).symm))
                            exact ih144 (o9 + 1) (by omega) (by omega) G locs hP hS ls hl9
                          · skip
                            refine lv_iload_n hx hb dX3_stepOn_163 rfl (lv_at hl 1 rfl) ?_
                            refine lv_iconst (v := (-1)) hx hb dX3_stepOn_164 rfl ?_
                            refine lv_icmp_eq (tgt := 184) hx hb dX3_stepOn_165 (by decide) (fun c19 => ?_) (fun c19 => ?_)
                            · skip
                              have hlf : mf wt ((me3 nw ns σ η) 4) o9 = none := oI_m1 (fun j h => (mf_lt h).1) (n := o9) (by omega) c19
                              refine lv_iload hx hb dX3_stepOn_184 (lv_at hl 0 rfl) ?_
                              refine lv_istore_n (lv' := [(3, .int (nI o9)), (4, .int (nI o9)), (2, .int (nI k)), (1, .int (nI (hm σ nw (nI 2)))), (0, .ref (a 0))]) hx hb dX3_stepOn_186 rfl hl (by decide) rfl (fun ls hl => ?_)
                              refine lv_iinc (v := nI (o9 + 1)) (lv' := [(4, .int (nI (o9 + 1))), (3, .int (nI o9)), (2, .int (nI k)), (1, .int (nI (hm σ nw (nI 2)))), (0, .ref (a 0))]) hx hb dX3_stepOn_187 hl (k := 1) rfl (nI_inc _ _) (by decide) rfl (fun ls hl => ?_)
                              refine lv_goto (tgt := 144) hx hb dX3_stepOn_190 (by decide) ?_
                              have hl9 : lv_has ls 5 [(4, .int (nI (o9 + 1))), (3, .int (nI o9)), (2, .int (nI k)), (1, .int (nI (hm σ nw (nI 2)))), (0, .ref (a 0))] := lv_sub hl [0, 1, 2, 3, 4] rfl
                              have hl9 : lv_has ls 5 [(4, .int (nI (o9 + 1))), (3, .int (oI (mf wt ((me3 nw ns σ η) 4) (o9 + 1)))), (2, .int (nI k)), (1, .int (nI (hm σ nw (nI 2)))), (0, .ref (a 0))] := lv_re hl9 1 rfl (show nI o9 = oI (mf wt ((me3 nw ns σ η) 4) (o9 + 1)) from by first | exact congrArg oI (mf_0 (by assumption)).symm | exact (show oI (some o9) = _ from congrArg oI (mf_n (by assumption) hlf).symm) | exact (show oI (some o9) = _ from congrArg oI (mf_k (by assumption) hlf (by assumption)).symm) | exact (show oI (some j) = _ from congrArg oI (mf_j hlf (by assumption)).symm))
                              exact ih144 (o9 + 1) (by omega) (by omega) G locs hP hS ls hl9
                            · skip
                              obtain ⟨j, hlf⟩ := oI_n c19
                              have hj : j < o9 := (mf_lt hlf).1
                              rw [hlf] at hl
                              have hl : lv_has ls 5 [(4, .int (nI o9)), (3, .int (nI j)), (2, .int (nI k)), (1, .int (nI (hm σ nw (nI 2)))), (0, .ref (a 0))] := hl
                              refine lv_aload_n hx hb dX3_stepOn_168 rfl (lv_at hl 4 rfl) ?_
                              refine li_gf3 hx hb hX3 hown hK hP 0 rfl 15 (by decide) f44 rfl dX3_stepOn_169 ?_
                              refine lv_iload hx hb dX3_stepOn_172 (lv_at hl 0 rfl) ?_
                              refine li_ild hx hb hK hP 12 0 rfl rfl (by omega) (by decide) dX3_stepOn_174 ?_
                              refine li_topi (show (tuE (ms2 nw ns σ η) (me3 nw ns σ η) k9 wt) 4 o9 = ((me3 nw ns σ η) 4) o9 from by rw [tuE_4]) ?_
                              refine lv_aload_n hx hb dX3_stepOn_175 rfl (lv_at hl 4 rfl) ?_
                              refine li_gf3 hx hb hX3 hown hK hP 0 rfl 15 (by decide) f44 rfl dX3_stepOn_176 ?_
                              refine lv_iload_n hx hb dX3_stepOn_179 rfl (lv_at hl 1 rfl) ?_
                              refine li_ild hx hb hK hP 12 0 rfl rfl (by omega) (by decide) dX3_stepOn_180 ?_
                              refine li_topi (show (tuE (ms2 nw ns σ η) (me3 nw ns σ η) k9 wt) 4 j = ((me3 nw ns σ η) 4) j from by rw [tuE_4]) ?_
                              refine lv_icmp_le (tgt := 187) hx hb dX3_stepOn_181 (by decide) (fun c20 => ?_) (fun c20 => ?_)
                              · skip
                                refine lv_iinc (v := nI (o9 + 1)) (lv' := [(4, .int (nI (o9 + 1))), (3, .int (nI j)), (2, .int (nI k)), (1, .int (nI (hm σ nw (nI 2)))), (0, .ref (a 0))]) hx hb dX3_stepOn_187 hl (k := 0) rfl (nI_inc _ _) (by decide) rfl (fun ls hl => ?_)
                                refine lv_goto (tgt := 144) hx hb dX3_stepOn_190 (by decide) ?_
                                have hl9 : lv_has ls 5 [(4, .int (nI (o9 + 1))), (3, .int (nI j)), (2, .int (nI k)), (1, .int (nI (hm σ nw (nI 2)))), (0, .ref (a 0))] := lv_sub hl [0, 1, 2, 3, 4] rfl
                                have hl9 : lv_has ls 5 [(4, .int (nI (o9 + 1))), (3, .int (oI (mf wt ((me3 nw ns σ η) 4) (o9 + 1)))), (2, .int (nI k)), (1, .int (nI (hm σ nw (nI 2)))), (0, .ref (a 0))] := lv_re hl9 1 rfl (show nI j = oI (mf wt ((me3 nw ns σ η) 4) (o9 + 1)) from by first | exact congrArg oI (mf_0 (by assumption)).symm | exact (show oI (some o9) = _ from congrArg oI (mf_n (by assumption) hlf).symm) | exact (show oI (some o9) = _ from congrArg oI (mf_k (by assumption) hlf (by assumption)).symm) | exact (show oI (some j) = _ from congrArg oI (mf_j hlf (by assumption)).symm))
                                exact ih144 (o9 + 1) (by omega) (by omega) G locs hP hS ls hl9
                              · skip
                                refine lv_iload hx hb dX3_stepOn_184 (lv_at hl 0 rfl) ?_
                                refine lv_istore_n (lv' := [(3, .int (nI o9)), (4, .int (nI o9)), (2, .int (nI k)), (1, .int (nI (hm σ nw (nI 2)))), (0, .ref (a 0))]) hx hb dX3_stepOn_186 rfl hl (by decide) rfl (fun ls hl => ?_)
                                refine lv_iinc (v := nI (o9 + 1)) (lv' := [(4, .int (nI (o9 + 1))), (3, .int (nI o9)), (2, .int (nI k)), (1, .int (nI (hm σ nw (nI 2)))), (0, .ref (a 0))]) hx hb dX3_stepOn_187 hl (k := 1) rfl (nI_inc _ _) (by decide) rfl (fun ls hl => ?_)
                                refine lv_goto (tgt := 144) hx hb dX3_stepOn_190 (by decide) ?_
                                have hl9 : lv_has ls 5 [(4, .int (nI (o9 + 1))), (3, .int (nI o9)), (2, .int (nI k)), (1, .int (nI (hm σ nw (nI 2)))), (0, .ref (a 0))] := lv_sub hl [0, 1, 2, 3, 4] rfl
                                have hl9 : lv_has ls 5 [(4, .int (nI (o9 + 1))), (3, .int (oI (mf wt ((me3 nw ns σ η) 4) (o9 + 1)))), (2, .int (nI k)), (1, .int (nI (hm σ nw (nI 2)))), (0, .ref (a 0))] := lv_re hl9 1 rfl (show nI o9 = oI (mf wt ((me3 nw ns σ η) 4) (o9 + 1)) from by first | exact congrArg oI (mf_0 (by assumption)).symm | exact (show oI (some o9) = _ from congrArg oI (mf_n (by assumption) hlf).symm) | exact (show oI (some o9) = _ from congrArg oI (mf_k (by assumption) hlf (by assumption)).symm) | exact (show oI (some j) = _ from congrArg oI (mf_j hlf (by assumption)).symm))
                                exact ih144 (o9 + 1) (by omega) (by omega) G locs hP hS ls hl9
                    have hl9 : lv_has ls 5 [(4, .int (nI 0)), (3, .int (-1)), (2, .int (nI k)), (1, .int (nI (hm σ nw (nI 2)))), (0, .ref (a 0))] := lv_sub hl [0, 1, 2, 3, 4] rfl
                    have hl9 : lv_has ls 5 [(4, .int (nI 0)), (3, .int (oI (mf wt ((me3 nw ns σ η) 4) 0))), (2, .int (nI k)), (1, .int (nI (hm σ nw (nI 2)))), (0, .ref (a 0))] := lv_re hl9 1 rfl (show (-1) = oI (mf wt ((me3 nw ns σ η) 4) 0) from rfl)
                    exact L144_11 ((nw - 0) + 1) 0 (Nat.lt_succ_self _) (by omega) G locs hP hS ls hl9
              have hw9 : dkS (ms2 nw ns σ η) k = (dkS (ms2 nw ns σ η) nw) := by rw [show k = nw by omega]
              have hP : va_P D vwCl (wM cI cZ a th n nw ns (dkS (ms2 nw ns σ η) nw) (wnE (ms2 nw ns σ η) (thE (ms2 nw ns σ η) (me2 nw ns σ η) (k0 (ms2 nw ns σ η))) k)) G := Eq.mp (congrArg (fun z9 => va_P D vwCl (wM cI cZ a th n nw ns z9 (wnE (ms2 nw ns σ η) (thE (ms2 nw ns σ η) (me2 nw ns σ η) (k0 (ms2 nw ns σ η))) k)) G) hw9) hP
              clear hw9
              have hw9 : wnE (ms2 nw ns σ η) (thE (ms2 nw ns σ η) (me2 nw ns σ η) (k0 (ms2 nw ns σ η))) k = tuE (ms2 nw ns σ η) (me3 nw ns σ η) (k0 (ms2 nw ns σ η)) ((me3 nw ns σ η) 3) := by rw [show k = nw by omega]; exact (tuE_id wnE_2).symm
              have hP : va_P D vwCl (wM cI cZ a th n nw ns (dkS (ms2 nw ns σ η) nw) (tuE (ms2 nw ns σ η) (me3 nw ns σ η) (k0 (ms2 nw ns σ η)) ((me3 nw ns σ η) 3))) G := Eq.mp (congrArg (fun z9 => va_P D vwCl (wM cI cZ a th n nw ns (dkS (ms2 nw ns σ η) nw) z9) G) hw9) hP
              clear hw9
              have hl9 : lv_has ls 5 [(2, .int (nI 0)), (1, .int (nI (hm σ nw (nI 2)))), (0, .ref (a 0))] := lv_sub hl [0, 1, 2] rfl
              exact L131_5 ((nw - 0) + 1) 0 (dkS (ms2 nw ns σ η) nw) (k0 (ms2 nw ns σ η)) ((me3 nw ns σ η) 3) (Nat.lt_succ_self _) (by omega) (gI_0 (PB_rows (ms2_rowS (by omega) (by omega) (by omega)) (ms2_rowS (by omega) (by omega) (by omega)) hPB) (LT_rows (ms2_rowS (by omega) (by omega) (by omega)) (ms2_rowS (by omega) (by omega) (by omega)) hLT)) (by rw [Nat.sub_zero]; rfl) G locs hP hS ls hl9
            · skip
              refine lv_aload_n hx hb dX3_stepOn_59 rfl (lv_at hl 2 rfl) ?_
              refine li_gf3 hx hb hX3 hown hK hP 0 rfl 14 (by decide) f41 rfl dX3_stepOn_60 ?_
              refine lv_iload_n hx hb dX3_stepOn_63 rfl (lv_at hl 0 rfl) ?_
              refine lv_aload_n hx hb dX3_stepOn_64 rfl (lv_at hl 2 rfl) ?_
              refine lv_iload_n hx hb dX3_stepOn_65 rfl (lv_at hl 0 rfl) ?_
              refine roV (As := [.int (nI k)]) (q0 := 0) (ci := 3) hx hb hml hown hts (c_X3_walks l D cI cZ cL cO a th n nw ns (dkS (ms2 nw ns σ η) k) (wnE (ms2 nw ns σ η) (thE (ms2 nw ns σ η) (me2 nw ns σ η) (k0 (ms2 nw ns σ η))) k) G k (hB) (by omega)) (cwV 1 hts gX3_stepOn_X3_walks rfl rfl rfl (by decide +kernel) ⟨by decide, by decide⟩) hK hE hP rfl rfl rfl rfl hl.1 rfl (Nat.le_of_ble_eq_true rfl) hS dX3_stepOn_66 ⟨Nat.zero_le _, Nat.zero_le _⟩ (fun locs hS => ?_)
              refine li_topi (show zI (decide ((dkS (ms2 nw ns σ η) k) 12 k = nI 1)) = zI (decide ((ms2 nw ns σ η) 12 k = nI 1)) from by rw [dkS_row (by omega)]) ?_
              refine li_zne (tgt := 76) hx hb dX3_stepOn_69 (by decide) (fun c21 => ?_) (fun c21 => ?_)
              · skip
                replace c21 := of_decide_eq_true c21
                refine lv_iconst (v := nI 0) hx hb dX3_stepOn_76 rfl ?_
                refine li_zst hx hb hK hP hA.DM hS 11 1 rfl rfl (by omega) (by decide) (rfl) stE_3 dX3_stepOn_77 (fun G locs hP hS => ?_)
                refine lv_aload_n hx hb dX3_stepOn_78 rfl (lv_at hl 2 rfl) ?_
                refine li_gf3 hx hb hX3 hown hK hP 0 rfl 15 (by decide) f44 rfl dX3_stepOn_79 ?_
                refine lv_iload_n hx hb dX3_stepOn_82 rfl (lv_at hl 0 rfl) ?_
                refine lv_aload_n hx hb dX3_stepOn_83 rfl (lv_at hl 2 rfl) ?_
                refine lv_iload_n hx hb dX3_stepOn_84 rfl (lv_at hl 0 rfl) ?_
                refine lv_iconst (v := nI 5) hx hb dX3_stepOn_85 rfl ?_
                refine roV (As := [.int (nI k), .int (nI 5)]) (q0 := 0) (ci := 3) hx hb hml hown hts (c_X3_pe l D cI cZ cL cO a th n nw ns (dkS (ms2 nw ns σ η) k) (up2 (wnE (ms2 nw ns σ η) (thE (ms2 nw ns σ η) (me2 nw ns σ η) (k0 (ms2 nw ns σ η))) k) 3 k (nI 0)) G k 5 (hB) (by omega) (by omega)) (cwV 2 hts gX3_stepOn_X3_pe rfl rfl rfl (by decide +kernel) ⟨by decide, by decide⟩) hK hE hP rfl rfl rfl rfl hl.1 rfl (Nat.le_of_ble_eq_true rfl) hS dX3_stepOn_86 ⟨Nat.zero_le _, Nat.zero_le _⟩ (fun locs hS => ?_)
                refine li_topi (show (dkS (ms2 nw ns σ η) k) (pid 5) k = (dkS (ms2 nw ns σ η) k) 13 k from rfl) ?_
                refine li_topi (show (dkS (ms2 nw ns σ η) k) 13 k = (ms2 nw ns σ η) 13 k from by rw [dkS_row (by omega)]) ?_
                refine li_ist hx hb hK hP hA.DM hS 12 0 rfl rfl (by omega) (by decide) stE_4 dX3_stepOn_89 (fun G locs hP hS => ?_)
                refine lv_aload_n hx hb dX3_stepOn_90 rfl (lv_at hl 2 rfl) ?_
                refine lv_iload_n hx hb dX3_stepOn_91 rfl (lv_at hl 0 rfl) ?_
                refine roV (As := [.int (nI k)]) (q0 := 0) (ci := 3) hx hb hml hown hts (c_X3_walks l D cI cZ cL cO a th n nw ns (dkS (ms2 nw ns σ η) k) (up2 (up2 (wnE (ms2 nw ns σ η) (thE (ms2 nw ns σ η) (me2 nw ns σ η) (k0 (ms2 nw ns σ η))) k) 3 k (nI 0)) 4 k ((ms2 nw ns σ η) 13 k)) G k (hB) (by omega)) (cwV 1 hts gX3_stepOn_X3_walks rfl rfl rfl (by decide +kernel) ⟨by decide, by decide⟩) hK hE hP rfl rfl rfl rfl hl.1 rfl (Nat.le_of_ble_eq_true rfl) hS dX3_stepOn_92 ⟨Nat.zero_le _, Nat.zero_le _⟩ (fun locs hS => ?_)
                refine li_topi (show zI (decide ((dkS (ms2 nw ns σ η) k) 12 k = nI 1)) = zI (decide ((ms2 nw ns σ η) 12 k = nI 1)) from by rw [dkS_row (by omega)]) ?_
                refine li_zeq (tgt := 123) hx hb dX3_stepOn_95 (by decide) (fun c22 => ?_) (fun c22 => ?_)
                · skip
                  replace c22 := of_decide_eq_false c22
                  exact absurd c21 c22
                · skip
                  replace c22 := of_decide_eq_true c22
                  refine lv_aload_n hx hb dX3_stepOn_98 rfl (lv_at hl 2 rfl) ?_
                  refine lv_iload_n hx hb dX3_stepOn_99 rfl (lv_at hl 0 rfl) ?_
                  refine lv_iconst (v := nI 3) hx hb dX3_stepOn_100 rfl ?_
                  refine roV (As := [.int (nI k), .int (nI 3)]) (q0 := 0) (ci := 3) hx hb hml hown hts (c_X3_pe l D cI cZ cL cO a th n nw ns (dkS (ms2 nw ns σ η) k) (up2 (up2 (wnE (ms2 nw ns σ η) (thE (ms2 nw ns σ η) (me2 nw ns σ η) (k0 (ms2 nw ns σ η))) k) 3 k (nI 0)) 4 k ((ms2 nw ns σ η) 13 k)) G k 3 (hB) (by omega) (by omega)) (cwV 2 hts gX3_stepOn_X3_pe rfl rfl rfl (by decide +kernel) ⟨by decide, by decide⟩) hK hE hP rfl rfl rfl rfl hl.1 rfl (Nat.le_of_ble_eq_true rfl) hS dX3_stepOn_101 ⟨Nat.zero_le _, Nat.zero_le _⟩ (fun locs hS => ?_)
                  refine li_topi (show (dkS (ms2 nw ns σ η) k) (pid 3) k = (dkS (ms2 nw ns σ η) k) 11 k from rfl) ?_
                  refine li_topi (show (dkS (ms2 nw ns σ η) k) 11 k = (ms2 nw ns σ η) 11 k from by rw [dkS_row (by omega)]) ?_
                  refine lv_if_ne (tgt := 123) hx hb dX3_stepOn_104 (by decide) (fun c23 => ?_) (fun c23 => ?_)
                  · skip
                    refine lv_iinc (v := nI (k + 1)) (lv' := [(2, .int (nI (k + 1))), (1, .int (nI (hm σ nw (nI 2)))), (0, .ref (a 0))]) hx hb dX3_stepOn_123 hl (k := 0) rfl (nI_inc _ _) (by decide) rfl (fun ls hl => ?_)
                    refine lv_goto (tgt := 51) hx hb dX3_stepOn_126 (by decide) ?_
                    have hw9 : dkS (ms2 nw ns σ η) k = dkS (ms2 nw ns σ η) (k + 1) := by first | rfl | exact (dk_0 (by assumption)).symm | exact (dk_1 (by assumption)).symm | exact (dk_a (by assumption) (by assumption)).symm
                    have hP : va_P D vwCl (wM cI cZ a th n nw ns (dkS (ms2 nw ns σ η) (k + 1)) (up2 (up2 (wnE (ms2 nw ns σ η) (thE (ms2 nw ns σ η) (me2 nw ns σ η) (k0 (ms2 nw ns σ η))) k) 3 k (nI 0)) 4 k ((ms2 nw ns σ η) 13 k))) G := Eq.mp (congrArg (fun z9 => va_P D vwCl (wM cI cZ a th n nw ns z9 (up2 (up2 (wnE (ms2 nw ns σ η) (thE (ms2 nw ns σ η) (me2 nw ns σ η) (k0 (ms2 nw ns σ η))) k) 3 k (nI 0)) 4 k ((ms2 nw ns σ η) 13 k))) G) hw9) hP
                    clear hw9
                    have hw9 : up2 (up2 (wnE (ms2 nw ns σ η) (thE (ms2 nw ns σ η) (me2 nw ns σ η) (k0 (ms2 nw ns σ η))) k) 3 k (nI 0)) 4 k ((ms2 nw ns σ η) 13 k) = wnE (ms2 nw ns σ η) (thE (ms2 nw ns σ η) (me2 nw ns σ η) (k0 (ms2 nw ns σ η))) (k + 1) := by first | exact wnE_s (by unfold wtF; rw [if_pos (by assumption)]) rfl | exact wnE_s (by unfold wtF; rw [if_neg (by assumption)]) rfl
                    have hP : va_P D vwCl (wM cI cZ a th n nw ns (dkS (ms2 nw ns σ η) (k + 1)) (wnE (ms2 nw ns σ η) (thE (ms2 nw ns σ η) (me2 nw ns σ η) (k0 (ms2 nw ns σ η))) (k + 1))) G := Eq.mp (congrArg (fun z9 => va_P D vwCl (wM cI cZ a th n nw ns (dkS (ms2 nw ns σ η) (k + 1)) z9) G) hw9) hP
                    clear hw9
                    have hl9 : lv_has ls 5 [(2, .int (nI (k + 1))), (1, .int (nI (hm σ nw (nI 2)))), (0, .ref (a 0))] := lv_sub hl [0, 1, 2] rfl
                    exact ih51 (k + 1) (by omega) (by omega) G locs hP hS ls hl9
                  · skip
                    refine lv_aload_n hx hb dX3_stepOn_107 rfl (lv_at hl 2 rfl) ?_
                    refine lv_iload_n hx hb dX3_stepOn_108 rfl (lv_at hl 0 rfl) ?_
                    refine lv_bipush (v := nI 6) hx hb dX3_stepOn_109 rfl ?_
                    refine lv_aload_n hx hb dX3_stepOn_111 rfl (lv_at hl 2 rfl) ?_
                    refine lv_iload_n hx hb dX3_stepOn_112 rfl (lv_at hl 0 rfl) ?_
                    refine lv_bipush (v := nI 6) hx hb dX3_stepOn_113 rfl ?_
                    refine roV (As := [.int (nI k), .int (nI 6)]) (q0 := 0) (ci := 3) hx hb hml hown hts (c_X3_pe l D cI cZ cL cO a th n nw ns (dkS (ms2 nw ns σ η) k) (up2 (up2 (wnE (ms2 nw ns σ η) (thE (ms2 nw ns σ η) (me2 nw ns σ η) (k0 (ms2 nw ns σ η))) k) 3 k (nI 0)) 4 k ((ms2 nw ns σ η) 13 k)) G k 6 (hB) (by omega) (by omega)) (cwV 2 hts gX3_stepOn_X3_pe rfl rfl rfl (by decide +kernel) ⟨by decide, by decide⟩) hK hE hP rfl rfl rfl rfl hl.1 rfl (Nat.le_of_ble_eq_true rfl) hS dX3_stepOn_115 ⟨Nat.zero_le _, Nat.zero_le _⟩ (fun locs hS => ?_)
                    refine li_topi (show (dkS (ms2 nw ns σ η) k) (pid 6) k = (dkS (ms2 nw ns σ η) k) 14 k from rfl) ?_
                    refine lv_iconst (v := nI 1) hx hb dX3_stepOn_118 rfl ?_
                    refine lv_iadd hx hb dX3_stepOn_119 ?_
                    refine muV (As := [.int (nI k), .int (nI 6), .int (((dkS (ms2 nw ns σ η) k) 14 k) + (nI 1))]) (q0 := 0) (ci := 3) hx hb hml hown hts (c_X3_set l D cI cZ cL cO a th n nw ns (dkS (ms2 nw ns σ η) k) (up2 (up2 (wnE (ms2 nw ns σ η) (thE (ms2 nw ns σ η) (me2 nw ns σ η) (k0 (ms2 nw ns σ η))) k) 3 k (nI 0)) 4 k ((ms2 nw ns σ η) 13 k)) G k 6 (((dkS (ms2 nw ns σ η) k) 14 k) + (nI 1)) A hA (hB) (by omega) (by omega)) (cwV 3 hts gX3_stepOn_X3_set rfl rfl rfl (by decide +kernel) ⟨by decide, by decide⟩) hK hE hP rfl rfl rfl rfl hl.1 rfl (Nat.le_of_ble_eq_true rfl) hS (fun _ h => h) dX3_stepOn_120 ⟨Nat.zero_le _, Nat.zero_le _⟩ (fun G locs hP _ _ hS => ?_)
                    have hP : va_P D vwCl (wM cI cZ a th n nw ns (up2 (dkS (ms2 nw ns σ η) k) 14 k (((dkS (ms2 nw ns σ η) k) 14 k) + (nI 1))) (up2 (up2 (wnE (ms2 nw ns σ η) (thE (ms2 nw ns σ η) (me2 nw ns σ η) (k0 (ms2 nw ns σ η))) k) 3 k (nI 0)) 4 k ((ms2 nw ns σ η) 13 k))) G := hP
                    refine lv_iinc (v := nI (k + 1)) (lv' := [(2, .int (nI (k + 1))), (1, .int (nI (hm σ nw (nI 2)))), (0, .ref (a 0))]) hx hb dX3_stepOn_123 hl (k := 0) rfl (nI_inc _ _) (by decide) rfl (fun ls hl => ?_)
                    refine lv_goto (tgt := 51) hx hb dX3_stepOn_126 (by decide) ?_
                    have hw9 : up2 (dkS (ms2 nw ns σ η) k) 14 k (((dkS (ms2 nw ns σ η) k) 14 k) + (nI 1)) = dkS (ms2 nw ns σ η) (k + 1) := by first | rfl | exact (dk_0 (by assumption)).symm | exact (dk_1 (by assumption)).symm | exact (dk_a (by assumption) (by assumption)).symm
                    have hP : va_P D vwCl (wM cI cZ a th n nw ns (dkS (ms2 nw ns σ η) (k + 1)) (up2 (up2 (wnE (ms2 nw ns σ η) (thE (ms2 nw ns σ η) (me2 nw ns σ η) (k0 (ms2 nw ns σ η))) k) 3 k (nI 0)) 4 k ((ms2 nw ns σ η) 13 k))) G := Eq.mp (congrArg (fun z9 => va_P D vwCl (wM cI cZ a th n nw ns z9 (up2 (up2 (wnE (ms2 nw ns σ η) (thE (ms2 nw ns σ η) (me2 nw ns σ η) (k0 (ms2 nw ns σ η))) k) 3 k (nI 0)) 4 k ((ms2 nw ns σ η) 13 k))) G) hw9) hP
                    clear hw9
                    have hw9 : up2 (up2 (wnE (ms2 nw ns σ η) (thE (ms2 nw ns σ η) (me2 nw ns σ η) (k0 (ms2 nw ns σ η))) k) 3 k (nI 0)) 4 k ((ms2 nw ns σ η) 13 k) = wnE (ms2 nw ns σ η) (thE (ms2 nw ns σ η) (me2 nw ns σ η) (k0 (ms2 nw ns σ η))) (k + 1) := by first | exact wnE_s (by unfold wtF; rw [if_pos (by assumption)]) rfl | exact wnE_s (by unfold wtF; rw [if_neg (by assumption)]) rfl
                    have hP : va_P D vwCl (wM cI cZ a th n nw ns (dkS (ms2 nw ns σ η) (k + 1)) (wnE (ms2 nw ns σ η) (thE (ms2 nw ns σ η) (me2 nw ns σ η) (k0 (ms2 nw ns σ η))) (k + 1))) G := Eq.mp (congrArg (fun z9 => va_P D vwCl (wM cI cZ a th n nw ns (dkS (ms2 nw ns σ η) (k + 1)) z9) G) hw9) hP
                    clear hw9
                    have hl9 : lv_has ls 5 [(2, .int (nI (k + 1))), (1, .int (nI (hm σ nw (nI 2)))), (0, .ref (a 0))] := lv_sub hl [0, 1, 2] rfl
                    exact ih51 (k + 1) (by omega) (by omega) G locs hP hS ls hl9
              · skip
                replace c21 := of_decide_eq_false c21
                refine lv_iconst (v := nI 1) hx hb dX3_stepOn_72 rfl ?_
                refine lv_goto (tgt := 77) hx hb dX3_stepOn_73 (by decide) ?_
                refine li_zst hx hb hK hP hA.DM hS 11 1 rfl rfl (by omega) (by decide) (rfl) stE_3 dX3_stepOn_77 (fun G locs hP hS => ?_)
                refine lv_aload_n hx hb dX3_stepOn_78 rfl (lv_at hl 2 rfl) ?_
                refine li_gf3 hx hb hX3 hown hK hP 0 rfl 15 (by decide) f44 rfl dX3_stepOn_79 ?_
                refine lv_iload_n hx hb dX3_stepOn_82 rfl (lv_at hl 0 rfl) ?_
                refine lv_aload_n hx hb dX3_stepOn_83 rfl (lv_at hl 2 rfl) ?_
                refine lv_iload_n hx hb dX3_stepOn_84 rfl (lv_at hl 0 rfl) ?_
                refine lv_iconst (v := nI 5) hx hb dX3_stepOn_85 rfl ?_
                refine roV (As := [.int (nI k), .int (nI 5)]) (q0 := 0) (ci := 3) hx hb hml hown hts (c_X3_pe l D cI cZ cL cO a th n nw ns (dkS (ms2 nw ns σ η) k) (up2 (wnE (ms2 nw ns σ η) (thE (ms2 nw ns σ η) (me2 nw ns σ η) (k0 (ms2 nw ns σ η))) k) 3 k (nI 1)) G k 5 (hB) (by omega) (by omega)) (cwV 2 hts gX3_stepOn_X3_pe rfl rfl rfl (by decide +kernel) ⟨by decide, by decide⟩) hK hE hP rfl rfl rfl rfl hl.1 rfl (Nat.le_of_ble_eq_true rfl) hS dX3_stepOn_86 ⟨Nat.zero_le _, Nat.zero_le _⟩ (fun locs hS => ?_)
                refine li_topi (show (dkS (ms2 nw ns σ η) k) (pid 5) k = (dkS (ms2 nw ns σ η) k) 13 k from rfl) ?_
                refine li_topi (show (dkS (ms2 nw ns σ η) k) 13 k = (ms2 nw ns σ η) 13 k from by rw [dkS_row (by omega)]) ?_
                refine li_ist hx hb hK hP hA.DM hS 12 0 rfl rfl (by omega) (by decide) stE_4 dX3_stepOn_89 (fun G locs hP hS => ?_)
                refine lv_aload_n hx hb dX3_stepOn_90 rfl (lv_at hl 2 rfl) ?_
                refine lv_iload_n hx hb dX3_stepOn_91 rfl (lv_at hl 0 rfl) ?_
                refine roV (As := [.int (nI k)]) (q0 := 0) (ci := 3) hx hb hml hown hts (c_X3_walks l D cI cZ cL cO a th n nw ns (dkS (ms2 nw ns σ η) k) (up2 (up2 (wnE (ms2 nw ns σ η) (thE (ms2 nw ns σ η) (me2 nw ns σ η) (k0 (ms2 nw ns σ η))) k) 3 k (nI 1)) 4 k ((ms2 nw ns σ η) 13 k)) G k (hB) (by omega)) (cwV 1 hts gX3_stepOn_X3_walks rfl rfl rfl (by decide +kernel) ⟨by decide, by decide⟩) hK hE hP rfl rfl rfl rfl hl.1 rfl (Nat.le_of_ble_eq_true rfl) hS dX3_stepOn_92 ⟨Nat.zero_le _, Nat.zero_le _⟩ (fun locs hS => ?_)
                refine li_topi (show zI (decide ((dkS (ms2 nw ns σ η) k) 12 k = nI 1)) = zI (decide ((ms2 nw ns σ η) 12 k = nI 1)) from by rw [dkS_row (by omega)]) ?_
                refine li_zeq (tgt := 123) hx hb dX3_stepOn_95 (by decide) (fun c24 => ?_) (fun c24 => ?_)
                · skip
                  replace c24 := of_decide_eq_false c24
                  refine lv_iinc (v := nI (k + 1)) (lv' := [(2, .int (nI (k + 1))), (1, .int (nI (hm σ nw (nI 2)))), (0, .ref (a 0))]) hx hb dX3_stepOn_123 hl (k := 0) rfl (nI_inc _ _) (by decide) rfl (fun ls hl => ?_)
                  refine lv_goto (tgt := 51) hx hb dX3_stepOn_126 (by decide) ?_
                  have hw9 : dkS (ms2 nw ns σ η) k = dkS (ms2 nw ns σ η) (k + 1) := by first | rfl | exact (dk_0 (by assumption)).symm | exact (dk_1 (by assumption)).symm | exact (dk_a (by assumption) (by assumption)).symm
                  have hP : va_P D vwCl (wM cI cZ a th n nw ns (dkS (ms2 nw ns σ η) (k + 1)) (up2 (up2 (wnE (ms2 nw ns σ η) (thE (ms2 nw ns σ η) (me2 nw ns σ η) (k0 (ms2 nw ns σ η))) k) 3 k (nI 1)) 4 k ((ms2 nw ns σ η) 13 k))) G := Eq.mp (congrArg (fun z9 => va_P D vwCl (wM cI cZ a th n nw ns z9 (up2 (up2 (wnE (ms2 nw ns σ η) (thE (ms2 nw ns σ η) (me2 nw ns σ η) (k0 (ms2 nw ns σ η))) k) 3 k (nI 1)) 4 k ((ms2 nw ns σ η) 13 k))) G) hw9) hP
                  clear hw9
                  have hw9 : up2 (up2 (wnE (ms2 nw ns σ η) (thE (ms2 nw ns σ η) (me2 nw ns σ η) (k0 (ms2 nw ns σ η))) k) 3 k (nI 1)) 4 k ((ms2 nw ns σ η) 13 k) = wnE (ms2 nw ns σ η) (thE (ms2 nw ns σ η) (me2 nw ns σ η) (k0 (ms2 nw ns σ η))) (k + 1) := by first | exact wnE_s (by unfold wtF; rw [if_pos (by assumption)]) rfl | exact wnE_s (by unfold wtF; rw [if_neg (by assumption)]) rfl
                  have hP : va_P D vwCl (wM cI cZ a th n nw ns (dkS (ms2 nw ns σ η) (k + 1)) (wnE (ms2 nw ns σ η) (thE (ms2 nw ns σ η) (me2 nw ns σ η) (k0 (ms2 nw ns σ η))) (k + 1))) G := Eq.mp (congrArg (fun z9 => va_P D vwCl (wM cI cZ a th n nw ns (dkS (ms2 nw ns σ η) (k + 1)) z9) G) hw9) hP
                  clear hw9
                  have hl9 : lv_has ls 5 [(2, .int (nI (k + 1))), (1, .int (nI (hm σ nw (nI 2)))), (0, .ref (a 0))] := lv_sub hl [0, 1, 2] rfl
                  exact ih51 (k + 1) (by omega) (by omega) G locs hP hS ls hl9
                · skip
                  replace c24 := of_decide_eq_true c24
                  exact absurd c24 c21
        have hw9 : (ms2 nw ns σ η) = dkS (ms2 nw ns σ η) 0 := rfl
        have hP : va_P D vwCl (wM cI cZ a th n nw ns (dkS (ms2 nw ns σ η) 0) (thE (ms2 nw ns σ η) (me2 nw ns σ η) (k0 (ms2 nw ns σ η)))) G := Eq.mp (congrArg (fun z9 => va_P D vwCl (wM cI cZ a th n nw ns z9 (thE (ms2 nw ns σ η) (me2 nw ns σ η) (k0 (ms2 nw ns σ η)))) G) hw9) hP
        clear hw9
        have hw9 : (thE (ms2 nw ns σ η) (me2 nw ns σ η) (k0 (ms2 nw ns σ η))) = wnE (ms2 nw ns σ η) (thE (ms2 nw ns σ η) (me2 nw ns σ η) (k0 (ms2 nw ns σ η))) 0 := wnE_0.symm
        have hP : va_P D vwCl (wM cI cZ a th n nw ns (dkS (ms2 nw ns σ η) 0) (wnE (ms2 nw ns σ η) (thE (ms2 nw ns σ η) (me2 nw ns σ η) (k0 (ms2 nw ns σ η))) 0)) G := Eq.mp (congrArg (fun z9 => va_P D vwCl (wM cI cZ a th n nw ns (dkS (ms2 nw ns σ η) 0) z9) G) hw9) hP
        clear hw9
        have hl9 : lv_has ls 5 [(2, .int (nI 0)), (1, .int (nI (hm σ nw (nI 2)))), (0, .ref (a 0))] := lv_sub hl [0, 1, 2] rfl
        skip
        exact L51_3 ((nw - 0) + 1) 0 (Nat.lt_succ_self _) (by omega) G locs hP hS ls hl9
      · skip
        refine lv_aload_n hx hb dX3_stepOn_36 rfl (lv_at hl 2 rfl) ?_
        refine li_gf3 hx hb hX3 hown hK hP 0 rfl 13 (by decide) f38 rfl dX3_stepOn_37 ?_
        refine lv_iload_n hx hb dX3_stepOn_40 rfl (lv_at hl 0 rfl) ?_
        refine lv_iconst (v := nI 0) hx hb dX3_stepOn_41 rfl ?_
        refine li_ist hx hb hK hP hA.DM hS 10 0 rfl rfl (by omega) (by decide) stE_2 dX3_stepOn_42 (fun G locs hP hS => ?_)
        refine lv_iinc (v := nI (k + 1)) (lv' := [(2, .int (nI (k + 1))), (1, .int (nI (hm σ nw (nI 2)))), (0, .ref (a 0))]) hx hb dX3_stepOn_43 hl (k := 0) rfl (nI_inc _ _) (by decide) rfl (fun ls hl => ?_)
        refine lv_goto (tgt := 30) hx hb dX3_stepOn_46 (by decide) ?_
        have hw9 : up2 (va_up (me2 nw ns σ η) 2 (cpk (fun _ => nI 0) ((me2 nw ns σ η) 2) k)) 2 k (nI 0) = va_up (me2 nw ns σ η) 2 (cpk (fun _ => nI 0) ((me2 nw ns σ η) 2) (k + 1)) := by funext r i; rw [up2_at]; unfold va_up; by_cases q : r = 2; (subst q; simp only [if_true, true_and]; exact congrFun (cpk_s (fun _ => nI 0) ((me2 nw ns σ η) 2) k) i); (rw [if_neg q, if_neg q, if_neg (fun z => q z.1)])
        have hP : va_P D vwCl (wM cI cZ a th n nw ns (ms2 nw ns σ η) (va_up (me2 nw ns σ η) 2 (cpk (fun _ => nI 0) ((me2 nw ns σ η) 2) (k + 1)))) G := Eq.mp (congrArg (fun z9 => va_P D vwCl (wM cI cZ a th n nw ns (ms2 nw ns σ η) z9) G) hw9) hP
        clear hw9
        have hl9 : lv_has ls 5 [(2, .int (nI (k + 1))), (1, .int (nI (hm σ nw (nI 2)))), (0, .ref (a 0))] := lv_sub hl [0, 1, 2] rfl
        exact ih30 (k + 1) (by omega) (by omega) G locs hP hS ls hl9
  have hw9 : (me2 nw ns σ η) = va_up (me2 nw ns σ η) 2 (cpk (fun _ => nI 0) ((me2 nw ns σ η) 2) 0) := by rw [cpk_0, va_up_id (f := (me2 nw ns σ η)) rfl]
  have hP : va_P D vwCl (wM cI cZ a th n nw ns (ms2 nw ns σ η) (va_up (me2 nw ns σ η) 2 (cpk (fun _ => nI 0) ((me2 nw ns σ η) 2) 0))) G := Eq.mp (congrArg (fun z9 => va_P D vwCl (wM cI cZ a th n nw ns (ms2 nw ns σ η) z9) G) hw9) hP
  clear hw9
  have hl9 : lv_has ls 5 [(2, .int (nI 0)), (1, .int (nI (hm σ nw (nI 2)))), (0, .ref (a 0))] := lv_sub hl [0, 1, 2] rfl
  exact L30_1 ((10 - 0) + 1) 0 (Nat.lt_succ_self _) (by omega) G locs hP hS ls hl9
