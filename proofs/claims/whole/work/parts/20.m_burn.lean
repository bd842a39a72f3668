/-! the model: burning -/
set_option maxHeartbeats 4000000 in
set_option maxRecDepth 100000 in
theorem c_X3_burn (l : Launch) (D : va_G) (cI cZ cL cO : ClassId) (a : Nat → Nat) (th : Int32) (n nw ns : Nat) (σ η : Sg) (H : Heap) (x : Int32) (A : Nat → Prop) (hA : okP A a 13) (hB : n ≤ 10 ∧ nw ≤ 20 ∧ ns ≤ 6) (hz : bz σ) (hwz : wz σ) : Met l yX3_burn wsX3_burn ({ frames := 4, cells := 0, slots := 0, locals := 88 } : Room) (ro_P D (T4 cI cZ cL cO) (wM cI cZ a th n nw ns σ η) H [.ref (a 0), .int x]) (mu_Q D (wM cI cZ a th n nw ns ((leF nw ((boF x nw (bdF x nw σ)), η)).1) (lgE (boF x nw (bdF x nw σ)) nw η nw)) A) 0 0 A := by
  refine mu_of (cc := cX3_burn) (maxL := 4) (by decide) rfl (Nat.le_of_ble_eq_true rfl) ?_
  intro p e s m args below meth c Q ls locs hx hb hml hown hts hK hE hP hl hS hEnd
  have hl : lv_has ls 4 [(0, .ref (a 0)), (1, .int x)] := hl
  have hX3 : ∀ w ∈ wsX30, w.before args s = true := fun w h => hts w (List.mem_cons_of_mem _ (List.mem_append_right _ (h)))
  have f58 : (Cond.fieldLink RX3 58 "LanternWalkModel" "walkers" "I").before args s = true := hts _ (List.mem_of_getElem? (i := 1) rfl)
  have f34 : (Cond.fieldLink RX3 34 "LanternWalkModel" "lights" "[Z").before args s = true := hts _ (List.mem_of_getElem? (i := 6) rfl)
  have g2 : (Cond.methodLink RX3 135 Lib.Math.max.name).before args s = true := hts _ (List.mem_of_getElem? (i := 2) rfl)
  have g3 : (Cond.static Lib.Math.max.name).before args s = true := hts _ (List.mem_of_getElem? (i := 3) rfl)
  have g4 : (Cond.initialized "java/lang/Math").before args s = true := hts _ (List.mem_of_getElem? (i := 4) rfl)
  have g5 : (Cond.code Lib.Math.max.name Lib.Math.max.code 2 (some .int)).before args s = true := hts _ (List.mem_of_getElem? (i := 5) rfl)
  refine lv_iconst (v := nI 0) hx hb dX3_burn_0 rfl ?_
  refine lv_istore_n (lv' := [(2, .int (nI 0)), (0, .ref (a 0)), (1, .int x)]) hx hb dX3_burn_1 rfl hl (by decide) rfl (fun ls hl => ?_)
  have L2_1 : ∀ (fuel : Nat) (k : Nat), (nw - k) < fuel → (k ≤ nw) → ∀ (G : Heap) (locs : List Loc), va_P D vwCl (wM cI cZ a th n nw ns (foldN (bd1 (lossOf x)) k σ) η) G → va_S A H G locs → ∀ (ls : Array Slot), lv_has ls 4 [(2, .int (nI k)), (0, .ref (a 0)), (1, .int x)] → W p l e ({ frames := 4, cells := 0, slots := 0, locals := 88 } : Room) s m args below meth c G locs 0 0 Q (F0 m 2 ls []) := by
    intro fuel
    induction fuel with
    | zero =>
      intro k hfuel
      exact absurd hfuel (Nat.not_lt_zero _)
    | succ fuel ih2 =>
      intro k hfuel2 hk G locs hP hS ls hl
      refine lv_iload_n hx hb dX3_burn_2 rfl (lv_at hl 0 rfl) ?_
      refine lv_aload_n hx hb dX3_burn_3 rfl (lv_at hl 1 rfl) ?_
      refine li_gf3 hx hb hX3 hown hK hP 0 rfl 5 (by decide) f58 rfl dX3_burn_4 ?_
      refine li_ge (tgt := 81) hx hb dX3_burn_7 (by decide) (by first | omega | (have := nb_le (σ := foldN (bo1 nw) k (bdF x nw σ)) (nw := nw) (w := k); omega)) (by first | omega | (have := nb_le (σ := foldN (bo1 nw) k (bdF x nw σ)) (nw := nw) (w := k); omega)) (fun c2 => ?_) (fun c2 => ?_)
      · skip
        refine lv_iconst (v := nI 0) hx hb dX3_burn_81 rfl ?_
        refine lv_istore_n (lv' := [(2, .int (nI 0)), (0, .ref (a 0)), (1, .int x)]) hx hb dX3_burn_82 rfl hl (by decide) rfl (fun ls hl => ?_)
        have L83_3 : ∀ (fuel : Nat) (k : Nat), (nw - k) < fuel → (k ≤ nw) → (k = 0 ∨ nI 8 ≤ x) → ∀ (G : Heap) (locs : List Loc), va_P D vwCl (wM cI cZ a th n nw ns (foldN (bo1 nw) k (bdF x nw σ)) η) G → va_S A H G locs → ∀ (ls : Array Slot), lv_has ls 4 [(2, .int (nI k)), (0, .ref (a 0)), (1, .int x)] → W p l e ({ frames := 4, cells := 0, slots := 0, locals := 88 } : Room) s m args below meth c G locs 0 0 Q (F0 m 83 ls []) := by
          intro fuel
          induction fuel with
          | zero =>
            intro k hfuel
            exact absurd hfuel (Nat.not_lt_zero _)
          | succ fuel ih83 =>
            intro k hfuel83 hk hx9 G locs hP hS ls hl
            refine lv_iload_n hx hb dX3_burn_83 rfl (lv_at hl 0 rfl) ?_
            refine lv_aload_n hx hb dX3_burn_84 rfl (lv_at hl 1 rfl) ?_
            refine li_gf3 hx hb hX3 hown hK hP 0 rfl 5 (by decide) f58 rfl dX3_burn_85 ?_
            refine li_ge (tgt := 127) hx hb dX3_burn_88 (by decide) (by first | omega | (have := nb_le (σ := foldN (bo1 nw) k (bdF x nw σ)) (nw := nw) (w := k); omega)) (by first | omega | (have := nb_le (σ := foldN (bo1 nw) k (bdF x nw σ)) (nw := nw) (w := k); omega)) (fun c4 => ?_) (fun c4 => ?_)
            · skip
              refine lv_iconst (v := nI 0) hx hb dX3_burn_127 rfl ?_
              refine lv_istore_n (lv' := [(2, .int (nI 0)), (0, .ref (a 0)), (1, .int x)]) hx hb dX3_burn_128 rfl hl (by decide) rfl (fun ls hl => ?_)
              have L129_5 : ∀ (fuel : Nat) (k : Nat), (nw - k) < fuel → (k ≤ nw) → ∀ (G : Heap) (locs : List Loc), va_P D vwCl (wM cI cZ a th n nw ns (boF x nw (bdF x nw σ)) (lgE (boF x nw (bdF x nw σ)) nw η k)) G → va_S A H G locs → ∀ (ls : Array Slot), lv_has ls 4 [(2, .int (nI k)), (0, .ref (a 0)), (1, .int x)] → W p l e ({ frames := 4, cells := 0, slots := 0, locals := 88 } : Room) s m args below meth c G locs 0 0 Q (F0 m 129 ls []) := by
                intro fuel
                induction fuel with
                | zero =>
                  intro k hfuel
                  exact absurd hfuel (Nat.not_lt_zero _)
                | succ fuel ih129 =>
                  intro k hfuel129 hk G locs hP hS ls hl
                  refine lv_iload_n hx hb dX3_burn_129 rfl (lv_at hl 0 rfl) ?_
                  refine lv_aload_n hx hb dX3_burn_130 rfl (lv_at hl 1 rfl) ?_
                  refine li_gf3 hx hb hX3 hown hK hP 0 rfl 5 (by decide) f58 rfl dX3_burn_131 ?_
                  refine li_ge (tgt := 225) hx hb dX3_burn_134 (by decide) (by first | omega | (have := nb_le (σ := foldN (bo1 nw) k (bdF x nw σ)) (nw := nw) (w := k); omega)) (by first | omega | (have := nb_le (σ := foldN (bo1 nw) k (bdF x nw σ)) (nw := nw) (w := k); omega)) (fun c6 => ?_) (fun c6 => ?_)
                  · skip
                    refine lv_iconst (v := nI 0) hx hb dX3_burn_225 rfl ?_
                    refine lv_istore_n (lv' := [(2, .int (nI 0)), (0, .ref (a 0)), (1, .int x)]) hx hb dX3_burn_226 rfl hl (by decide) rfl (fun ls hl => ?_)
                    have L227_7 : ∀ (fuel : Nat) (k : Nat), (nw - k) < fuel → (k ≤ nw) → ∀ (G : Heap) (locs : List Loc), va_P D vwCl (wM cI cZ a th n nw ns (foldN (lg1 (boF x nw (bdF x nw σ)) nw) k (boF x nw (bdF x nw σ))) (lgE (boF x nw (bdF x nw σ)) nw η nw)) G → va_S A H G locs → ∀ (ls : Array Slot), lv_has ls 4 [(2, .int (nI k)), (0, .ref (a 0)), (1, .int x)] → W p l e ({ frames := 4, cells := 0, slots := 0, locals := 88 } : Room) s m args below meth c G locs 0 0 Q (F0 m 227 ls []) := by
                      intro fuel
                      induction fuel with
                      | zero =>
                        intro k hfuel
                        exact absurd hfuel (Nat.not_lt_zero _)
                      | succ fuel ih227 =>
                        intro k hfuel227 hk G locs hP hS ls hl
                        refine lv_iload_n hx hb dX3_burn_227 rfl (lv_at hl 0 rfl) ?_
                        refine lv_aload_n hx hb dX3_burn_228 rfl (lv_at hl 1 rfl) ?_
                        refine li_gf3 hx hb hX3 hown hK hP 0 rfl 5 (by decide) f58 rfl dX3_burn_229 ?_
                        refine li_ge (tgt := 257) hx hb dX3_burn_232 (by decide) (by first | omega | (have := nb_le (σ := foldN (bo1 nw) k (bdF x nw σ)) (nw := nw) (w := k); omega)) (by first | omega | (have := nb_le (σ := foldN (bo1 nw) k (bdF x nw σ)) (nw := nw) (w := k); omega)) (fun c8 => ?_) (fun c8 => ?_)
                        · skip
                          have hw9 : foldN (lg1 (boF x nw (bdF x nw σ)) nw) k (boF x nw (bdF x nw σ)) = (leF nw ((boF x nw (bdF x nw σ)), η)).1 := by rw [show k = nw by omega, le_lg (boF_bz (bdF_bz hz)) (wz_row (bdF_wz hwz) (boF_row (by omega)))]
                          have hP : va_P D vwCl (wM cI cZ a th n nw ns ((leF nw ((boF x nw (bdF x nw σ)), η)).1) (lgE (boF x nw (bdF x nw σ)) nw η nw)) G := Eq.mp (congrArg (fun z9 => va_P D vwCl (wM cI cZ a th n nw ns z9 (lgE (boF x nw (bdF x nw σ)) nw η nw)) G) hw9) hP
                          clear hw9
                          exact hEnd 257 ls G locs dX3_burn_257 hP hS
                        · skip
                          refine lv_aload_n hx hb dX3_burn_235 rfl (lv_at hl 1 rfl) ?_
                          refine li_gf3 hx hb hX3 hown hK hP 0 rfl 12 (by decide) f34 rfl dX3_burn_236 ?_
                          refine lv_iload_n hx hb dX3_burn_239 rfl (lv_at hl 0 rfl) ?_
                          refine li_zld hx hb hK hP 9 1 rfl rfl (by omega) (by decide) dX3_burn_240 ?_
                          refine li_topi (show (lgE (boF x nw (bdF x nw σ)) nw η nw) 1 k = zI (lt9 (boF x nw (bdF x nw σ)) nw k) from lgE_at (by omega)) ?_
                          refine li_zeq (tgt := 251) hx hb dX3_burn_241 (by decide) (fun c9 => ?_) (fun c9 => ?_)
                          · skip
                            refine lv_iinc (v := nI (k + 1)) (lv' := [(2, .int (nI (k + 1))), (0, .ref (a 0)), (1, .int x)]) hx hb dX3_burn_251 hl (k := 0) rfl (nI_inc _ _) (by decide) rfl (fun ls hl => ?_)
                            refine lv_goto (tgt := 227) hx hb dX3_burn_254 (by decide) ?_
                            have hw9 : foldN (lg1 (boF x nw (bdF x nw σ)) nw) k (boF x nw (bdF x nw σ)) = foldN (lg1 (boF x nw (bdF x nw σ)) nw) (k + 1) (boF x nw (bdF x nw σ)) := by first | exact (lg1_t (by assumption)).symm | exact (lg1_f (by assumption)).symm
                            have hP : va_P D vwCl (wM cI cZ a th n nw ns (foldN (lg1 (boF x nw (bdF x nw σ)) nw) (k + 1) (boF x nw (bdF x nw σ))) (lgE (boF x nw (bdF x nw σ)) nw η nw)) G := Eq.mp (congrArg (fun z9 => va_P D vwCl (wM cI cZ a th n nw ns z9 (lgE (boF x nw (bdF x nw σ)) nw η nw)) G) hw9) hP
                            clear hw9
                            have hl9 : lv_has ls 4 [(2, .int (nI (k + 1))), (0, .ref (a 0)), (1, .int x)] := lv_sub hl [0, 1, 2] rfl
                            exact ih227 (k + 1) (by omega) (by omega) G locs hP hS ls hl9
                          · skip
                            refine lv_aload_n hx hb dX3_burn_244 rfl (lv_at hl 1 rfl) ?_
                            refine lv_iload_n hx hb dX3_burn_245 rfl (lv_at hl 0 rfl) ?_
                            refine lv_iconst (v := nI 3) hx hb dX3_burn_246 rfl ?_
                            refine lv_iconst (v := nI 1) hx hb dX3_burn_247 rfl ?_
                            refine muV (As := [.int (nI k), .int (nI 3), .int (nI 1)]) (q0 := 0) (ci := 3) hx hb hml hown hts (c_X3_set l D cI cZ cL cO a th n nw ns (foldN (lg1 (boF x nw (bdF x nw σ)) nw) k (boF x nw (bdF x nw σ))) (lgE (boF x nw (bdF x nw σ)) nw η nw) G k 3 (nI 1) A hA (hB) (by omega) (by omega)) (cwV 3 hts gX3_burn_X3_set rfl rfl rfl (by decide +kernel) ⟨by decide, by decide⟩) hK hE hP rfl rfl rfl rfl hl.1 rfl (Nat.le_of_ble_eq_true rfl) hS (fun _ h => h) dX3_burn_248 ⟨Nat.zero_le _, Nat.zero_le _⟩ (fun G locs hP _ _ hS => ?_)
                            have hP : va_P D vwCl (wM cI cZ a th n nw ns (up2 (foldN (lg1 (boF x nw (bdF x nw σ)) nw) k (boF x nw (bdF x nw σ))) 11 k (nI 1)) (lgE (boF x nw (bdF x nw σ)) nw η nw)) G := hP
                            refine lv_iinc (v := nI (k + 1)) (lv' := [(2, .int (nI (k + 1))), (0, .ref (a 0)), (1, .int x)]) hx hb dX3_burn_251 hl (k := 0) rfl (nI_inc _ _) (by decide) rfl (fun ls hl => ?_)
                            refine lv_goto (tgt := 227) hx hb dX3_burn_254 (by decide) ?_
                            have hw9 : up2 (foldN (lg1 (boF x nw (bdF x nw σ)) nw) k (boF x nw (bdF x nw σ))) 11 k (nI 1) = foldN (lg1 (boF x nw (bdF x nw σ)) nw) (k + 1) (boF x nw (bdF x nw σ)) := by first | exact (lg1_t (by assumption)).symm | exact (lg1_f (by assumption)).symm
                            have hP : va_P D vwCl (wM cI cZ a th n nw ns (foldN (lg1 (boF x nw (bdF x nw σ)) nw) (k + 1) (boF x nw (bdF x nw σ))) (lgE (boF x nw (bdF x nw σ)) nw η nw)) G := Eq.mp (congrArg (fun z9 => va_P D vwCl (wM cI cZ a th n nw ns z9 (lgE (boF x nw (bdF x nw σ)) nw η nw)) G) hw9) hP
                            clear hw9
                            have hl9 : lv_has ls 4 [(2, .int (nI (k + 1))), (0, .ref (a 0)), (1, .int x)] := lv_sub hl [0, 1, 2] rfl
                            exact ih227 (k + 1) (by omega) (by omega) G locs hP hS ls hl9
                    have hw9 : (boF x nw (bdF x nw σ)) = foldN (lg1 (boF x nw (bdF x nw σ)) nw) 0 (boF x nw (bdF x nw σ)) := rfl
                    have hP : va_P D vwCl (wM cI cZ a th n nw ns (foldN (lg1 (boF x nw (bdF x nw σ)) nw) 0 (boF x nw (bdF x nw σ))) (lgE (boF x nw (bdF x nw σ)) nw η k)) G := Eq.mp (congrArg (fun z9 => va_P D vwCl (wM cI cZ a th n nw ns z9 (lgE (boF x nw (bdF x nw σ)) nw η k)) G) hw9) hP
                    clear hw9
                    have hw9 : lgE (boF x nw (bdF x nw σ)) nw η k = lgE (boF x nw (bdF x nw σ)) nw η nw := by rw [show k = nw by omega]
                    have hP : va_P D vwCl (wM cI cZ a th n nw ns (foldN (lg1 (boF x nw (bdF x nw σ)) nw) 0 (boF x nw (bdF x nw σ))) (lgE (boF x nw (bdF x nw σ)) nw η nw)) G := Eq.mp (congrArg (fun z9 => va_P D vwCl (wM cI cZ a th n nw ns (foldN (lg1 (boF x nw (bdF x nw σ)) nw) 0 (boF x nw (bdF x nw σ))) z9) G) hw9) hP
                    clear hw9
                    have hl9 : lv_has ls 4 [(2, .int (nI 0)), (0, .ref (a 0)), (1, .int x)] := lv_sub hl [0, 1, 2] rfl
                    exact L227_7 ((nw - 0) + 1) 0 (Nat.lt_succ_self _) (by omega) G locs hP hS ls hl9
                  · skip
                    refine lv_aload_n hx hb dX3_burn_137 rfl (lv_at hl 1 rfl) ?_
                    refine li_gf3 hx hb hX3 hown hK hP 0 rfl 12 (by decide) f34 rfl dX3_burn_138 ?_
                    refine lv_iload_n hx hb dX3_burn_141 rfl (lv_at hl 0 rfl) ?_
                    refine lv_iconst (v := nI 0) hx hb dX3_burn_142 rfl ?_
                    refine li_zst hx hb hK hP hA.DM hS 9 1 rfl rfl (by omega) (by decide) (rfl) stE_1 dX3_burn_143 (fun G locs hP hS => ?_)
                    refine lv_aload_n hx hb dX3_burn_144 rfl (lv_at hl 1 rfl) ?_
                    refine lv_iload_n hx hb dX3_burn_145 rfl (lv_at hl 0 rfl) ?_
                    refine roV (As := [.int (nI k)]) (q0 := 0) (ci := 3) hx hb hml hown hts (c_X3_walks l D cI cZ cL cO a th n nw ns (boF x nw (bdF x nw σ)) (up2 (lgE (boF x nw (bdF x nw σ)) nw η k) 1 k (nI 0)) G k (hB) (by omega)) (cwV 1 hts gX3_burn_X3_walks rfl rfl rfl (by decide +kernel) ⟨by decide, by decide⟩) hK hE hP rfl rfl rfl rfl hl.1 rfl (Nat.le_of_ble_eq_true rfl) hS dX3_burn_146 ⟨Nat.zero_le _, Nat.zero_le _⟩ (fun locs hS => ?_)
                    refine li_zeq (tgt := 219) hx hb dX3_burn_149 (by decide) (fun c10 => ?_) (fun c10 => ?_)
                    · skip
                      replace c10 := of_decide_eq_false c10
                      refine lv_iinc (v := nI (k + 1)) (lv' := [(2, .int (nI (k + 1))), (0, .ref (a 0)), (1, .int x)]) hx hb dX3_burn_219 hl (k := 0) rfl (nI_inc _ _) (by decide) rfl (fun ls hl => ?_)
                      refine lv_goto (tgt := 129) hx hb dX3_burn_222 (by decide) ?_
                      have hw9 : up2 (lgE (boF x nw (bdF x nw σ)) nw η k) 1 k (nI 0) = lgE (boF x nw (bdF x nw σ)) nw η (k + 1) := by first | exact lgE_s (by rw [lt9_0 (by assumption)]; rfl) | exact lgE_s (by rw [lt9_1 (by assumption)]; rfl) | exact lgE_s (by rw [lt9_a (by assumption) (by assumption), show nw = o9 by omega])
                      have hP : va_P D vwCl (wM cI cZ a th n nw ns (boF x nw (bdF x nw σ)) (lgE (boF x nw (bdF x nw σ)) nw η (k + 1))) G := Eq.mp (congrArg (fun z9 => va_P D vwCl (wM cI cZ a th n nw ns (boF x nw (bdF x nw σ)) z9) G) hw9) hP
                      clear hw9
                      have hl9 : lv_has ls 4 [(2, .int (nI (k + 1))), (0, .ref (a 0)), (1, .int x)] := lv_sub hl [0, 1, 2] rfl
                      exact ih129 (k + 1) (by omega) (by omega) G locs hP hS ls hl9
                    · skip
                      replace c10 := of_decide_eq_true c10
                      refine lv_aload_n hx hb dX3_burn_152 rfl (lv_at hl 1 rfl) ?_
                      refine lv_iload_n hx hb dX3_burn_153 rfl (lv_at hl 0 rfl) ?_
                      refine lv_iconst (v := nI 1) hx hb dX3_burn_154 rfl ?_
                      refine roV (As := [.int (nI k), .int (nI 1)]) (q0 := 0) (ci := 3) hx hb hml hown hts (c_X3_pe l D cI cZ cL cO a th n nw ns (boF x nw (bdF x nw σ)) (up2 (lgE (boF x nw (bdF x nw σ)) nw η k) 1 k (nI 0)) G k 1 (hB) (by omega) (by omega)) (cwV 2 hts gX3_burn_X3_pe rfl rfl rfl (by decide +kernel) ⟨by decide, by decide⟩) hK hE hP rfl rfl rfl rfl hl.1 rfl (Nat.le_of_ble_eq_true rfl) hS dX3_burn_155 ⟨Nat.zero_le _, Nat.zero_le _⟩ (fun locs hS => ?_)
                      refine li_topi (show (boF x nw (bdF x nw σ)) (pid 1) k = (boF x nw (bdF x nw σ)) 10 k from rfl) ?_
                      refine lv_if_ne (tgt := 164) hx hb dX3_burn_158 (by decide) (fun c11 => ?_) (fun c11 => ?_)
                      · skip
                        refine lv_iconst (v := nI 0) hx hb dX3_burn_164 rfl ?_
                        refine lv_istore_n (lv' := [(3, .int (nI 0)), (2, .int (nI k)), (0, .ref (a 0)), (1, .int x)]) hx hb dX3_burn_165 rfl hl (by decide) rfl (fun ls hl => ?_)
                        have L166_12 : ∀ (fuel : Nat) (o9 : Nat), (nw - o9) < fuel → (o9 ≤ nw) → ∀ (G : Heap) (locs : List Loc), va_P D vwCl (wM cI cZ a th n nw ns (boF x nw (bdF x nw σ)) (up2 (lgE (boF x nw (bdF x nw σ)) nw η k) 1 k (zI (anyN (ltB (boF x nw (bdF x nw σ)) k) o9)))) G → va_S A H G locs → ∀ (ls : Array Slot), lv_has ls 4 [(3, .int (nI o9)), (2, .int (nI k)), (0, .ref (a 0)), (1, .int x)] → W p l e ({ frames := 4, cells := 0, slots := 0, locals := 88 } : Room) s m args below meth c G locs 0 0 Q (F0 m 166 ls []) := by
                          intro fuel
                          induction fuel with
                          | zero =>
                            intro o9 hfuel
                            exact absurd hfuel (Nat.not_lt_zero _)
                          | succ fuel ih166 =>
                            intro o9 hfuel166 hm G locs hP hS ls hl
                            refine lv_iload_n hx hb dX3_burn_166 rfl (lv_at hl 0 rfl) ?_
                            refine lv_aload_n hx hb dX3_burn_167 rfl (lv_at hl 2 rfl) ?_
                            refine li_gf3 hx hb hX3 hown hK hP 0 rfl 5 (by decide) f58 rfl dX3_burn_168 ?_
                            refine li_ge (tgt := 219) hx hb dX3_burn_171 (by decide) (by first | omega | (have := nb_le (σ := foldN (bo1 nw) k (bdF x nw σ)) (nw := nw) (w := k); omega)) (by first | omega | (have := nb_le (σ := foldN (bo1 nw) k (bdF x nw σ)) (nw := nw) (w := k); omega)) (fun c13 => ?_) (fun c13 => ?_)
                            · skip
                              refine lv_iinc (v := nI (k + 1)) (lv' := [(2, .int (nI (k + 1))), (3, .int (nI o9)), (0, .ref (a 0)), (1, .int x)]) hx hb dX3_burn_219 hl (k := 1) rfl (nI_inc _ _) (by decide) rfl (fun ls hl => ?_)
                              refine lv_goto (tgt := 129) hx hb dX3_burn_222 (by decide) ?_
                              have hw9 : up2 (lgE (boF x nw (bdF x nw σ)) nw η k) 1 k (zI (anyN (ltB (boF x nw (bdF x nw σ)) k) o9)) = lgE (boF x nw (bdF x nw σ)) nw η (k + 1) := by first | exact lgE_s (by rw [lt9_0 (by assumption)]; rfl) | exact lgE_s (by rw [lt9_1 (by assumption)]; rfl) | exact lgE_s (by rw [lt9_a (by assumption) (by assumption), show nw = o9 by omega])
                              have hP : va_P D vwCl (wM cI cZ a th n nw ns (boF x nw (bdF x nw σ)) (lgE (boF x nw (bdF x nw σ)) nw η (k + 1))) G := Eq.mp (congrArg (fun z9 => va_P D vwCl (wM cI cZ a th n nw ns (boF x nw (bdF x nw σ)) z9) G) hw9) hP
                              clear hw9
                              have hl9 : lv_has ls 4 [(2, .int (nI (k + 1))), (0, .ref (a 0)), (1, .int x)] := lv_sub hl [0, 2, 3] rfl
                              exact ih129 (k + 1) (by omega) (by omega) G locs hP hS ls hl9
                            · skip
                              refine lv_aload_n hx hb dX3_burn_174 rfl (lv_at hl 2 rfl) ?_
                              refine li_gf3 hx hb hX3 hown hK hP 0 rfl 12 (by decide) f34 rfl dX3_burn_175 ?_
                              refine lv_iload_n hx hb dX3_burn_178 rfl (lv_at hl 1 rfl) ?_
                              refine lv_aload_n hx hb dX3_burn_179 rfl (lv_at hl 2 rfl) ?_
                              refine li_gf3 hx hb hX3 hown hK hP 0 rfl 12 (by decide) f34 rfl dX3_burn_180 ?_
                              refine lv_iload_n hx hb dX3_burn_183 rfl (lv_at hl 1 rfl) ?_
                              refine li_zld hx hb hK hP 9 1 rfl rfl (by omega) (by decide) dX3_burn_184 ?_
                              refine li_topi (show (up2 (lgE (boF x nw (bdF x nw σ)) nw η k) 1 k (zI (anyN (ltB (boF x nw (bdF x nw σ)) k) o9))) 1 k = zI (anyN (ltB (boF x nw (bdF x nw σ)) k) o9) from by simp [up2_at]) ?_
                              refine li_zne (tgt := 207) hx hb dX3_burn_185 (by decide) (fun c14 => ?_) (fun c14 => ?_)
                              · skip
                                refine lv_iconst (v := nI 1) hx hb dX3_burn_207 rfl ?_
                                refine lv_goto (tgt := 212) hx hb dX3_burn_208 (by decide) ?_
                                refine li_zst hx hb hK hP hA.DM hS 9 1 rfl rfl (by omega) (by decide) (rfl) stE_1 dX3_burn_212 (fun G locs hP hS => ?_)
                                refine lv_iinc (v := nI (o9 + 1)) (lv' := [(3, .int (nI (o9 + 1))), (2, .int (nI k)), (0, .ref (a 0)), (1, .int x)]) hx hb dX3_burn_213 hl (k := 0) rfl (nI_inc _ _) (by decide) rfl (fun ls hl => ?_)
                                refine lv_goto (tgt := 166) hx hb dX3_burn_216 (by decide) ?_
                                have hw9 : up2 (up2 (lgE (boF x nw (bdF x nw σ)) nw η k) 1 k (zI (anyN (ltB (boF x nw (bdF x nw σ)) k) o9))) 1 k (nI 1) = up2 (lgE (boF x nw (bdF x nw σ)) nw η k) 1 k (zI (anyN (ltB (boF x nw (bdF x nw σ)) k) (o9 + 1))) := by rw [up2_up2]; refine congrArg (up2 _ 1 k) ?_; symm; first | exact anyN_s1 (Or.inl (by assumption)) | exact anyN_s1 (Or.inr (by unfold ltB; simp [c13, c14]; done)) | exact anyN_s0 (by assumption) (by unfold ltB; simp [c13, c14]; done)
                                have hP : va_P D vwCl (wM cI cZ a th n nw ns (boF x nw (bdF x nw σ)) (up2 (lgE (boF x nw (bdF x nw σ)) nw η k) 1 k (zI (anyN (ltB (boF x nw (bdF x nw σ)) k) (o9 + 1))))) G := Eq.mp (congrArg (fun z9 => va_P D vwCl (wM cI cZ a th n nw ns (boF x nw (bdF x nw σ)) z9) G) hw9) hP
                                clear hw9
                                have hl9 : lv_has ls 4 [(3, .int (nI (o9 + 1))), (2, .int (nI k)), (0, .ref (a 0)), (1, .int x)] := lv_sub hl [0, 1, 2, 3] rfl
                                exact ih166 (o9 + 1) (by omega) (by omega) G locs hP hS ls hl9
                              · skip
                                refine lv_aload_n hx hb dX3_burn_188 rfl (lv_at hl 2 rfl) ?_
                                refine lv_iload_n hx hb dX3_burn_189 rfl (lv_at hl 1 rfl) ?_
                                refine lv_iload_n hx hb dX3_burn_190 rfl (lv_at hl 0 rfl) ?_
                                refine roV (As := [.int (nI k), .int (nI o9)]) (q0 := 0) (ci := 3) hx hb hml hown hts (c_X3_isNeighbour l D cI cZ cL cO a th n nw ns (boF x nw (bdF x nw σ)) (up2 (lgE (boF x nw (bdF x nw σ)) nw η k) 1 k (zI (anyN (ltB (boF x nw (bdF x nw σ)) k) o9))) G k o9 (hB) (by omega) (by omega)) (cwV 2 hts gX3_burn_X3_isNeighbour rfl rfl rfl (by decide +kernel) ⟨by decide, by decide⟩) hK hE hP rfl rfl rfl rfl hl.1 rfl (Nat.le_of_ble_eq_true rfl) hS dX3_burn_191 ⟨Nat.zero_le _, Nat.zero_le _⟩ (fun locs hS => ?_)
                                refine li_zeq (tgt := 211) hx hb dX3_burn_194 (by decide) (fun c15 => ?_) (fun c15 => ?_)
                                · skip
                                  refine lv_iconst (v := nI 0) hx hb dX3_burn_211 rfl ?_
                                  refine li_zst hx hb hK hP hA.DM hS 9 1 rfl rfl (by omega) (by decide) (rfl) stE_1 dX3_burn_212 (fun G locs hP hS => ?_)
                                  refine lv_iinc (v := nI (o9 + 1)) (lv' := [(3, .int (nI (o9 + 1))), (2, .int (nI k)), (0, .ref (a 0)), (1, .int x)]) hx hb dX3_burn_213 hl (k := 0) rfl (nI_inc _ _) (by decide) rfl (fun ls hl => ?_)
                                  refine lv_goto (tgt := 166) hx hb dX3_burn_216 (by decide) ?_
                                  have hw9 : up2 (up2 (lgE (boF x nw (bdF x nw σ)) nw η k) 1 k (zI (anyN (ltB (boF x nw (bdF x nw σ)) k) o9))) 1 k (nI 0) = up2 (lgE (boF x nw (bdF x nw σ)) nw η k) 1 k (zI (anyN (ltB (boF x nw (bdF x nw σ)) k) (o9 + 1))) := by rw [up2_up2]; refine congrArg (up2 _ 1 k) ?_; symm; first | exact anyN_s1 (Or.inl (by assumption)) | exact anyN_s1 (Or.inr (by unfold ltB; simp [c13, c14, c15]; done)) | exact anyN_s0 (by assumption) (by unfold ltB; simp [c13, c14, c15]; done)
                                  have hP : va_P D vwCl (wM cI cZ a th n nw ns (boF x nw (bdF x nw σ)) (up2 (lgE (boF x nw (bdF x nw σ)) nw η k) 1 k (zI (anyN (ltB (boF x nw (bdF x nw σ)) k) (o9 + 1))))) G := Eq.mp (congrArg (fun z9 => va_P D vwCl (wM cI cZ a th n nw ns (boF x nw (bdF x nw σ)) z9) G) hw9) hP
                                  clear hw9
                                  have hl9 : lv_has ls 4 [(3, .int (nI (o9 + 1))), (2, .int (nI k)), (0, .ref (a 0)), (1, .int x)] := lv_sub hl [0, 1, 2, 3] rfl
                                  exact ih166 (o9 + 1) (by omega) (by omega) G locs hP hS ls hl9
                                · skip
                                  refine lv_aload_n hx hb dX3_burn_197 rfl (lv_at hl 2 rfl) ?_
                                  refine lv_iload_n hx hb dX3_burn_198 rfl (lv_at hl 0 rfl) ?_
                                  refine lv_iconst (v := nI 3) hx hb dX3_burn_199 rfl ?_
                                  refine roV (As := [.int (nI o9), .int (nI 3)]) (q0 := 0) (ci := 3) hx hb hml hown hts (c_X3_pe l D cI cZ cL cO a th n nw ns (boF x nw (bdF x nw σ)) (up2 (lgE (boF x nw (bdF x nw σ)) nw η k) 1 k (zI (anyN (ltB (boF x nw (bdF x nw σ)) k) o9))) G o9 3 (hB) (by omega) (by omega)) (cwV 2 hts gX3_burn_X3_pe rfl rfl rfl (by decide +kernel) ⟨by decide, by decide⟩) hK hE hP rfl rfl rfl rfl hl.1 rfl (Nat.le_of_ble_eq_true rfl) hS dX3_burn_200 ⟨Nat.zero_le _, Nat.zero_le _⟩ (fun locs hS => ?_)
                                  refine li_topi (show (boF x nw (bdF x nw σ)) (pid 3) o9 = (boF x nw (bdF x nw σ)) 11 o9 from rfl) ?_
                                  refine lv_iconst (v := nI 1) hx hb dX3_burn_203 rfl ?_
                                  refine lv_icmp_ne (tgt := 211) hx hb dX3_burn_204 (by decide) (fun c16 => ?_) (fun c16 => ?_)
                                  · skip
                                    refine lv_iconst (v := nI 0) hx hb dX3_burn_211 rfl ?_
                                    refine li_zst hx hb hK hP hA.DM hS 9 1 rfl rfl (by omega) (by decide) (rfl) stE_1 dX3_burn_212 (fun G locs hP hS => ?_)
                                    refine lv_iinc (v := nI (o9 + 1)) (lv' := [(3, .int (nI (o9 + 1))), (2, .int (nI k)), (0, .ref (a 0)), (1, .int x)]) hx hb dX3_burn_213 hl (k := 0) rfl (nI_inc _ _) (by decide) rfl (fun ls hl => ?_)
                                    refine lv_goto (tgt := 166) hx hb dX3_burn_216 (by decide) ?_
                                    have hw9 : up2 (up2 (lgE (boF x nw (bdF x nw σ)) nw η k) 1 k (zI (anyN (ltB (boF x nw (bdF x nw σ)) k) o9))) 1 k (nI 0) = up2 (lgE (boF x nw (bdF x nw σ)) nw η k) 1 k (zI (anyN (ltB (boF x nw (bdF x nw σ)) k) (o9 + 1))) := by rw [up2_up2]; refine congrArg (up2 _ 1 k) ?_; symm; first | exact anyN_s1 (Or.inl (by assumption)) | exact anyN_s1 (Or.inr (by unfold ltB; simp [c13, c14, c15, c16]; done)) | exact anyN_s0 (by assumption) (by unfold ltB; simp [c13, c14, c15, c16]; done)
                                    have hP : va_P D vwCl (wM cI cZ a th n nw ns (boF x nw (bdF x nw σ)) (up2 (lgE (boF x nw (bdF x nw σ)) nw η k) 1 k (zI (anyN (ltB (boF x nw (bdF x nw σ)) k) (o9 + 1))))) G := Eq.mp (congrArg (fun z9 => va_P D vwCl (wM cI cZ a th n nw ns (boF x nw (bdF x nw σ)) z9) G) hw9) hP
                                    clear hw9
                                    have hl9 : lv_has ls 4 [(3, .int (nI (o9 + 1))), (2, .int (nI k)), (0, .ref (a 0)), (1, .int x)] := lv_sub hl [0, 1, 2, 3] rfl
                                    exact ih166 (o9 + 1) (by omega) (by omega) G locs hP hS ls hl9
                                  · skip
                                    refine lv_iconst (v := nI 1) hx hb dX3_burn_207 rfl ?_
                                    refine lv_goto (tgt := 212) hx hb dX3_burn_208 (by decide) ?_
                                    refine li_zst hx hb hK hP hA.DM hS 9 1 rfl rfl (by omega) (by decide) (rfl) stE_1 dX3_burn_212 (fun G locs hP hS => ?_)
                                    refine lv_iinc (v := nI (o9 + 1)) (lv' := [(3, .int (nI (o9 + 1))), (2, .int (nI k)), (0, .ref (a 0)), (1, .int x)]) hx hb dX3_burn_213 hl (k := 0) rfl (nI_inc _ _) (by decide) rfl (fun ls hl => ?_)
                                    refine lv_goto (tgt := 166) hx hb dX3_burn_216 (by decide) ?_
                                    have hw9 : up2 (up2 (lgE (boF x nw (bdF x nw σ)) nw η k) 1 k (zI (anyN (ltB (boF x nw (bdF x nw σ)) k) o9))) 1 k (nI 1) = up2 (lgE (boF x nw (bdF x nw σ)) nw η k) 1 k (zI (anyN (ltB (boF x nw (bdF x nw σ)) k) (o9 + 1))) := by rw [up2_up2]; refine congrArg (up2 _ 1 k) ?_; symm; first | exact anyN_s1 (Or.inl (by assumption)) | exact anyN_s1 (Or.inr (by unfold ltB; simp [c13, c14, c15, c16]; done)) | exact anyN_s0 (by assumption) (by unfold ltB; simp [c13, c14, c15, c16]; done)
                                    have hP : va_P D vwCl (wM cI cZ a th n nw ns (boF x nw (bdF x nw σ)) (up2 (lgE (boF x nw (bdF x nw σ)) nw η k) 1 k (zI (anyN (ltB (boF x nw (bdF x nw σ)) k) (o9 + 1))))) G := Eq.mp (congrArg (fun z9 => va_P D vwCl (wM cI cZ a th n nw ns (boF x nw (bdF x nw σ)) z9) G) hw9) hP
                                    clear hw9
                                    have hl9 : lv_has ls 4 [(3, .int (nI (o9 + 1))), (2, .int (nI k)), (0, .ref (a 0)), (1, .int x)] := lv_sub hl [0, 1, 2, 3] rfl
                                    exact ih166 (o9 + 1) (by omega) (by omega) G locs hP hS ls hl9
                        have hw9 : up2 (lgE (boF x nw (bdF x nw σ)) nw η k) 1 k (nI 0) = up2 (lgE (boF x nw (bdF x nw σ)) nw η k) 1 k (zI (anyN (ltB (boF x nw (bdF x nw σ)) k) 0)) := rfl
                        have hP : va_P D vwCl (wM cI cZ a th n nw ns (boF x nw (bdF x nw σ)) (up2 (lgE (boF x nw (bdF x nw σ)) nw η k) 1 k (zI (anyN (ltB (boF x nw (bdF x nw σ)) k) 0)))) G := Eq.mp (congrArg (fun z9 => va_P D vwCl (wM cI cZ a th n nw ns (boF x nw (bdF x nw σ)) z9) G) hw9) hP
                        clear hw9
                        have hl9 : lv_has ls 4 [(3, .int (nI 0)), (2, .int (nI k)), (0, .ref (a 0)), (1, .int x)] := lv_sub hl [0, 1, 2, 3] rfl
                        exact L166_12 ((nw - 0) + 1) 0 (Nat.lt_succ_self _) (by omega) G locs hP hS ls hl9
                      · skip
                        refine lv_goto (tgt := 219) hx hb dX3_burn_161 (by decide) ?_
                        refine lv_iinc (v := nI (k + 1)) (lv' := [(2, .int (nI (k + 1))), (0, .ref (a 0)), (1, .int x)]) hx hb dX3_burn_219 hl (k := 0) rfl (nI_inc _ _) (by decide) rfl (fun ls hl => ?_)
                        refine lv_goto (tgt := 129) hx hb dX3_burn_222 (by decide) ?_
                        have hw9 : up2 (lgE (boF x nw (bdF x nw σ)) nw η k) 1 k (nI 0) = lgE (boF x nw (bdF x nw σ)) nw η (k + 1) := by first | exact lgE_s (by rw [lt9_0 (by assumption)]; rfl) | exact lgE_s (by rw [lt9_1 (by assumption)]; rfl) | exact lgE_s (by rw [lt9_a (by assumption) (by assumption), show nw = o9 by omega])
                        have hP : va_P D vwCl (wM cI cZ a th n nw ns (boF x nw (bdF x nw σ)) (lgE (boF x nw (bdF x nw σ)) nw η (k + 1))) G := Eq.mp (congrArg (fun z9 => va_P D vwCl (wM cI cZ a th n nw ns (boF x nw (bdF x nw σ)) z9) G) hw9) hP
                        clear hw9
                        have hl9 : lv_has ls 4 [(2, .int (nI (k + 1))), (0, .ref (a 0)), (1, .int x)] := lv_sub hl [0, 1, 2] rfl
                        exact ih129 (k + 1) (by omega) (by omega) G locs hP hS ls hl9
              have hw9 : foldN (bo1 nw) k (bdF x nw σ) = (boF x nw (bdF x nw σ)) := by first | (unfold boF; rw [if_neg (fun q => absurd q (Int32.not_le.mpr (by assumption)))]; rcases hx9 with q | q; (rw [q]; rfl); exact absurd q (Int32.not_le.mpr (by assumption))) | (unfold boF; split; rw [show k = nw by omega]; rcases hx9 with q | q; (rw [q]; rfl); exact absurd q (by assumption))
              have hP : va_P D vwCl (wM cI cZ a th n nw ns (boF x nw (bdF x nw σ)) η) G := Eq.mp (congrArg (fun z9 => va_P D vwCl (wM cI cZ a th n nw ns z9 η) G) hw9) hP
              clear hw9
              have hw9 : η = lgE (boF x nw (bdF x nw σ)) nw η 0 := lgE_0.symm
              have hP : va_P D vwCl (wM cI cZ a th n nw ns (boF x nw (bdF x nw σ)) (lgE (boF x nw (bdF x nw σ)) nw η 0)) G := Eq.mp (congrArg (fun z9 => va_P D vwCl (wM cI cZ a th n nw ns (boF x nw (bdF x nw σ)) z9) G) hw9) hP
              clear hw9
              have hl9 : lv_has ls 4 [(2, .int (nI 0)), (0, .ref (a 0)), (1, .int x)] := lv_sub hl [0, 1, 2] rfl
              exact L129_5 ((nw - 0) + 1) 0 (Nat.lt_succ_self _) (by omega) G locs hP hS ls hl9
            · skip
              refine lv_iload_n hx hb dX3_burn_91 rfl (lv_at hl 2 rfl) ?_
              refine lv_bipush (v := nI 8) hx hb dX3_burn_92 rfl ?_
              refine lv_icmp_lt (tgt := 127) hx hb dX3_burn_94 (by decide) (fun c17 => ?_) (fun c17 => ?_)
              · skip
                refine lv_iconst (v := nI 0) hx hb dX3_burn_127 rfl ?_
                refine lv_istore_n (lv' := [(2, .int (nI 0)), (0, .ref (a 0)), (1, .int x)]) hx hb dX3_burn_128 rfl hl (by decide) rfl (fun ls hl => ?_)
                have L129_18 : ∀ (fuel : Nat) (k : Nat), (nw - k) < fuel → (k ≤ nw) → ∀ (G : Heap) (locs : List Loc), va_P D vwCl (wM cI cZ a th n nw ns (boF x nw (bdF x nw σ)) (lgE (boF x nw (bdF x nw σ)) nw η k)) G → va_S A H G locs → ∀ (ls : Array Slot), lv_has ls 4 [(2, .int (nI k)), (0, .ref (a 0)), (1, .int x)] → W p l e ({ frames := 4, cells := 0, slots := 0, locals := 88 } : Room) s m args below meth c G locs 0 0 Q (F0 m 129 ls []) := by
                  intro fuel
                  induction fuel with
                  | zero =>
                    intro k hfuel
                    exact absurd hfuel (Nat.not_lt_zero _)
                  | succ fuel ih129 =>
                    intro k hfuel129 hk G locs hP hS ls hl
                    refine lv_iload_n hx hb dX3_burn_129 rfl (lv_at hl 0 rfl) ?_
                    refine lv_aload_n hx hb dX3_burn_130 rfl (lv_at hl 1 rfl) ?_
                    refine li_gf3 hx hb hX3 hown hK hP 0 rfl 5 (by decide) f58 rfl dX3_burn_131 ?_
                    refine li_ge (tgt := 225) hx hb dX3_burn_134 (by decide) (by first | omega | (have := nb_le (σ := foldN (bo1 nw) k (bdF x nw σ)) (nw := nw) (w := k); omega)) (by first | omega | (have := nb_le (σ := foldN (bo1 nw) k (bdF x nw σ)) (nw := nw) (w := k); omega)) (fun c19 => ?_) (fun c19 => ?_)
                    · skip
                      refine lv_iconst (v := nI 0) hx hb dX3_burn_225 rfl ?_
                      refine lv_istore_n (lv' := [(2, .int (nI 0)), (0, .ref (a 0)), (1, .int x)]) hx hb dX3_burn_226 rfl hl (by decide) rfl (fun ls hl => ?_)
                      have L227_20 : ∀ (fuel : Nat) (k : Nat), (nw - k) < fuel → (k ≤ nw) → ∀ (G : Heap) (locs : List Loc), va_P D vwCl (wM cI cZ a th n nw ns (foldN (lg1 (boF x nw (bdF x nw σ)) nw) k (boF x nw (bdF x nw σ))) (lgE (boF x nw (bdF x nw σ)) nw η nw)) G → va_S A H G locs → ∀ (ls : Array Slot), lv_has ls 4 [(2, .int (nI k)), (0, .ref (a 0)), (1, .int x)] → W p l e ({ frames := 4, cells := 0, slots := 0, locals := 88 } : Room) s m args below meth c G locs 0 0 Q (F0 m 227 ls []) := by
                        intro fuel
                        induction fuel with
                        | zero =>
                          intro k hfuel
                          exact absurd hfuel (Nat.not_lt_zero _)
                        | succ fuel ih227 =>
                          intro k hfuel227 hk G locs hP hS ls hl
                          refine lv_iload_n hx hb dX3_burn_227 rfl (lv_at hl 0 rfl) ?_
                          refine lv_aload_n hx hb dX3_burn_228 rfl (lv_at hl 1 rfl) ?_
                          refine li_gf3 hx hb hX3 hown hK hP 0 rfl 5 (by decide) f58 rfl dX3_burn_229 ?_
                          refine li_ge (tgt := 257) hx hb dX3_burn_232 (by decide) (by first | omega | (have := nb_le (σ := foldN (bo1 nw) k (bdF x nw σ)) (nw := nw) (w := k); omega)) (by first | omega | (have := nb_le (σ := foldN (bo1 nw) k (bdF x nw σ)) (nw := nw) (w := k); omega)) (fun c21 => ?_) (fun c21 => ?_)
                          · skip
                            have hw9 : foldN (lg1 (boF x nw (bdF x nw σ)) nw) k (boF x nw (bdF x nw σ)) = (leF nw ((boF x nw (bdF x nw σ)), η)).1 := by rw [show k = nw by omega, le_lg (boF_bz (bdF_bz hz)) (wz_row (bdF_wz hwz) (boF_row (by omega)))]
                            have hP : va_P D vwCl (wM cI cZ a th n nw ns ((leF nw ((boF x nw (bdF x nw σ)), η)).1) (lgE (boF x nw (bdF x nw σ)) nw η nw)) G := Eq.mp (congrArg (fun z9 => va_P D vwCl (wM cI cZ a th n nw ns z9 (lgE (boF x nw (bdF x nw σ)) nw η nw)) G) hw9) hP
                            clear hw9
                            exact hEnd 257 ls G locs dX3_burn_257 hP hS
                          · skip
                            refine lv_aload_n hx hb dX3_burn_235 rfl (lv_at hl 1 rfl) ?_
                            refine li_gf3 hx hb hX3 hown hK hP 0 rfl 12 (by decide) f34 rfl dX3_burn_236 ?_
                            refine lv_iload_n hx hb dX3_burn_239 rfl (lv_at hl 0 rfl) ?_
                            refine li_zld hx hb hK hP 9 1 rfl rfl (by omega) (by decide) dX3_burn_240 ?_
                            refine li_topi (show (lgE (boF x nw (bdF x nw σ)) nw η nw) 1 k = zI (lt9 (boF x nw (bdF x nw σ)) nw k) from lgE_at (by omega)) ?_
                            refine li_zeq (tgt := 251) hx hb dX3_burn_241 (by decide) (fun c22 => ?_) (fun c22 => ?_)
                            · skip
                              refine lv_iinc (v := nI (k + 1)) (lv' := [(2, .int (nI (k + 1))), (0, .ref (a 0)), (1, .int x)]) hx hb dX3_burn_251 hl (k := 0) rfl (nI_inc _ _) (by decide) rfl (fun ls hl => ?_)
                              refine lv_goto (tgt := 227) hx hb dX3_burn_254 (by decide) ?_
                              have hw9 : foldN (lg1 (boF x nw (bdF x nw σ)) nw) k (boF x nw (bdF x nw σ)) = foldN (lg1 (boF x nw (bdF x nw σ)) nw) (k + 1) (boF x nw (bdF x nw σ)) := by first | exact (lg1_t (by assumption)).symm | exact (lg1_f (by assumption)).symm
                              have hP : va_P D vwCl (wM cI cZ a th n nw ns (foldN (lg1 (boF x nw (bdF x nw σ)) nw) (k + 1) (boF x nw (bdF x nw σ))) (lgE (boF x nw (bdF x nw σ)) nw η nw)) G := Eq.mp (congrArg (fun z9 => va_P D vwCl (wM cI cZ a th n nw ns z9 (lgE (boF x nw (bdF x nw σ)) nw η nw)) G) hw9) hP
                              clear hw9
                              have hl9 : lv_has ls 4 [(2, .int (nI (k + 1))), (0, .ref (a 0)), (1, .int x)] := lv_sub hl [0, 1, 2] rfl
                              exact ih227 (k + 1) (by omega) (by omega) G locs hP hS ls hl9
                            · skip
                              refine lv_aload_n hx hb dX3_burn_244 rfl (lv_at hl 1 rfl) ?_
                              refine lv_iload_n hx hb dX3_burn_245 rfl (lv_at hl 0 rfl) ?_
                              refine lv_iconst (v := nI 3) hx hb dX3_burn_246 rfl ?_
                              refine lv_iconst (v := nI 1) hx hb dX3_burn_247 rfl ?_
                              refine muV (As := [.int (nI k), .int (nI 3), .int (nI 1)]) (q0 := 0) (ci := 3) hx hb hml hown hts (c_X3_set l D cI cZ cL cO a th n nw ns (foldN (lg1 (boF x nw (bdF x nw σ)) nw) k (boF x nw (bdF x nw σ))) (lgE (boF x nw (bdF x nw σ)) nw η nw) G k 3 (nI 1) A hA (hB) (by omega) (by omega)) (cwV 3 hts gX3_burn_X3_set rfl rfl rfl (by decide +kernel) ⟨by decide, by decide⟩) hK hE hP rfl rfl rfl rfl hl.1 rfl (Nat.le_of_ble_eq_true rfl) hS (fun _ h => h) dX3_burn_248 ⟨Nat.zero_le _, Nat.zero_le _⟩ (fun G locs hP _ _ hS => ?_)
                              have hP : va_P D vwCl (wM cI cZ a th n nw ns (up2 (foldN (lg1 (boF x nw (bdF x nw σ)) nw) k (boF x nw (bdF x nw σ))) 11 k (nI 1)) (lgE (boF x nw (bdF x nw σ)) nw η nw)) G := hP
                              refine lv_iinc (v := nI (k + 1)) (lv' := [(2, .int (nI (k + 1))), (0, .ref (a 0)), (1, .int x)]) hx hb dX3_burn_251 hl (k := 0) rfl (nI_inc _ _) (by decide) rfl (fun ls hl => ?_)
                              refine lv_goto (tgt := 227) hx hb dX3_burn_254 (by decide) ?_
                              have hw9 : up2 (foldN (lg1 (boF x nw (bdF x nw σ)) nw) k (boF x nw (bdF x nw σ))) 11 k (nI 1) = foldN (lg1 (boF x nw (bdF x nw σ)) nw) (k + 1) (boF x nw (bdF x nw σ)) := by first | exact (lg1_t (by assumption)).symm | exact (lg1_f (by assumption)).symm
                              have hP : va_P D vwCl (wM cI cZ a th n nw ns (foldN (lg1 (boF x nw (bdF x nw σ)) nw) (k + 1) (boF x nw (bdF x nw σ))) (lgE (boF x nw (bdF x nw σ)) nw η nw)) G := Eq.mp (congrArg (fun z9 => va_P D vwCl (wM cI cZ a th n nw ns z9 (lgE (boF x nw (bdF x nw σ)) nw η nw)) G) hw9) hP
                              clear hw9
                              have hl9 : lv_has ls 4 [(2, .int (nI (k + 1))), (0, .ref (a 0)), (1, .int x)] := lv_sub hl [0, 1, 2] rfl
                              exact ih227 (k + 1) (by omega) (by omega) G locs hP hS ls hl9
                      have hw9 : (boF x nw (bdF x nw σ)) = foldN (lg1 (boF x nw (bdF x nw σ)) nw) 0 (boF x nw (bdF x nw σ)) := rfl
                      have hP : va_P D vwCl (wM cI cZ a th n nw ns (foldN (lg1 (boF x nw (bdF x nw σ)) nw) 0 (boF x nw (bdF x nw σ))) (lgE (boF x nw (bdF x nw σ)) nw η k)) G := Eq.mp (congrArg (fun z9 => va_P D vwCl (wM cI cZ a th n nw ns z9 (lgE (boF x nw (bdF x nw σ)) nw η k)) G) hw9) hP
                      clear hw9
                      have hw9 : lgE (boF x nw (bdF x nw σ)) nw η k = lgE (boF x nw (bdF x nw σ)) nw η nw := by rw [show k = nw by omega]
                      have hP : va_P D vwCl (wM cI cZ a th n nw ns (foldN (lg1 (boF x nw (bdF x nw σ)) nw) 0 (boF x nw (bdF x nw σ))) (lgE (boF x nw (bdF x nw σ)) nw η nw)) G := Eq.mp (congrArg (fun z9 => va_P D vwCl (wM cI cZ a th n nw ns (foldN (lg1 (boF x nw (bdF x nw σ)) nw) 0 (boF x nw (bdF x nw σ))) z9) G) hw9) hP
                      clear hw9
                      have hl9 : lv_has ls 4 [(2, .int (nI 0)), (0, .ref (a 0)), (1, .int x)] := lv_sub hl [0, 1, 2] rfl
                      exact L227_20 ((nw - 0) + 1) 0 (Nat.lt_succ_self _) (by omega) G locs hP hS ls hl9
                    · skip
                      refine lv_aload_n hx hb dX3_burn_137 rfl (lv_at hl 1 rfl) ?_
                      refine li_gf3 hx hb hX3 hown hK hP 0 rfl 12 (by decide) f34 rfl dX3_burn_138 ?_
                      refine lv_iload_n hx hb dX3_burn_141 rfl (lv_at hl 0 rfl) ?_
                      refine lv_iconst (v := nI 0) hx hb dX3_burn_142 rfl ?_
                      refine li_zst hx hb hK hP hA.DM hS 9 1 rfl rfl (by omega) (by decide) (rfl) stE_1 dX3_burn_143 (fun G locs hP hS => ?_)
                      refine lv_aload_n hx hb dX3_burn_144 rfl (lv_at hl 1 rfl) ?_
                      refine lv_iload_n hx hb dX3_burn_145 rfl (lv_at hl 0 rfl) ?_
                      refine roV (As := [.int (nI k)]) (q0 := 0) (ci := 3) hx hb hml hown hts (c_X3_walks l D cI cZ cL cO a th n nw ns (boF x nw (bdF x nw σ)) (up2 (lgE (boF x nw (bdF x nw σ)) nw η k) 1 k (nI 0)) G k (hB) (by omega)) (cwV 1 hts gX3_burn_X3_walks rfl rfl rfl (by decide +kernel) ⟨by decide, by decide⟩) hK hE hP rfl rfl rfl rfl hl.1 rfl (Nat.le_of_ble_eq_true rfl) hS dX3_burn_146 ⟨Nat.zero_le _, Nat.zero_le _⟩ (fun locs hS => ?_)
                      refine li_zeq (tgt := 219) hx hb dX3_burn_149 (by decide) (fun c23 => ?_) (fun c23 => ?_)
                      · skip
                        replace c23 := of_decide_eq_false c23
                        refine lv_iinc (v := nI (k + 1)) (lv' := [(2, .int (nI (k + 1))), (0, .ref (a 0)), (1, .int x)]) hx hb dX3_burn_219 hl (k := 0) rfl (nI_inc _ _) (by decide) rfl (fun ls hl => ?_)
                        refine lv_goto (tgt := 129) hx hb dX3_burn_222 (by decide) ?_
                        have hw9 : up2 (lgE (boF x nw (bdF x nw σ)) nw η k) 1 k (nI 0) = lgE (boF x nw (bdF x nw σ)) nw η (k + 1) := by first | exact lgE_s (by rw [lt9_0 (by assumption)]; rfl) | exact lgE_s (by rw [lt9_1 (by assumption)]; rfl) | exact lgE_s (by rw [lt9_a (by assumption) (by assumption), show nw = o9 by omega])
                        have hP : va_P D vwCl (wM cI cZ a th n nw ns (boF x nw (bdF x nw σ)) (lgE (boF x nw (bdF x nw σ)) nw η (k + 1))) G := Eq.mp (congrArg (fun z9 => va_P D vwCl (wM cI cZ a th n nw ns (boF x nw (bdF x nw σ)) z9) G) hw9) hP
                        clear hw9
                        have hl9 : lv_has ls 4 [(2, .int (nI (k + 1))), (0, .ref (a 0)), (1, .int x)] := lv_sub hl [0, 1, 2] rfl
                        exact ih129 (k + 1) (by omega) (by omega) G locs hP hS ls hl9
                      · skip
                        replace c23 := of_decide_eq_true c23
                        refine lv_aload_n hx hb dX3_burn_152 rfl (lv_at hl 1 rfl) ?_
                        refine lv_iload_n hx hb dX3_burn_153 rfl (lv_at hl 0 rfl) ?_
                        refine lv_iconst (v := nI 1) hx hb dX3_burn_154 rfl ?_
                        refine roV (As := [.int (nI k), .int (nI 1)]) (q0 := 0) (ci := 3) hx hb hml hown hts (c_X3_pe l D cI cZ cL cO a th n nw ns (boF x nw (bdF x nw σ)) (up2 (lgE (boF x nw (bdF x nw σ)) nw η k) 1 k (nI 0)) G k 1 (hB) (by omega) (by omega)) (cwV 2 hts gX3_burn_X3_pe rfl rfl rfl (by decide +kernel) ⟨by decide, by decide⟩) hK hE hP rfl rfl rfl rfl hl.1 rfl (Nat.le_of_ble_eq_true rfl) hS dX3_burn_155 ⟨Nat.zero_le _, Nat.zero_le _⟩ (fun locs hS => ?_)
                        refine li_topi (show (boF x nw (bdF x nw σ)) (pid 1) k = (boF x nw (bdF x nw σ)) 10 k from rfl) ?_
                        refine lv_if_ne (tgt := 164) hx hb dX3_burn_158 (by decide) (fun c24 => ?_) (fun c24 => ?_)
                        · skip
                          refine lv_iconst (v := nI 0) hx hb dX3_burn_164 rfl ?_
                          refine lv_istore_n (lv' := [(3, .int (nI 0)), (2, .int (nI k)), (0, .ref (a 0)), (1, .int x)]) hx hb dX3_burn_165 rfl hl (by decide) rfl (fun ls hl => ?_)
                          have L166_25 : ∀ (fuel : Nat) (o9 : Nat), (nw - o9) < fuel → (o9 ≤ nw) → ∀ (G : Heap) (locs : List Loc), va_P D vwCl (wM cI cZ a th n nw ns (boF x nw (bdF x nw σ)) (up2 (lgE (boF x nw (bdF x nw σ)) nw η k) 1 k (zI (anyN (ltB (boF x nw (bdF x nw σ)) k) o9)))) G → va_S A H G locs → ∀ (ls : Array Slot), lv_has ls 4 [(3, .int (nI o9)), (2, .int (nI k)), (0, .ref (a 0)), (1, .int x)] → W p l e ({ frames := 4, cells := 0, slots := 0, locals := 88 } : Room) s m args below meth c G locs 0 0 Q (F0 m 166 ls []) := by
                            intro fuel
                            induction fuel with
                            | zero =>
                              intro o9 hfuel
                              exact absurd hfuel (Nat.not_lt_zero _)
                            | succ fuel ih166 =>
                              intro o9 hfuel166 hm G locs hP hS ls hl
                              refine lv_iload_n hx hb dX3_burn_166 rfl (lv_at hl 0 rfl) ?_
                              refine lv_aload_n hx hb dX3_burn_167 rfl (lv_at hl 2 rfl) ?_
                              refine li_gf3 hx hb hX3 hown hK hP 0 rfl 5 (by decide) f58 rfl dX3_burn_168 ?_
                              refine li_ge (tgt := 219) hx hb dX3_burn_171 (by decide) (by first | omega | (have := nb_le (σ := foldN (bo1 nw) k (bdF x nw σ)) (nw := nw) (w := k); omega)) (by first | omega | (have := nb_le (σ := foldN (bo1 nw) k (bdF x nw σ)) (nw := nw) (w := k); omega)) (fun c26 => ?_) (fun c26 => ?_)
                              · skip
                                refine lv_iinc (v := nI (k + 1)) (lv' := [(2, .int (nI (k + 1))), (3, .int (nI o9)), (0, .ref (a 0)), (1, .int x)]) hx hb dX3_burn_219 hl (k := 1) rfl (nI_inc _ _) (by decide) rfl (fun ls hl => ?_)
                                refine lv_goto (tgt := 129) hx hb dX3_burn_222 (by decide) ?_
                                have hw9 : up2 (lgE (boF x nw (bdF x nw σ)) nw η k) 1 k (zI (anyN (ltB (boF x nw (bdF x nw σ)) k) o9)) = lgE (boF x nw (bdF x nw σ)) nw η (k + 1) := by first | exact lgE_s (by rw [lt9_0 (by assumption)]; rfl) | exact lgE_s (by rw [lt9_1 (by assumption)]; rfl) | exact lgE_s (by rw [lt9_a (by assumption) (by assumption), show nw = o9 by omega])
                                have hP : va_P D vwCl (wM cI cZ a th n nw ns (boF x nw (bdF x nw σ)) (lgE (boF x nw (bdF x nw σ)) nw η (k + 1))) G := Eq.mp (congrArg (fun z9 => va_P D vwCl (wM cI cZ a th n nw ns (boF x nw (bdF x nw σ)) z9) G) hw9) hP
                                clear hw9
                                have hl9 : lv_has ls 4 [(2, .int (nI (k + 1))), (0, .ref (a 0)), (1, .int x)] := lv_sub hl [0, 2, 3] rfl
                                exact ih129 (k + 1) (by omega) (by omega) G locs hP hS ls hl9
                              · skip
                                refine lv_aload_n hx hb dX3_burn_174 rfl (lv_at hl 2 rfl) ?_
                                refine li_gf3 hx hb hX3 hown hK hP 0 rfl 12 (by decide) f34 rfl dX3_burn_175 ?_
                                refine lv_iload_n hx hb dX3_burn_178 rfl (lv_at hl 1 rfl) ?_
                                refine lv_aload_n hx hb dX3_burn_179 rfl (lv_at hl 2 rfl) ?_
                                refine li_gf3 hx hb hX3 hown hK hP 0 rfl 12 (by decide) f34 rfl dX3_burn_180 ?_
                                refine lv_iload_n hx hb dX3_burn_183 rfl (lv_at hl 1 rfl) ?_
                                refine li_zld hx hb hK hP 9 1 rfl rfl (by omega) (by decide) dX3_burn_184 ?_
                                refine li_topi (show (up2 (lgE (boF x nw (bdF x nw σ)) nw η k) 1 k (zI (anyN (ltB (boF x nw (bdF x nw σ)) k) o9))) 1 k = zI (anyN (ltB (boF x nw (bdF x nw σ)) k) o9) from by simp [up2_at]) ?_
                                refine li_zne (tgt := 207) hx hb dX3_burn_185 (by decide) (fun c27 => ?_) (fun c27 => ?_)
                                · skip
                                  refine lv_iconst (v := nI 1) hx hb dX3_burn_207 rfl ?_
                                  refine lv_goto (tgt := 212) hx hb dX3_burn_208 (by decide) ?_
                                  refine li_zst hx hb hK hP hA.DM hS 9 1 rfl rfl (by omega) (by decide) (rfl) stE_1 dX3_burn_212 (fun G locs hP hS => ?_)
                                  refine lv_iinc (v := nI (o9 + 1)) (lv' := [(3, .int (nI (o9 + 1))), (2, .int (nI k)), (0, .ref (a 0)), (1, .int x)]) hx hb dX3_burn_213 hl (k := 0) rfl (nI_inc _ _) (by decide) rfl (fun ls hl => ?_)
                                  refine lv_goto (tgt := 166) hx hb dX3_burn_216 (by decide) ?_
                                  have hw9 : up2 (up2 (lgE (boF x nw (bdF x nw σ)) nw η k) 1 k (zI (anyN (ltB (boF x nw (bdF x nw σ)) k) o9))) 1 k (nI 1) = up2 (lgE (boF x nw (bdF x nw σ)) nw η k) 1 k (zI (anyN (ltB (boF x nw (bdF x nw σ)) k) (o9 + 1))) := by rw [up2_up2]; refine congrArg (up2 _ 1 k) ?_; symm; first | exact anyN_s1 (Or.inl (by assumption)) | exact anyN_s1 (Or.inr (by unfold ltB; simp [c26, c27]; done)) | exact anyN_s0 (by assumption) (by unfold ltB; simp [c26, c27]; done)
                                  have hP : va_P D vwCl (wM cI cZ a th n nw ns (boF x nw (bdF x nw σ)) (up2 (lgE (boF x nw (bdF x nw σ)) nw η k) 1 k (zI (anyN (ltB (boF x nw (bdF x nw σ)) k) (o9 + 1))))) G := Eq.mp (congrArg (fun z9 => va_P D vwCl (wM cI cZ a th n nw ns (boF x nw (bdF x nw σ)) z9) G) hw9) hP
                                  clear hw9
                                  have hl9 : lv_has ls 4 [(3, .int (nI (o9 + 1))), (2, .int (nI k)), (0, .ref (a 0)), (1, .int x)] := lv_sub hl [0, 1, 2, 3] rfl
                                  exact ih166 (o9 + 1) (by omega) (by omega) G locs hP hS ls hl9
                                · skip
                                  refine lv_aload_n hx hb dX3_burn_188 rfl (lv_at hl 2 rfl) ?_
                                  refine lv_iload_n hx hb dX3_burn_189 rfl (lv_at hl 1 rfl) ?_
                                  refine lv_iload_n hx hb dX3_burn_190 rfl (lv_at hl 0 rfl) ?_
                                  refine roV (As := [.int (nI k), .int (nI o9)]) (q0 := 0) (ci := 3) hx hb hml hown hts (c_X3_isNeighbour l D cI cZ cL cO a th n nw ns (boF x nw (bdF x nw σ)) (up2 (lgE (boF x nw (bdF x nw σ)) nw η k) 1 k (zI (anyN (ltB (boF x nw (bdF x nw σ)) k) o9))) G k o9 (hB) (by omega) (by omega)) (cwV 2 hts gX3_burn_X3_isNeighbour rfl rfl rfl (by decide +kernel) ⟨by decide, by decide⟩) hK hE hP rfl rfl rfl rfl hl.1 rfl (Nat.le_of_ble_eq_true rfl) hS dX3_burn_191 ⟨Nat.zero_le _, Nat.zero_le _⟩ (fun locs hS => ?_)
                                  refine li_zeq (tgt := 211) hx hb dX3_burn_194 (by decide) (fun c28 => ?_) (fun c28 => ?_)
                                  · skip
                                    refine lv_iconst (v := nI 0) hx hb dX3_burn_211 rfl ?_
                                    refine li_zst hx hb hK hP hA.DM hS 9 1 rfl rfl (by omega) (by decide) (rfl) stE_1 dX3_burn_212 (fun G locs hP hS => ?_)
                                    refine lv_iinc (v := nI (o9 + 1)) (lv' := [(3, .int (nI (o9 + 1))), (2, .int (nI k)), (0, .ref (a 0)), (1, .int x)]) hx hb dX3_burn_213 hl (k := 0) rfl (nI_inc _ _) (by decide) rfl (fun ls hl => ?_)
                                    refine lv_goto (tgt := 166) hx hb dX3_burn_216 (by decide) ?_
                                    have hw9 : up2 (up2 (lgE (boF x nw (bdF x nw σ)) nw η k) 1 k (zI (anyN (ltB (boF x nw (bdF x nw σ)) k) o9))) 1 k (nI 0) = up2 (lgE (boF x nw (bdF x nw σ)) nw η k) 1 k (zI (anyN (ltB (boF x nw (bdF x nw σ)) k) (o9 + 1))) := by rw [up2_up2]; refine congrArg (up2 _ 1 k) ?_; symm; first | exact anyN_s1 (Or.inl (by assumption)) | exact anyN_s1 (Or.inr (by unfold ltB; simp [c26, c27, c28]; done)) | exact anyN_s0 (by assumption) (by unfold ltB; simp [c26, c27, c28]; done)
                                    have hP : va_P D vwCl (wM cI cZ a th n nw ns (boF x nw (bdF x nw σ)) (up2 (lgE (boF x nw (bdF x nw σ)) nw η k) 1 k (zI (anyN (ltB (boF x nw (bdF x nw σ)) k) (o9 + 1))))) G := Eq.mp (congrArg (fun z9 => va_P D vwCl (wM cI cZ a th n nw ns (boF x nw (bdF x nw σ)) z9) G) hw9) hP
                                    clear hw9
                                    have hl9 : lv_has ls 4 [(3, .int (nI (o9 + 1))), (2, .int (nI k)), (0, .ref (a 0)), (1, .int x)] := lv_sub hl [0, 1, 2, 3] rfl
                                    exact ih166 (o9 + 1) (by omega) (by omega) G locs hP hS ls hl9
                                  · skip
                                    refine lv_aload_n hx hb dX3_burn_197 rfl (lv_at hl 2 rfl) ?_
                                    refine lv_iload_n hx hb dX3_burn_198 rfl (lv_at hl 0 rfl) ?_
                                    refine lv_iconst (v := nI 3) hx hb dX3_burn_199 rfl ?_
                                    refine roV (As := [.int (nI o9), .int (nI 3)]) (q0 := 0) (ci := 3) hx hb hml hown hts (c_X3_pe l D cI cZ cL cO a th n nw ns (boF x nw (bdF x nw σ)) (up2 (lgE (boF x nw (bdF x nw σ)) nw η k) 1 k (zI (anyN (ltB (boF x nw (bdF x nw σ)) k) o9))) G o9 3 (hB) (by omega) (by omega)) (cwV 2 hts gX3_burn_X3_pe rfl rfl rfl (by decide +kernel) ⟨by decide, by decide⟩) hK hE hP rfl rfl rfl rfl hl.1 rfl (Nat.le_of_ble_eq_true rfl) hS dX3_burn_200 ⟨Nat.zero_le _, Nat.zero_le _⟩ (fun locs hS => ?_)
                                    refine li_topi (show (boF x nw (bdF x nw σ)) (pid 3) o9 = (boF x nw (bdF x nw σ)) 11 o9 from rfl) ?_
                                    refine lv_iconst (v := nI 1) hx hb dX3_burn_203 rfl ?_
                                    refine lv_icmp_ne (tgt := 211) hx hb dX3_burn_204 (by decide) (fun c29 => ?_) (fun c29 => ?_)
                                    · skip
                                      refine lv_iconst (v := nI 0) hx hb dX3_burn_211 rfl ?_
                                      refine li_zst hx hb hK hP hA.DM hS 9 1 rfl rfl (by omega) (by decide) (rfl) stE_1 dX3_burn_212 (fun G locs hP hS => ?_)
                                      refine lv_iinc (v := nI (o9 + 1)) (lv' := [(3, .int (nI (o9 + 1))), (2, .int (nI k)), (0, .ref (a 0)), (1, .int x)]) hx hb dX3_burn_213 hl (k := 0) rfl (nI_inc _ _) (by decide) rfl (fun ls hl => ?_)
                                      refine lv_goto (tgt := 166) hx hb dX3_burn_216 (by decide) ?_
                                      have hw9 : up2 (up2 (lgE (boF x nw (bdF x nw σ)) nw η k) 1 k (zI (anyN (ltB (boF x nw (bdF x nw σ)) k) o9))) 1 k (nI 0) = up2 (lgE (boF x nw (bdF x nw σ)) nw η k) 1 k (zI (anyN (ltB (boF x nw (bdF x nw σ)) k) (o9 + 1))) := by rw [up2_up2]; refine congrArg (up2 _ 1 k) ?_; symm; first | exact anyN_s1 (Or.inl (by assumption)) | exact anyN_s1 (Or.inr (by unfold ltB; simp [c26, c27, c28, c29]; done)) | exact anyN_s0 (by assumption) (by unfold ltB; simp [c26, c27, c28, c29]; done)
                                      have hP : va_P D vwCl (wM cI cZ a th n nw ns (boF x nw (bdF x nw σ)) (up2 (lgE (boF x nw (bdF x nw σ)) nw η k) 1 k (zI (anyN (ltB (boF x nw (bdF x nw σ)) k) (o9 + 1))))) G := Eq.mp (congrArg (fun z9 => va_P D vwCl (wM cI cZ a th n nw ns (boF x nw (bdF x nw σ)) z9) G) hw9) hP
                                      clear hw9
                                      have hl9 : lv_has ls 4 [(3, .int (nI (o9 + 1))), (2, .int (nI k)), (0, .ref (a 0)), (1, .int x)] := lv_sub hl [0, 1, 2, 3] rfl
                                      exact ih166 (o9 + 1) (by omega) (by omega) G locs hP hS ls hl9
                                    · skip
                                      refine lv_iconst (v := nI 1) hx hb dX3_burn_207 rfl ?_
                                      refine lv_goto (tgt := 212) hx hb dX3_burn_208 (by decide) ?_
                                      refine li_zst hx hb hK hP hA.DM hS 9 1 rfl rfl (by omega) (by decide) (rfl) stE_1 dX3_burn_212 (fun G locs hP hS => ?_)
                                      refine lv_iinc (v := nI (o9 + 1)) (lv' := [(3, .int (nI (o9 + 1))), (2, .int (nI k)), (0, .ref (a 0)), (1, .int x)]) hx hb dX3_burn_213 hl (k := 0) rfl (nI_inc _ _) (by decide) rfl (fun ls hl => ?_)
                                      refine lv_goto (tgt := 166) hx hb dX3_burn_216 (by decide) ?_
                                      have hw9 : up2 (up2 (lgE (boF x nw (bdF x nw σ)) nw η k) 1 k (zI (anyN (ltB (boF x nw (bdF x nw σ)) k) o9))) 1 k (nI 1) = up2 (lgE (boF x nw (bdF x nw σ)) nw η k) 1 k (zI (anyN (ltB (boF x nw (bdF x nw σ)) k) (o9 + 1))) := by rw [up2_up2]; refine congrArg (up2 _ 1 k) ?_; symm; first | exact anyN_s1 (Or.inl (by assumption)) | exact anyN_s1 (Or.inr (by unfold ltB; simp [c26, c27, c28, c29]; done)) | exact anyN_s0 (by assumption) (by unfold ltB; simp [c26, c27, c28, c29]; done)
                                      have hP : va_P D vwCl (wM cI cZ a th n nw ns (boF x nw (bdF x nw σ)) (up2 (lgE (boF x nw (bdF x nw σ)) nw η k) 1 k (zI (anyN (ltB (boF x nw (bdF x nw σ)) k) (o9 + 1))))) G := Eq.mp (congrArg (fun z9 => va_P D vwCl (wM cI cZ a th n nw ns (boF x nw (bdF x nw σ)) z9) G) hw9) hP
                                      clear hw9
                                      have hl9 : lv_has ls 4 [(3, .int (nI (o9 + 1))), (2, .int (nI k)), (0, .ref (a 0)), (1, .int x)] := lv_sub hl [0, 1, 2, 3] rfl
                                      exact ih166 (o9 + 1) (by omega) (by omega) G locs hP hS ls hl9
                          have hw9 : up2 (lgE (boF x nw (bdF x nw σ)) nw η k) 1 k (nI 0) = up2 (lgE (boF x nw (bdF x nw σ)) nw η k) 1 k (zI (anyN (ltB (boF x nw (bdF x nw σ)) k) 0)) := rfl
                          have hP : va_P D vwCl (wM cI cZ a th n nw ns (boF x nw (bdF x nw σ)) (up2 (lgE (boF x nw (bdF x nw σ)) nw η k) 1 k (zI (anyN (ltB (boF x nw (bdF x nw σ)) k) 0)))) G := Eq.mp (congrArg (fun z9 => va_P D vwCl (wM cI cZ a th n nw ns (boF x nw (bdF x nw σ)) z9) G) hw9) hP
                          clear hw9
                          have hl9 : lv_has ls 4 [(3, .int (nI 0)), (2, .int (nI k)), (0, .ref (a 0)), (1, .int x)] := lv_sub hl [0, 1, 2, 3] rfl
                          exact L166_25 ((nw - 0) + 1) 0 (Nat.lt_succ_self _) (by omega) G locs hP hS ls hl9
                        · skip
                          refine lv_goto (tgt := 219) hx hb dX3_burn_161 (by decide) ?_
                          refine lv_iinc (v := nI (k + 1)) (lv' := [(2, .int (nI (k + 1))), (0, .ref (a 0)), (1, .int x)]) hx hb dX3_burn_219 hl (k := 0) rfl (nI_inc _ _) (by decide) rfl (fun ls hl => ?_)
                          refine lv_goto (tgt := 129) hx hb dX3_burn_222 (by decide) ?_
                          have hw9 : up2 (lgE (boF x nw (bdF x nw σ)) nw η k) 1 k (nI 0) = lgE (boF x nw (bdF x nw σ)) nw η (k + 1) := by first | exact lgE_s (by rw [lt9_0 (by assumption)]; rfl) | exact lgE_s (by rw [lt9_1 (by assumption)]; rfl) | exact lgE_s (by rw [lt9_a (by assumption) (by assumption), show nw = o9 by omega])
                          have hP : va_P D vwCl (wM cI cZ a th n nw ns (boF x nw (bdF x nw σ)) (lgE (boF x nw (bdF x nw σ)) nw η (k + 1))) G := Eq.mp (congrArg (fun z9 => va_P D vwCl (wM cI cZ a th n nw ns (boF x nw (bdF x nw σ)) z9) G) hw9) hP
                          clear hw9
                          have hl9 : lv_has ls 4 [(2, .int (nI (k + 1))), (0, .ref (a 0)), (1, .int x)] := lv_sub hl [0, 1, 2] rfl
                          exact ih129 (k + 1) (by omega) (by omega) G locs hP hS ls hl9
                have hw9 : foldN (bo1 nw) k (bdF x nw σ) = (boF x nw (bdF x nw σ)) := by first | (unfold boF; rw [if_neg (fun q => absurd q (Int32.not_le.mpr (by assumption)))]; rcases hx9 with q | q; (rw [q]; rfl); exact absurd q (Int32.not_le.mpr (by assumption))) | (unfold boF; split; rw [show k = nw by omega]; rcases hx9 with q | q; (rw [q]; rfl); exact absurd q (by assumption))
                have hP : va_P D vwCl (wM cI cZ a th n nw ns (boF x nw (bdF x nw σ)) η) G := Eq.mp (congrArg (fun z9 => va_P D vwCl (wM cI cZ a th n nw ns z9 η) G) hw9) hP
                clear hw9
                have hw9 : η = lgE (boF x nw (bdF x nw σ)) nw η 0 := lgE_0.symm
                have hP : va_P D vwCl (wM cI cZ a th n nw ns (boF x nw (bdF x nw σ)) (lgE (boF x nw (bdF x nw σ)) nw η 0)) G := Eq.mp (congrArg (fun z9 => va_P D vwCl (wM cI cZ a th n nw ns (boF x nw (bdF x nw σ)) z9) G) hw9) hP
                clear hw9
                have hl9 : lv_has ls 4 [(2, .int (nI 0)), (0, .ref (a 0)), (1, .int x)] := lv_sub hl [0, 1, 2] rfl
                exact L129_18 ((nw - 0) + 1) 0 (Nat.lt_succ_self _) (by omega) G locs hP hS ls hl9
              · skip
                refine lv_aload_n hx hb dX3_burn_97 rfl (lv_at hl 1 rfl) ?_
                refine lv_iload_n hx hb dX3_burn_98 rfl (lv_at hl 0 rfl) ?_
                refine roV (As := [.int (nI k)]) (q0 := 0) (ci := 3) hx hb hml hown hts (c_X3_walks l D cI cZ cL cO a th n nw ns (foldN (bo1 nw) k (bdF x nw σ)) η G k (hB) (by omega)) (cwV 1 hts gX3_burn_X3_walks rfl rfl rfl (by decide +kernel) ⟨by decide, by decide⟩) hK hE hP rfl rfl rfl rfl hl.1 rfl (Nat.le_of_ble_eq_true rfl) hS dX3_burn_99 ⟨Nat.zero_le _, Nat.zero_le _⟩ (fun locs hS => ?_)
                refine li_zeq (tgt := 121) hx hb dX3_burn_102 (by decide) (fun c30 => ?_) (fun c30 => ?_)
                · skip
                  replace c30 := of_decide_eq_false c30
                  refine lv_iinc (v := nI (k + 1)) (lv' := [(2, .int (nI (k + 1))), (0, .ref (a 0)), (1, .int x)]) hx hb dX3_burn_121 hl (k := 0) rfl (nI_inc _ _) (by decide) rfl (fun ls hl => ?_)
                  refine lv_goto (tgt := 83) hx hb dX3_burn_124 (by decide) ?_
                  have hw9 : foldN (bo1 nw) k (bdF x nw σ) = foldN (bo1 nw) (k + 1) (bdF x nw σ) := by first | exact (bo1_0 (by assumption)).symm | exact (bo1_2 (by assumption)).symm | exact (bo1_a (by assumption) (by assumption)).symm
                  have hP : va_P D vwCl (wM cI cZ a th n nw ns (foldN (bo1 nw) (k + 1) (bdF x nw σ)) η) G := Eq.mp (congrArg (fun z9 => va_P D vwCl (wM cI cZ a th n nw ns z9 η) G) hw9) hP
                  clear hw9
                  have hl9 : lv_has ls 4 [(2, .int (nI (k + 1))), (0, .ref (a 0)), (1, .int x)] := lv_sub hl [0, 1, 2] rfl
                  exact ih83 (k + 1) (by omega) (by omega) (Or.inr (by first | assumption | exact Int32.not_lt.mp (by assumption))) G locs hP hS ls hl9
                · skip
                  replace c30 := of_decide_eq_true c30
                  refine lv_aload_n hx hb dX3_burn_105 rfl (lv_at hl 1 rfl) ?_
                  refine lv_iload_n hx hb dX3_burn_106 rfl (lv_at hl 0 rfl) ?_
                  refine roV (As := [.int (nI k)]) (q0 := 0) (ci := 3) hx hb hml hown hts (c_X3_neighbours l D cI cZ cL cO a th n nw ns (foldN (bo1 nw) k (bdF x nw σ)) η G k (hB) (by omega)) (cwV 1 hts gX3_burn_X3_neighbours rfl rfl rfl (by decide +kernel) ⟨by decide, by decide⟩) hK hE hP rfl rfl rfl rfl hl.1 rfl (Nat.le_of_ble_eq_true rfl) hS dX3_burn_107 ⟨Nat.zero_le _, Nat.zero_le _⟩ (fun locs hS => ?_)
                  refine lv_iconst (v := nI 2) hx hb dX3_burn_110 rfl ?_
                  refine li_ge (tgt := 121) hx hb dX3_burn_111 (by decide) (by first | omega | (have := nb_le (σ := foldN (bo1 nw) k (bdF x nw σ)) (nw := nw) (w := k); omega)) (by first | omega | (have := nb_le (σ := foldN (bo1 nw) k (bdF x nw σ)) (nw := nw) (w := k); omega)) (fun c31 => ?_) (fun c31 => ?_)
                  · skip
                    refine lv_iinc (v := nI (k + 1)) (lv' := [(2, .int (nI (k + 1))), (0, .ref (a 0)), (1, .int x)]) hx hb dX3_burn_121 hl (k := 0) rfl (nI_inc _ _) (by decide) rfl (fun ls hl => ?_)
                    refine lv_goto (tgt := 83) hx hb dX3_burn_124 (by decide) ?_
                    have hw9 : foldN (bo1 nw) k (bdF x nw σ) = foldN (bo1 nw) (k + 1) (bdF x nw σ) := by first | exact (bo1_0 (by assumption)).symm | exact (bo1_2 (by assumption)).symm | exact (bo1_a (by assumption) (by assumption)).symm
                    have hP : va_P D vwCl (wM cI cZ a th n nw ns (foldN (bo1 nw) (k + 1) (bdF x nw σ)) η) G := Eq.mp (congrArg (fun z9 => va_P D vwCl (wM cI cZ a th n nw ns z9 η) G) hw9) hP
                    clear hw9
                    have hl9 : lv_has ls 4 [(2, .int (nI (k + 1))), (0, .ref (a 0)), (1, .int x)] := lv_sub hl [0, 1, 2] rfl
                    exact ih83 (k + 1) (by omega) (by omega) (Or.inr (by first | assumption | exact Int32.not_lt.mp (by assumption))) G locs hP hS ls hl9
                  · skip
                    refine lv_aload_n hx hb dX3_burn_114 rfl (lv_at hl 1 rfl) ?_
                    refine lv_iload_n hx hb dX3_burn_115 rfl (lv_at hl 0 rfl) ?_
                    refine lv_iconst (v := nI 3) hx hb dX3_burn_116 rfl ?_
                    refine lv_iconst (v := nI 0) hx hb dX3_burn_117 rfl ?_
                    refine muV (As := [.int (nI k), .int (nI 3), .int (nI 0)]) (q0 := 0) (ci := 3) hx hb hml hown hts (c_X3_set l D cI cZ cL cO a th n nw ns (foldN (bo1 nw) k (bdF x nw σ)) η G k 3 (nI 0) A hA (hB) (by omega) (by omega)) (cwV 3 hts gX3_burn_X3_set rfl rfl rfl (by decide +kernel) ⟨by decide, by decide⟩) hK hE hP rfl rfl rfl rfl hl.1 rfl (Nat.le_of_ble_eq_true rfl) hS (fun _ h => h) dX3_burn_118 ⟨Nat.zero_le _, Nat.zero_le _⟩ (fun G locs hP _ _ hS => ?_)
                    have hP : va_P D vwCl (wM cI cZ a th n nw ns (up2 (foldN (bo1 nw) k (bdF x nw σ)) 11 k (nI 0)) η) G := hP
                    refine lv_iinc (v := nI (k + 1)) (lv' := [(2, .int (nI (k + 1))), (0, .ref (a 0)), (1, .int x)]) hx hb dX3_burn_121 hl (k := 0) rfl (nI_inc _ _) (by decide) rfl (fun ls hl => ?_)
                    refine lv_goto (tgt := 83) hx hb dX3_burn_124 (by decide) ?_
                    have hw9 : up2 (foldN (bo1 nw) k (bdF x nw σ)) 11 k (nI 0) = foldN (bo1 nw) (k + 1) (bdF x nw σ) := by first | exact (bo1_0 (by assumption)).symm | exact (bo1_2 (by assumption)).symm | exact (bo1_a (by assumption) (by assumption)).symm
                    have hP : va_P D vwCl (wM cI cZ a th n nw ns (foldN (bo1 nw) (k + 1) (bdF x nw σ)) η) G := Eq.mp (congrArg (fun z9 => va_P D vwCl (wM cI cZ a th n nw ns z9 η) G) hw9) hP
                    clear hw9
                    have hl9 : lv_has ls 4 [(2, .int (nI (k + 1))), (0, .ref (a 0)), (1, .int x)] := lv_sub hl [0, 1, 2] rfl
                    exact ih83 (k + 1) (by omega) (by omega) (Or.inr (by first | assumption | exact Int32.not_lt.mp (by assumption))) G locs hP hS ls hl9
        have hw9 : foldN (bd1 (lossOf x)) k σ = foldN (bo1 nw) 0 (bdF x nw σ) := by rw [show k = nw by omega]; rfl
        have hP : va_P D vwCl (wM cI cZ a th n nw ns (foldN (bo1 nw) 0 (bdF x nw σ)) η) G := Eq.mp (congrArg (fun z9 => va_P D vwCl (wM cI cZ a th n nw ns z9 η) G) hw9) hP
        clear hw9
        have hl9 : lv_has ls 4 [(2, .int (nI 0)), (0, .ref (a 0)), (1, .int x)] := lv_sub hl [0, 1, 2] rfl
        exact L83_3 ((nw - 0) + 1) 0 (Nat.lt_succ_self _) (by omega) (Or.inl rfl) G locs hP hS ls hl9
      · skip
        refine lv_aload_n hx hb dX3_burn_10 rfl (lv_at hl 1 rfl) ?_
        refine lv_iload_n hx hb dX3_burn_11 rfl (lv_at hl 0 rfl) ?_
        refine lv_iconst (v := nI 3) hx hb dX3_burn_12 rfl ?_
        refine roV (As := [.int (nI k), .int (nI 3)]) (q0 := 0) (ci := 3) hx hb hml hown hts (c_X3_pe l D cI cZ cL cO a th n nw ns (foldN (bd1 (lossOf x)) k σ) η G k 3 (hB) (by omega) (by omega)) (cwV 2 hts gX3_burn_X3_pe rfl rfl rfl (by decide +kernel) ⟨by decide, by decide⟩) hK hE hP rfl rfl rfl rfl hl.1 rfl (Nat.le_of_ble_eq_true rfl) hS dX3_burn_13 ⟨Nat.zero_le _, Nat.zero_le _⟩ (fun locs hS => ?_)
        refine li_topi (show (foldN (bd1 (lossOf x)) k σ) (pid 3) k = (foldN (bd1 (lossOf x)) k σ) 11 k from rfl) ?_
        refine lv_if_eq (tgt := 75) hx hb dX3_burn_16 (by decide) (fun c32 => ?_) (fun c32 => ?_)
        · skip
          refine lv_iinc (v := nI (k + 1)) (lv' := [(2, .int (nI (k + 1))), (0, .ref (a 0)), (1, .int x)]) hx hb dX3_burn_75 hl (k := 0) rfl (nI_inc _ _) (by decide) rfl (fun ls hl => ?_)
          refine lv_goto (tgt := 2) hx hb dX3_burn_78 (by decide) ?_
          have hw9 : foldN (bd1 (lossOf x)) k σ = foldN (bd1 (lossOf x)) (k + 1) σ := by first | exact (bd1_0 (by assumption)).symm | exact (bd1_2 (by assumption)).symm
          have hP : va_P D vwCl (wM cI cZ a th n nw ns (foldN (bd1 (lossOf x)) (k + 1) σ) η) G := Eq.mp (congrArg (fun z9 => va_P D vwCl (wM cI cZ a th n nw ns z9 η) G) hw9) hP
          clear hw9
          have hl9 : lv_has ls 4 [(2, .int (nI (k + 1))), (0, .ref (a 0)), (1, .int x)] := lv_sub hl [0, 1, 2] rfl
          exact ih2 (k + 1) (by omega) (by omega) G locs hP hS ls hl9
        · skip
          refine lv_aload_n hx hb dX3_burn_19 rfl (lv_at hl 1 rfl) ?_
          refine lv_iload_n hx hb dX3_burn_20 rfl (lv_at hl 0 rfl) ?_
          refine lv_iconst (v := nI 4) hx hb dX3_burn_21 rfl ?_
          refine roV (As := [.int (nI k), .int (nI 4)]) (q0 := 0) (ci := 3) hx hb hml hown hts (c_X3_pe l D cI cZ cL cO a th n nw ns (foldN (bd1 (lossOf x)) k σ) η G k 4 (hB) (by omega) (by omega)) (cwV 2 hts gX3_burn_X3_pe rfl rfl rfl (by decide +kernel) ⟨by decide, by decide⟩) hK hE hP rfl rfl rfl rfl hl.1 rfl (Nat.le_of_ble_eq_true rfl) hS dX3_burn_22 ⟨Nat.zero_le _, Nat.zero_le _⟩ (fun locs hS => ?_)
          refine li_topi (show (foldN (bd1 (lossOf x)) k σ) (pid 4) k = (foldN (bd1 (lossOf x)) k σ) 12 k from rfl) ?_
          refine lv_iconst (v := nI 2) hx hb dX3_burn_25 rfl ?_
          refine lv_icmp_ne (tgt := 32) hx hb dX3_burn_26 (by decide) (fun c33 => ?_) (fun c33 => ?_)
          · skip
            refine lv_aload_n hx hb dX3_burn_32 rfl (lv_at hl 1 rfl) ?_
            refine lv_iload_n hx hb dX3_burn_33 rfl (lv_at hl 0 rfl) ?_
            refine lv_iconst (v := nI 1) hx hb dX3_burn_34 rfl ?_
            refine lv_iconst (v := nI 0) hx hb dX3_burn_35 rfl ?_
            refine lv_aload_n hx hb dX3_burn_36 rfl (lv_at hl 1 rfl) ?_
            refine lv_iload_n hx hb dX3_burn_37 rfl (lv_at hl 0 rfl) ?_
            refine lv_iconst (v := nI 1) hx hb dX3_burn_38 rfl ?_
            refine roV (As := [.int (nI k), .int (nI 1)]) (q0 := 0) (ci := 3) hx hb hml hown hts (c_X3_pe l D cI cZ cL cO a th n nw ns (foldN (bd1 (lossOf x)) k σ) η G k 1 (hB) (by omega) (by omega)) (cwV 2 hts gX3_burn_X3_pe rfl rfl rfl (by decide +kernel) ⟨by decide, by decide⟩) hK hE hP rfl rfl rfl rfl hl.1 rfl (Nat.le_of_ble_eq_true rfl) hS dX3_burn_39 ⟨Nat.zero_le _, Nat.zero_le _⟩ (fun locs hS => ?_)
            refine li_topi (show (foldN (bd1 (lossOf x)) k σ) (pid 1) k = (foldN (bd1 (lossOf x)) k σ) 10 k from rfl) ?_
            refine lv_iload_n hx hb dX3_burn_42 rfl (lv_at hl 2 rfl) ?_
            refine lv_iconst (v := nI 5) hx hb dX3_burn_43 rfl ?_
            refine lv_icmp_le (tgt := 51) hx hb dX3_burn_44 (by decide) (fun c34 => ?_) (fun c34 => ?_)
            · skip
              refine lv_iconst (v := nI 1) hx hb dX3_burn_51 rfl ?_
              refine lv_isub hx hb dX3_burn_52 ?_
              refine va_mmax hx hb (hml.trans hl.1.symm) hown g2 g3 g4 g5 (by decide) (Nat.le_of_ble_eq_true rfl) (Nat.zero_le _) (Nat.zero_le _) dX3_burn_53 ?_
              refine li_topi (show (if nI 0 < ((foldN (bd1 (lossOf x)) k σ) 10 k) - (nI 1) then ((foldN (bd1 (lossOf x)) k σ) 10 k) - (nI 1) else nI 0) = mx0 ((foldN (bd1 (lossOf x)) k σ) 10 k - (nI 1)) from rfl) ?_
              refine muV (As := [.int (nI k), .int (nI 1), .int (mx0 ((foldN (bd1 (lossOf x)) k σ) 10 k - (nI 1)))]) (q0 := 0) (ci := 3) hx hb hml hown hts (c_X3_set l D cI cZ cL cO a th n nw ns (foldN (bd1 (lossOf x)) k σ) η G k 1 (mx0 ((foldN (bd1 (lossOf x)) k σ) 10 k - (nI 1))) A hA (hB) (by omega) (by omega)) (cwV 3 hts gX3_burn_X3_set rfl rfl rfl (by decide +kernel) ⟨by decide, by decide⟩) hK hE hP rfl rfl rfl rfl hl.1 rfl (Nat.le_of_ble_eq_true rfl) hS (fun _ h => h) dX3_burn_56 ⟨Nat.zero_le _, Nat.zero_le _⟩ (fun G locs hP _ _ hS => ?_)
              have hP : va_P D vwCl (wM cI cZ a th n nw ns (up2 (foldN (bd1 (lossOf x)) k σ) 10 k (mx0 ((foldN (bd1 (lossOf x)) k σ) 10 k - (nI 1)))) η) G := hP
              refine lv_aload_n hx hb dX3_burn_59 rfl (lv_at hl 1 rfl) ?_
              refine lv_iload_n hx hb dX3_burn_60 rfl (lv_at hl 0 rfl) ?_
              refine lv_iconst (v := nI 1) hx hb dX3_burn_61 rfl ?_
              refine roV (As := [.int (nI k), .int (nI 1)]) (q0 := 0) (ci := 3) hx hb hml hown hts (c_X3_pe l D cI cZ cL cO a th n nw ns (up2 (foldN (bd1 (lossOf x)) k σ) 10 k (mx0 ((foldN (bd1 (lossOf x)) k σ) 10 k - (nI 1)))) η G k 1 (hB) (by omega) (by omega)) (cwV 2 hts gX3_burn_X3_pe rfl rfl rfl (by decide +kernel) ⟨by decide, by decide⟩) hK hE hP rfl rfl rfl rfl hl.1 rfl (Nat.le_of_ble_eq_true rfl) hS dX3_burn_62 ⟨Nat.zero_le _, Nat.zero_le _⟩ (fun locs hS => ?_)
              refine li_topi (show (up2 (foldN (bd1 (lossOf x)) k σ) 10 k (mx0 ((foldN (bd1 (lossOf x)) k σ) 10 k - (nI 1)))) (pid 1) k = (up2 (foldN (bd1 (lossOf x)) k σ) 10 k (mx0 ((foldN (bd1 (lossOf x)) k σ) 10 k - (nI 1)))) 10 k from rfl) ?_
              refine li_topi (show (up2 (foldN (bd1 (lossOf x)) k σ) 10 k (mx0 ((foldN (bd1 (lossOf x)) k σ) 10 k - (nI 1)))) 10 k = mx0 ((foldN (bd1 (lossOf x)) k σ) 10 k - (nI 1)) from by simp [up2_at]) ?_
              refine lv_if_ne (tgt := 75) hx hb dX3_burn_65 (by decide) (fun c35 => ?_) (fun c35 => ?_)
              · skip
                refine lv_iinc (v := nI (k + 1)) (lv' := [(2, .int (nI (k + 1))), (0, .ref (a 0)), (1, .int x)]) hx hb dX3_burn_75 hl (k := 0) rfl (nI_inc _ _) (by decide) rfl (fun ls hl => ?_)
                refine lv_goto (tgt := 2) hx hb dX3_burn_78 (by decide) ?_
                have hw9 : up2 (foldN (bd1 (lossOf x)) k σ) 10 k (mx0 ((foldN (bd1 (lossOf x)) k σ) 10 k - (nI 1))) = foldN (bd1 (lossOf x)) (k + 1) σ := by exact (mb_n (foldN_bz hz k) (lossOf_le (by assumption)) (by assumption) (by assumption) (by assumption)).symm
                have hP : va_P D vwCl (wM cI cZ a th n nw ns (foldN (bd1 (lossOf x)) (k + 1) σ) η) G := Eq.mp (congrArg (fun z9 => va_P D vwCl (wM cI cZ a th n nw ns z9 η) G) hw9) hP
                clear hw9
                have hl9 : lv_has ls 4 [(2, .int (nI (k + 1))), (0, .ref (a 0)), (1, .int x)] := lv_sub hl [0, 1, 2] rfl
                exact ih2 (k + 1) (by omega) (by omega) G locs hP hS ls hl9
              · skip
                refine lv_aload_n hx hb dX3_burn_68 rfl (lv_at hl 1 rfl) ?_
                refine lv_iload_n hx hb dX3_burn_69 rfl (lv_at hl 0 rfl) ?_
                refine lv_iconst (v := nI 3) hx hb dX3_burn_70 rfl ?_
                refine lv_iconst (v := nI 0) hx hb dX3_burn_71 rfl ?_
                refine muV (As := [.int (nI k), .int (nI 3), .int (nI 0)]) (q0 := 0) (ci := 3) hx hb hml hown hts (c_X3_set l D cI cZ cL cO a th n nw ns (up2 (foldN (bd1 (lossOf x)) k σ) 10 k (mx0 ((foldN (bd1 (lossOf x)) k σ) 10 k - (nI 1)))) η G k 3 (nI 0) A hA (hB) (by omega) (by omega)) (cwV 3 hts gX3_burn_X3_set rfl rfl rfl (by decide +kernel) ⟨by decide, by decide⟩) hK hE hP rfl rfl rfl rfl hl.1 rfl (Nat.le_of_ble_eq_true rfl) hS (fun _ h => h) dX3_burn_72 ⟨Nat.zero_le _, Nat.zero_le _⟩ (fun G locs hP _ _ hS => ?_)
                have hP : va_P D vwCl (wM cI cZ a th n nw ns (up2 (up2 (foldN (bd1 (lossOf x)) k σ) 10 k (mx0 ((foldN (bd1 (lossOf x)) k σ) 10 k - (nI 1)))) 11 k (nI 0)) η) G := hP
                refine lv_iinc (v := nI (k + 1)) (lv' := [(2, .int (nI (k + 1))), (0, .ref (a 0)), (1, .int x)]) hx hb dX3_burn_75 hl (k := 0) rfl (nI_inc _ _) (by decide) rfl (fun ls hl => ?_)
                refine lv_goto (tgt := 2) hx hb dX3_burn_78 (by decide) ?_
                have hw9 : up2 (up2 (foldN (bd1 (lossOf x)) k σ) 10 k (mx0 ((foldN (bd1 (lossOf x)) k σ) 10 k - (nI 1)))) 11 k (nI 0) = foldN (bd1 (lossOf x)) (k + 1) σ := by exact (mb_z (lossOf_le (by assumption)) (by assumption) (by assumption) (by assumption)).symm
                have hP : va_P D vwCl (wM cI cZ a th n nw ns (foldN (bd1 (lossOf x)) (k + 1) σ) η) G := Eq.mp (congrArg (fun z9 => va_P D vwCl (wM cI cZ a th n nw ns z9 η) G) hw9) hP
                clear hw9
                have hl9 : lv_has ls 4 [(2, .int (nI (k + 1))), (0, .ref (a 0)), (1, .int x)] := lv_sub hl [0, 1, 2] rfl
                exact ih2 (k + 1) (by omega) (by omega) G locs hP hS ls hl9
            · skip
              refine lv_iconst (v := nI 2) hx hb dX3_burn_47 rfl ?_
              refine lv_goto (tgt := 52) hx hb dX3_burn_48 (by decide) ?_
              refine lv_isub hx hb dX3_burn_52 ?_
              refine va_mmax hx hb (hml.trans hl.1.symm) hown g2 g3 g4 g5 (by decide) (Nat.le_of_ble_eq_true rfl) (Nat.zero_le _) (Nat.zero_le _) dX3_burn_53 ?_
              refine li_topi (show (if nI 0 < ((foldN (bd1 (lossOf x)) k σ) 10 k) - (nI 2) then ((foldN (bd1 (lossOf x)) k σ) 10 k) - (nI 2) else nI 0) = mx0 ((foldN (bd1 (lossOf x)) k σ) 10 k - (nI 2)) from rfl) ?_
              refine muV (As := [.int (nI k), .int (nI 1), .int (mx0 ((foldN (bd1 (lossOf x)) k σ) 10 k - (nI 2)))]) (q0 := 0) (ci := 3) hx hb hml hown hts (c_X3_set l D cI cZ cL cO a th n nw ns (foldN (bd1 (lossOf x)) k σ) η G k 1 (mx0 ((foldN (bd1 (lossOf x)) k σ) 10 k - (nI 2))) A hA (hB) (by omega) (by omega)) (cwV 3 hts gX3_burn_X3_set rfl rfl rfl (by decide +kernel) ⟨by decide, by decide⟩) hK hE hP rfl rfl rfl rfl hl.1 rfl (Nat.le_of_ble_eq_true rfl) hS (fun _ h => h) dX3_burn_56 ⟨Nat.zero_le _, Nat.zero_le _⟩ (fun G locs hP _ _ hS => ?_)
              have hP : va_P D vwCl (wM cI cZ a th n nw ns (up2 (foldN (bd1 (lossOf x)) k σ) 10 k (mx0 ((foldN (bd1 (lossOf x)) k σ) 10 k - (nI 2)))) η) G := hP
              refine lv_aload_n hx hb dX3_burn_59 rfl (lv_at hl 1 rfl) ?_
              refine lv_iload_n hx hb dX3_burn_60 rfl (lv_at hl 0 rfl) ?_
              refine lv_iconst (v := nI 1) hx hb dX3_burn_61 rfl ?_
              refine roV (As := [.int (nI k), .int (nI 1)]) (q0 := 0) (ci := 3) hx hb hml hown hts (c_X3_pe l D cI cZ cL cO a th n nw ns (up2 (foldN (bd1 (lossOf x)) k σ) 10 k (mx0 ((foldN (bd1 (lossOf x)) k σ) 10 k - (nI 2)))) η G k 1 (hB) (by omega) (by omega)) (cwV 2 hts gX3_burn_X3_pe rfl rfl rfl (by decide +kernel) ⟨by decide, by decide⟩) hK hE hP rfl rfl rfl rfl hl.1 rfl (Nat.le_of_ble_eq_true rfl) hS dX3_burn_62 ⟨Nat.zero_le _, Nat.zero_le _⟩ (fun locs hS => ?_)
              refine li_topi (show (up2 (foldN (bd1 (lossOf x)) k σ) 10 k (mx0 ((foldN (bd1 (lossOf x)) k σ) 10 k - (nI 2)))) (pid 1) k = (up2 (foldN (bd1 (lossOf x)) k σ) 10 k (mx0 ((foldN (bd1 (lossOf x)) k σ) 10 k - (nI 2)))) 10 k from rfl) ?_
              refine li_topi (show (up2 (foldN (bd1 (lossOf x)) k σ) 10 k (mx0 ((foldN (bd1 (lossOf x)) k σ) 10 k - (nI 2)))) 10 k = mx0 ((foldN (bd1 (lossOf x)) k σ) 10 k - (nI 2)) from by simp [up2_at]) ?_
              refine lv_if_ne (tgt := 75) hx hb dX3_burn_65 (by decide) (fun c36 => ?_) (fun c36 => ?_)
              · skip
                refine lv_iinc (v := nI (k + 1)) (lv' := [(2, .int (nI (k + 1))), (0, .ref (a 0)), (1, .int x)]) hx hb dX3_burn_75 hl (k := 0) rfl (nI_inc _ _) (by decide) rfl (fun ls hl => ?_)
                refine lv_goto (tgt := 2) hx hb dX3_burn_78 (by decide) ?_
                have hw9 : up2 (foldN (bd1 (lossOf x)) k σ) 10 k (mx0 ((foldN (bd1 (lossOf x)) k σ) 10 k - (nI 2))) = foldN (bd1 (lossOf x)) (k + 1) σ := by exact (mb_n (foldN_bz hz k) (lossOf_nle (by assumption)) (by assumption) (by assumption) (by assumption)).symm
                have hP : va_P D vwCl (wM cI cZ a th n nw ns (foldN (bd1 (lossOf x)) (k + 1) σ) η) G := Eq.mp (congrArg (fun z9 => va_P D vwCl (wM cI cZ a th n nw ns z9 η) G) hw9) hP
                clear hw9
                have hl9 : lv_has ls 4 [(2, .int (nI (k + 1))), (0, .ref (a 0)), (1, .int x)] := lv_sub hl [0, 1, 2] rfl
                exact ih2 (k + 1) (by omega) (by omega) G locs hP hS ls hl9
              · skip
                refine lv_aload_n hx hb dX3_burn_68 rfl (lv_at hl 1 rfl) ?_
                refine lv_iload_n hx hb dX3_burn_69 rfl (lv_at hl 0 rfl) ?_
                refine lv_iconst (v := nI 3) hx hb dX3_burn_70 rfl ?_
                refine lv_iconst (v := nI 0) hx hb dX3_burn_71 rfl ?_
                refine muV (As := [.int (nI k), .int (nI 3), .int (nI 0)]) (q0 := 0) (ci := 3) hx hb hml hown hts (c_X3_set l D cI cZ cL cO a th n nw ns (up2 (foldN (bd1 (lossOf x)) k σ) 10 k (mx0 ((foldN (bd1 (lossOf x)) k σ) 10 k - (nI 2)))) η G k 3 (nI 0) A hA (hB) (by omega) (by omega)) (cwV 3 hts gX3_burn_X3_set rfl rfl rfl (by decide +kernel) ⟨by decide, by decide⟩) hK hE hP rfl rfl rfl rfl hl.1 rfl (Nat.le_of_ble_eq_true rfl) hS (fun _ h => h) dX3_burn_72 ⟨Nat.zero_le _, Nat.zero_le _⟩ (fun G locs hP _ _ hS => ?_)
                have hP : va_P D vwCl (wM cI cZ a th n nw ns (up2 (up2 (foldN (bd1 (lossOf x)) k σ) 10 k (mx0 ((foldN (bd1 (lossOf x)) k σ) 10 k - (nI 2)))) 11 k (nI 0)) η) G := hP
                refine lv_iinc (v := nI (k + 1)) (lv' := [(2, .int (nI (k + 1))), (0, .ref (a 0)), (1, .int x)]) hx hb dX3_burn_75 hl (k := 0) rfl (nI_inc _ _) (by decide) rfl (fun ls hl => ?_)
                refine lv_goto (tgt := 2) hx hb dX3_burn_78 (by decide) ?_
                have hw9 : up2 (up2 (foldN (bd1 (lossOf x)) k σ) 10 k (mx0 ((foldN (bd1 (lossOf x)) k σ) 10 k - (nI 2)))) 11 k (nI 0) = foldN (bd1 (lossOf x)) (k + 1) σ := by exact (mb_z (lossOf_nle (by assumption)) (by assumption) (by assumption) (by assumption)).symm
                have hP : va_P D vwCl (wM cI cZ a th n nw ns (foldN (bd1 (lossOf x)) (k + 1) σ) η) G := Eq.mp (congrArg (fun z9 => va_P D vwCl (wM cI cZ a th n nw ns z9 η) G) hw9) hP
                clear hw9
                have hl9 : lv_has ls 4 [(2, .int (nI (k + 1))), (0, .ref (a 0)), (1, .int x)] := lv_sub hl [0, 1, 2] rfl
                exact ih2 (k + 1) (by omega) (by omega) G locs hP hS ls hl9
          · skip
            refine lv_goto (tgt := 75) hx hb dX3_burn_29 (by decide) ?_
            refine lv_iinc (v := nI (k + 1)) (lv' := [(2, .int (nI (k + 1))), (0, .ref (a 0)), (1, .int x)]) hx hb dX3_burn_75 hl (k := 0) rfl (nI_inc _ _) (by decide) rfl (fun ls hl => ?_)
            refine lv_goto (tgt := 2) hx hb dX3_burn_78 (by decide) ?_
            have hw9 : foldN (bd1 (lossOf x)) k σ = foldN (bd1 (lossOf x)) (k + 1) σ := by first | exact (bd1_0 (by assumption)).symm | exact (bd1_2 (by assumption)).symm
            have hP : va_P D vwCl (wM cI cZ a th n nw ns (foldN (bd1 (lossOf x)) (k + 1) σ) η) G := Eq.mp (congrArg (fun z9 => va_P D vwCl (wM cI cZ a th n nw ns z9 η) G) hw9) hP
            clear hw9
            have hl9 : lv_has ls 4 [(2, .int (nI (k + 1))), (0, .ref (a 0)), (1, .int x)] := lv_sub hl [0, 1, 2] rfl
            exact ih2 (k + 1) (by omega) (by omega) G locs hP hS ls hl9
  have hw9 : σ = foldN (bd1 (lossOf x)) 0 σ := rfl
  have hP : va_P D vwCl (wM cI cZ a th n nw ns (foldN (bd1 (lossOf x)) 0 σ) η) H := Eq.mp (congrArg (fun z9 => va_P D vwCl (wM cI cZ a th n nw ns z9 η) H) hw9) hP
  clear hw9
  have hl9 : lv_has ls 4 [(2, .int (nI 0)), (0, .ref (a 0)), (1, .int x)] := lv_sub hl [0, 1, 2] rfl
  exact L2_1 ((nw - 0) + 1) 0 (Nat.lt_succ_self _) (by omega) H locs hP hS ls hl9
