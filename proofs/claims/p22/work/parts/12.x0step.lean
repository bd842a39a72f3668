/-! the parade: what a step changes -/
set_option maxHeartbeats 4000000 in
set_option maxRecDepth 100000 in
theorem c_X0_burnDown (l : Launch) (D : va_G) (cI cZ cL cO : ClassId) (a : Nat → Nat) (n pl nw ns : Nat) (σ κ : Nat → Nat → Int32) (H : Heap) (x : Int32) (A : Nat → Prop) (hA : okP A a 24) (hB : n ≤ 10 ∧ pl ≤ 200 ∧ nw ≤ 20 ∧ ns ≤ 6) : Met l yX0_burnDown wsX0_burnDown ({ frames := 1, cells := 0, slots := 0, locals := 19 } : Room) (ro_P D (T4 cI cZ cL cO) (wP cI cZ a n pl nw ns σ κ) H [.ref (a 0), .int x]) (mu_Q D (wP cI cZ a n pl nw ns (bdF x nw σ) κ) A) 0 0 A := by
  refine mu_of (cc := cX0_burnDown) (maxL := 4) (by decide) rfl (Nat.le_of_ble_eq_true rfl) ?_
  intro p e s m args below meth c Q ls locs hx hb hml hown hts hK hE hP hl hS hEnd
  have hl : lv_has ls 4 [(0, .ref (a 0)), (1, .int x)] := hl
  have hX0 : ∀ w ∈ wsX00, w.before args s = true := fun w h => hts w (List.mem_cons_of_mem _ (List.mem_append_left _ (List.mem_append_right _ (h))))
  have hX1 : ∀ w ∈ wsX10, w.before args s = true := fun w h => hts w (List.mem_cons_of_mem _ (List.mem_append_right _ (h)))
  have f58 : (Cond.fieldLink RX0 58 "LanternWalk$Parade" "setting" "LLanternWalk$Setting;").before args s = true := hts _ (List.mem_of_getElem? (i := 1) rfl)
  have f92 : (Cond.fieldLink RX0 92 "LanternWalk$Setting" "walkers" "I").before args s = true := hts _ (List.mem_of_getElem? (i := 2) rfl)
  have f24 : (Cond.fieldLink RX0 24 "LanternWalk$Parade" "burns" "[Z").before args s = true := hts _ (List.mem_of_getElem? (i := 3) rfl)
  have f28 : (Cond.fieldLink RX0 28 "LanternWalk$Parade" "stage" "[I").before args s = true := hts _ (List.mem_of_getElem? (i := 4) rfl)
  have f21 : (Cond.fieldLink RX0 21 "LanternWalk$Parade" "wick" "[I").before args s = true := hts _ (List.mem_of_getElem? (i := 5) rfl)
  have g5 : (Cond.methodLink RX0 155 Lib.Math.max.name).before args s = true := hts _ (List.mem_of_getElem? (i := 6) rfl)
  have g6 : (Cond.static Lib.Math.max.name).before args s = true := hts _ (List.mem_of_getElem? (i := 7) rfl)
  have g7 : (Cond.initialized "java/lang/Math").before args s = true := hts _ (List.mem_of_getElem? (i := 8) rfl)
  have g8 : (Cond.code Lib.Math.max.name Lib.Math.max.code 2 (some .int)).before args s = true := hts _ (List.mem_of_getElem? (i := 9) rfl)
  refine lv_iload_n hx hb dX0_burnDown_0 rfl (lv_at hl 1 rfl) ?_
  refine lv_bipush (v := nI 6) hx hb dX0_burnDown_1 rfl ?_
  refine lv_icmp_lt (tgt := 10) hx hb dX0_burnDown_3 (by decide) (fun c1 => ?_) (fun c1 => ?_)
  · skip
    refine lv_iconst (v := nI 1) hx hb dX0_burnDown_10 rfl ?_
    refine lv_istore_n (lv' := [(2, .int (nI 1)), (0, .ref (a 0)), (1, .int x)]) hx hb dX0_burnDown_11 rfl hl (by decide) rfl (fun ls hl => ?_)
    refine lv_iconst (v := nI 0) hx hb dX0_burnDown_12 rfl ?_
    refine lv_istore_n (lv' := [(3, .int (nI 0)), (2, .int (nI 1)), (0, .ref (a 0)), (1, .int x)]) hx hb dX0_burnDown_13 rfl hl (by decide) rfl (fun ls hl => ?_)
    have L14_2 : ∀ (fuel : Nat) (k : Nat) (ls0 : Int32), (nw - k) < fuel → (k ≤ nw) → (ls0 = lossOf x) → ∀ (G : Heap) (locs : List Loc), va_P D vwCl (wP cI cZ a n pl nw ns (foldN (bd1 ls0) k σ) κ) G → va_S A H G locs → ∀ (ls : Array Slot), lv_has ls 4 [(3, .int (nI k)), (2, .int ls0), (0, .ref (a 0)), (1, .int x)] → W p l e ({ frames := 1, cells := 0, slots := 0, locals := 19 } : Room) s m args below meth c G locs 0 0 Q (F0 m 14 ls []) := by
      intro fuel
      induction fuel with
      | zero =>
        intro k ls0 hfuel
        exact absurd hfuel (Nat.not_lt_zero _)
      | succ fuel ih14 =>
        intro k ls0 hfuel14 hk hls G locs hP hS ls hl
        refine lv_iload_n hx hb dX0_burnDown_14 rfl (lv_at hl 0 rfl) ?_
        refine lv_aload_n hx hb dX0_burnDown_15 rfl (lv_at hl 2 rfl) ?_
        refine li_gf0 hx hb hX0 hown hK hP 0 rfl 0 (by decide) f58 rfl dX0_burnDown_16 ?_
        refine li_gf1 hx hb hX1 hown hK hP 16 rfl 6 (by decide) f92 rfl dX0_burnDown_19 ?_
        refine li_ge (tgt := 88) hx hb dX0_burnDown_22 (by decide) (by omega) (by omega) (fun c3 => ?_) (fun c3 => ?_)
        · skip
          have hw9 : foldN (bd1 ls0) k σ = bdF x nw σ := by rw [show k = nw by omega, hls]; rfl
          have hP : va_P D vwCl (wP cI cZ a n pl nw ns (bdF x nw σ) κ) G := Eq.mp (congrArg (fun z9 => va_P D vwCl (wP cI cZ a n pl nw ns z9 κ) G) hw9) hP
          clear hw9
          exact hEnd 88 ls G locs dX0_burnDown_88 hP hS
        · skip
          refine lv_aload_n hx hb dX0_burnDown_25 rfl (lv_at hl 2 rfl) ?_
          refine li_gf0 hx hb hX0 hown hK hP 0 rfl 6 (by decide) f24 rfl dX0_burnDown_26 ?_
          refine lv_iload_n hx hb dX0_burnDown_29 rfl (lv_at hl 0 rfl) ?_
          refine li_zld hx hb hK hP 5 1 rfl rfl (by omega) (by decide) dX0_burnDown_30 ?_
          refine lv_if_eq (tgt := 82) hx hb dX0_burnDown_31 (by decide) (fun c4 => ?_) (fun c4 => ?_)
          · skip
            refine lv_iinc (v := nI (k + 1)) (lv' := [(3, .int (nI (k + 1))), (2, .int ls0), (0, .ref (a 0)), (1, .int x)]) hx hb dX0_burnDown_82 hl (k := 0) rfl (nI_inc _ _) (by decide) rfl (fun ls hl => ?_)
            refine lv_goto (tgt := 14) hx hb dX0_burnDown_85 (by decide) ?_
            have hw9 : foldN (bd1 ls0) k σ = foldN (bd1 ls0) (k + 1) σ := by first | exact (bd1_0 (by assumption)).symm | exact (bd1_2 (by assumption)).symm | exact (bd1_a (by assumption) (by assumption) (by assumption)).symm | exact (bd1_b (by assumption) (by assumption) (by assumption)).symm
            have hP : va_P D vwCl (wP cI cZ a n pl nw ns (foldN (bd1 ls0) (k + 1) σ) κ) G := Eq.mp (congrArg (fun z9 => va_P D vwCl (wP cI cZ a n pl nw ns z9 κ) G) hw9) hP
            clear hw9
            have hl9 : lv_has ls 4 [(3, .int (nI (k + 1))), (2, .int ls0), (0, .ref (a 0)), (1, .int x)] := lv_sub hl [0, 1, 2, 3] rfl
            exact ih14 (k + 1) ls0 (by omega) (by omega) (by omega) G locs hP hS ls hl9
          · skip
            refine lv_aload_n hx hb dX0_burnDown_34 rfl (lv_at hl 2 rfl) ?_
            refine li_gf0 hx hb hX0 hown hK hP 0 rfl 7 (by decide) f28 rfl dX0_burnDown_35 ?_
            refine lv_iload_n hx hb dX0_burnDown_38 rfl (lv_at hl 0 rfl) ?_
            refine li_ild hx hb hK hP 6 0 rfl rfl (by omega) (by decide) dX0_burnDown_39 ?_
            refine lv_iconst (v := nI 2) hx hb dX0_burnDown_40 rfl ?_
            refine lv_icmp_eq (tgt := 82) hx hb dX0_burnDown_41 (by decide) (fun c5 => ?_) (fun c5 => ?_)
            · skip
              refine lv_iinc (v := nI (k + 1)) (lv' := [(3, .int (nI (k + 1))), (2, .int ls0), (0, .ref (a 0)), (1, .int x)]) hx hb dX0_burnDown_82 hl (k := 0) rfl (nI_inc _ _) (by decide) rfl (fun ls hl => ?_)
              refine lv_goto (tgt := 14) hx hb dX0_burnDown_85 (by decide) ?_
              have hw9 : foldN (bd1 ls0) k σ = foldN (bd1 ls0) (k + 1) σ := by first | exact (bd1_0 (by assumption)).symm | exact (bd1_2 (by assumption)).symm | exact (bd1_a (by assumption) (by assumption) (by assumption)).symm | exact (bd1_b (by assumption) (by assumption) (by assumption)).symm
              have hP : va_P D vwCl (wP cI cZ a n pl nw ns (foldN (bd1 ls0) (k + 1) σ) κ) G := Eq.mp (congrArg (fun z9 => va_P D vwCl (wP cI cZ a n pl nw ns z9 κ) G) hw9) hP
              clear hw9
              have hl9 : lv_has ls 4 [(3, .int (nI (k + 1))), (2, .int ls0), (0, .ref (a 0)), (1, .int x)] := lv_sub hl [0, 1, 2, 3] rfl
              exact ih14 (k + 1) ls0 (by omega) (by omega) (by omega) G locs hP hS ls hl9
            · skip
              refine lv_aload_n hx hb dX0_burnDown_44 rfl (lv_at hl 2 rfl) ?_
              refine li_gf0 hx hb hX0 hown hK hP 0 rfl 5 (by decide) f21 rfl dX0_burnDown_45 ?_
              refine lv_iload_n hx hb dX0_burnDown_48 rfl (lv_at hl 0 rfl) ?_
              refine lv_iconst (v := nI 0) hx hb dX0_burnDown_49 rfl ?_
              refine lv_aload_n hx hb dX0_burnDown_50 rfl (lv_at hl 2 rfl) ?_
              refine li_gf0 hx hb hX0 hown hK hP 0 rfl 5 (by decide) f21 rfl dX0_burnDown_51 ?_
              refine lv_iload_n hx hb dX0_burnDown_54 rfl (lv_at hl 0 rfl) ?_
              refine li_ild hx hb hK hP 4 0 rfl rfl (by omega) (by decide) dX0_burnDown_55 ?_
              refine lv_iload_n hx hb dX0_burnDown_56 rfl (lv_at hl 1 rfl) ?_
              refine lv_isub hx hb dX0_burnDown_57 ?_
              refine va_mmax hx hb (hml.trans hl.1.symm) hown g5 g6 g7 g8 (by decide) (Nat.le_of_ble_eq_true rfl) (Nat.zero_le _) (Nat.zero_le _) dX0_burnDown_58 ?_
              refine li_topi (show (if nI 0 < ((foldN (bd1 ls0) k σ) 10 k) - ls0 then ((foldN (bd1 ls0) k σ) 10 k) - ls0 else nI 0) = mx0 ((foldN (bd1 ls0) k σ) 10 k - ls0) from rfl) ?_
              refine li_ist hx hb hK hP hA.D hS 4 0 rfl rfl (by omega) (by decide) stP_10 dX0_burnDown_61 (fun G locs hP hS => ?_)
              refine lv_aload_n hx hb dX0_burnDown_62 rfl (lv_at hl 2 rfl) ?_
              refine li_gf0 hx hb hX0 hown hK hP 0 rfl 6 (by decide) f24 rfl dX0_burnDown_63 ?_
              refine lv_iload_n hx hb dX0_burnDown_66 rfl (lv_at hl 0 rfl) ?_
              refine lv_aload_n hx hb dX0_burnDown_67 rfl (lv_at hl 2 rfl) ?_
              refine li_gf0 hx hb hX0 hown hK hP 0 rfl 5 (by decide) f21 rfl dX0_burnDown_68 ?_
              refine lv_iload_n hx hb dX0_burnDown_71 rfl (lv_at hl 0 rfl) ?_
              refine li_ild hx hb hK hP 4 0 rfl rfl (by omega) (by decide) dX0_burnDown_72 ?_
              refine li_topi (show (up2 (foldN (bd1 ls0) k σ) 10 k (mx0 ((foldN (bd1 ls0) k σ) 10 k - ls0))) 10 k = mx0 ((foldN (bd1 ls0) k σ) 10 k - ls0) from by simp [up2_at]) ?_
              refine lv_if_le (tgt := 80) hx hb dX0_burnDown_73 (by decide) (fun c6 => ?_) (fun c6 => ?_)
              · skip
                refine lv_iconst (v := nI 0) hx hb dX0_burnDown_80 rfl ?_
                refine li_zst hx hb hK hP hA.D hS 5 1 rfl rfl (by omega) (by decide) (rfl) stP_11 dX0_burnDown_81 (fun G locs hP hS => ?_)
                refine lv_iinc (v := nI (k + 1)) (lv' := [(3, .int (nI (k + 1))), (2, .int ls0), (0, .ref (a 0)), (1, .int x)]) hx hb dX0_burnDown_82 hl (k := 0) rfl (nI_inc _ _) (by decide) rfl (fun ls hl => ?_)
                refine lv_goto (tgt := 14) hx hb dX0_burnDown_85 (by decide) ?_
                have hw9 : up2 (up2 (foldN (bd1 ls0) k σ) 10 k (mx0 ((foldN (bd1 ls0) k σ) 10 k - ls0))) 11 k (nI 0) = foldN (bd1 ls0) (k + 1) σ := by first | exact (bd1_0 (by assumption)).symm | exact (bd1_2 (by assumption)).symm | exact (bd1_a (by assumption) (by assumption) (by assumption)).symm | exact (bd1_b (by assumption) (by assumption) (by assumption)).symm
                have hP : va_P D vwCl (wP cI cZ a n pl nw ns (foldN (bd1 ls0) (k + 1) σ) κ) G := Eq.mp (congrArg (fun z9 => va_P D vwCl (wP cI cZ a n pl nw ns z9 κ) G) hw9) hP
                clear hw9
                have hl9 : lv_has ls 4 [(3, .int (nI (k + 1))), (2, .int ls0), (0, .ref (a 0)), (1, .int x)] := lv_sub hl [0, 1, 2, 3] rfl
                exact ih14 (k + 1) ls0 (by omega) (by omega) (by omega) G locs hP hS ls hl9
              · skip
                refine lv_iconst (v := nI 1) hx hb dX0_burnDown_76 rfl ?_
                refine lv_goto (tgt := 81) hx hb dX0_burnDown_77 (by decide) ?_
                refine li_zst hx hb hK hP hA.D hS 5 1 rfl rfl (by omega) (by decide) (rfl) stP_11 dX0_burnDown_81 (fun G locs hP hS => ?_)
                refine lv_iinc (v := nI (k + 1)) (lv' := [(3, .int (nI (k + 1))), (2, .int ls0), (0, .ref (a 0)), (1, .int x)]) hx hb dX0_burnDown_82 hl (k := 0) rfl (nI_inc _ _) (by decide) rfl (fun ls hl => ?_)
                refine lv_goto (tgt := 14) hx hb dX0_burnDown_85 (by decide) ?_
                have hw9 : up2 (up2 (foldN (bd1 ls0) k σ) 10 k (mx0 ((foldN (bd1 ls0) k σ) 10 k - ls0))) 11 k (nI 1) = foldN (bd1 ls0) (k + 1) σ := by first | exact (bd1_0 (by assumption)).symm | exact (bd1_2 (by assumption)).symm | exact (bd1_a (by assumption) (by assumption) (by assumption)).symm | exact (bd1_b (by assumption) (by assumption) (by assumption)).symm
                have hP : va_P D vwCl (wP cI cZ a n pl nw ns (foldN (bd1 ls0) (k + 1) σ) κ) G := Eq.mp (congrArg (fun z9 => va_P D vwCl (wP cI cZ a n pl nw ns z9 κ) G) hw9) hP
                clear hw9
                have hl9 : lv_has ls 4 [(3, .int (nI (k + 1))), (2, .int ls0), (0, .ref (a 0)), (1, .int x)] := lv_sub hl [0, 1, 2, 3] rfl
                exact ih14 (k + 1) ls0 (by omega) (by omega) (by omega) G locs hP hS ls hl9
    have hw9 : σ = foldN (bd1 (nI 1)) 0 σ := rfl
    have hP : va_P D vwCl (wP cI cZ a n pl nw ns (foldN (bd1 (nI 1)) 0 σ) κ) H := Eq.mp (congrArg (fun z9 => va_P D vwCl (wP cI cZ a n pl nw ns z9 κ) H) hw9) hP
    clear hw9
    have hl9 : lv_has ls 4 [(3, .int (nI 0)), (2, .int (nI 1)), (0, .ref (a 0)), (1, .int x)] := lv_sub hl [0, 1, 2, 3] rfl
    have hl9 : lv_has ls 4 [(3, .int (nI 0)), (2, .int (nI 1)), (0, .ref (a 0)), (1, .int x)] := lv_re hl9 1 rfl (show nI 1 = (nI 1) from by simp [c1])
    exact L14_2 ((nw - 0) + 1) 0 (nI 1) (Nat.lt_succ_self _) (by omega) (by first | exact (lossOf_t (by assumption)).symm | exact (lossOf_f (by assumption)).symm) H locs hP hS ls hl9
  · skip
    refine lv_iconst (v := nI 2) hx hb dX0_burnDown_6 rfl ?_
    refine lv_goto (tgt := 11) hx hb dX0_burnDown_7 (by decide) ?_
    refine lv_istore_n (lv' := [(2, .int (nI 2)), (0, .ref (a 0)), (1, .int x)]) hx hb dX0_burnDown_11 rfl hl (by decide) rfl (fun ls hl => ?_)
    refine lv_iconst (v := nI 0) hx hb dX0_burnDown_12 rfl ?_
    refine lv_istore_n (lv' := [(3, .int (nI 0)), (2, .int (nI 2)), (0, .ref (a 0)), (1, .int x)]) hx hb dX0_burnDown_13 rfl hl (by decide) rfl (fun ls hl => ?_)
    have L14_7 : ∀ (fuel : Nat) (k : Nat) (ls0 : Int32), (nw - k) < fuel → (k ≤ nw) → (ls0 = lossOf x) → ∀ (G : Heap) (locs : List Loc), va_P D vwCl (wP cI cZ a n pl nw ns (foldN (bd1 ls0) k σ) κ) G → va_S A H G locs → ∀ (ls : Array Slot), lv_has ls 4 [(3, .int (nI k)), (2, .int ls0), (0, .ref (a 0)), (1, .int x)] → W p l e ({ frames := 1, cells := 0, slots := 0, locals := 19 } : Room) s m args below meth c G locs 0 0 Q (F0 m 14 ls []) := by
      intro fuel
      induction fuel with
      | zero =>
        intro k ls0 hfuel
        exact absurd hfuel (Nat.not_lt_zero _)
      | succ fuel ih14 =>
        intro k ls0 hfuel14 hk hls G locs hP hS ls hl
        refine lv_iload_n hx hb dX0_burnDown_14 rfl (lv_at hl 0 rfl) ?_
        refine lv_aload_n hx hb dX0_burnDown_15 rfl (lv_at hl 2 rfl) ?_
        refine li_gf0 hx hb hX0 hown hK hP 0 rfl 0 (by decide) f58 rfl dX0_burnDown_16 ?_
        refine li_gf1 hx hb hX1 hown hK hP 16 rfl 6 (by decide) f92 rfl dX0_burnDown_19 ?_
        refine li_ge (tgt := 88) hx hb dX0_burnDown_22 (by decide) (by omega) (by omega) (fun c8 => ?_) (fun c8 => ?_)
        · skip
          have hw9 : foldN (bd1 ls0) k σ = bdF x nw σ := by rw [show k = nw by omega, hls]; rfl
          have hP : va_P D vwCl (wP cI cZ a n pl nw ns (bdF x nw σ) κ) G := Eq.mp (congrArg (fun z9 => va_P D vwCl (wP cI cZ a n pl nw ns z9 κ) G) hw9) hP
          clear hw9
          exact hEnd 88 ls G locs dX0_burnDown_88 hP hS
        · skip
          refine lv_aload_n hx hb dX0_burnDown_25 rfl (lv_at hl 2 rfl) ?_
          refine li_gf0 hx hb hX0 hown hK hP 0 rfl 6 (by decide) f24 rfl dX0_burnDown_26 ?_
          refine lv_iload_n hx hb dX0_burnDown_29 rfl (lv_at hl 0 rfl) ?_
          refine li_zld hx hb hK hP 5 1 rfl rfl (by omega) (by decide) dX0_burnDown_30 ?_
          refine lv_if_eq (tgt := 82) hx hb dX0_burnDown_31 (by decide) (fun c9 => ?_) (fun c9 => ?_)
          · skip
            refine lv_iinc (v := nI (k + 1)) (lv' := [(3, .int (nI (k + 1))), (2, .int ls0), (0, .ref (a 0)), (1, .int x)]) hx hb dX0_burnDown_82 hl (k := 0) rfl (nI_inc _ _) (by decide) rfl (fun ls hl => ?_)
            refine lv_goto (tgt := 14) hx hb dX0_burnDown_85 (by decide) ?_
            have hw9 : foldN (bd1 ls0) k σ = foldN (bd1 ls0) (k + 1) σ := by first | exact (bd1_0 (by assumption)).symm | exact (bd1_2 (by assumption)).symm | exact (bd1_a (by assumption) (by assumption) (by assumption)).symm | exact (bd1_b (by assumption) (by assumption) (by assumption)).symm
            have hP : va_P D vwCl (wP cI cZ a n pl nw ns (foldN (bd1 ls0) (k + 1) σ) κ) G := Eq.mp (congrArg (fun z9 => va_P D vwCl (wP cI cZ a n pl nw ns z9 κ) G) hw9) hP
            clear hw9
            have hl9 : lv_has ls 4 [(3, .int (nI (k + 1))), (2, .int ls0), (0, .ref (a 0)), (1, .int x)] := lv_sub hl [0, 1, 2, 3] rfl
            exact ih14 (k + 1) ls0 (by omega) (by omega) (by omega) G locs hP hS ls hl9
          · skip
            refine lv_aload_n hx hb dX0_burnDown_34 rfl (lv_at hl 2 rfl) ?_
            refine li_gf0 hx hb hX0 hown hK hP 0 rfl 7 (by decide) f28 rfl dX0_burnDown_35 ?_
            refine lv_iload_n hx hb dX0_burnDown_38 rfl (lv_at hl 0 rfl) ?_
            refine li_ild hx hb hK hP 6 0 rfl rfl (by omega) (by decide) dX0_burnDown_39 ?_
            refine lv_iconst (v := nI 2) hx hb dX0_burnDown_40 rfl ?_
            refine lv_icmp_eq (tgt := 82) hx hb dX0_burnDown_41 (by decide) (fun c10 => ?_) (fun c10 => ?_)
            · skip
              refine lv_iinc (v := nI (k + 1)) (lv' := [(3, .int (nI (k + 1))), (2, .int ls0), (0, .ref (a 0)), (1, .int x)]) hx hb dX0_burnDown_82 hl (k := 0) rfl (nI_inc _ _) (by decide) rfl (fun ls hl => ?_)
              refine lv_goto (tgt := 14) hx hb dX0_burnDown_85 (by decide) ?_
              have hw9 : foldN (bd1 ls0) k σ = foldN (bd1 ls0) (k + 1) σ := by first | exact (bd1_0 (by assumption)).symm | exact (bd1_2 (by assumption)).symm | exact (bd1_a (by assumption) (by assumption) (by assumption)).symm | exact (bd1_b (by assumption) (by assumption) (by assumption)).symm
              have hP : va_P D vwCl (wP cI cZ a n pl nw ns (foldN (bd1 ls0) (k + 1) σ) κ) G := Eq.mp (congrArg (fun z9 => va_P D vwCl (wP cI cZ a n pl nw ns z9 κ) G) hw9) hP
              clear hw9
              have hl9 : lv_has ls 4 [(3, .int (nI (k + 1))), (2, .int ls0), (0, .ref (a 0)), (1, .int x)] := lv_sub hl [0, 1, 2, 3] rfl
              exact ih14 (k + 1) ls0 (by omega) (by omega) (by omega) G locs hP hS ls hl9
            · skip
              refine lv_aload_n hx hb dX0_burnDown_44 rfl (lv_at hl 2 rfl) ?_
              refine li_gf0 hx hb hX0 hown hK hP 0 rfl 5 (by decide) f21 rfl dX0_burnDown_45 ?_
              refine lv_iload_n hx hb dX0_burnDown_48 rfl (lv_at hl 0 rfl) ?_
              refine lv_iconst (v := nI 0) hx hb dX0_burnDown_49 rfl ?_
              refine lv_aload_n hx hb dX0_burnDown_50 rfl (lv_at hl 2 rfl) ?_
              refine li_gf0 hx hb hX0 hown hK hP 0 rfl 5 (by decide) f21 rfl dX0_burnDown_51 ?_
              refine lv_iload_n hx hb dX0_burnDown_54 rfl (lv_at hl 0 rfl) ?_
              refine li_ild hx hb hK hP 4 0 rfl rfl (by omega) (by decide) dX0_burnDown_55 ?_
              refine lv_iload_n hx hb dX0_burnDown_56 rfl (lv_at hl 1 rfl) ?_
              refine lv_isub hx hb dX0_burnDown_57 ?_
              refine va_mmax hx hb (hml.trans hl.1.symm) hown g5 g6 g7 g8 (by decide) (Nat.le_of_ble_eq_true rfl) (Nat.zero_le _) (Nat.zero_le _) dX0_burnDown_58 ?_
              refine li_topi (show (if nI 0 < ((foldN (bd1 ls0) k σ) 10 k) - ls0 then ((foldN (bd1 ls0) k σ) 10 k) - ls0 else nI 0) = mx0 ((foldN (bd1 ls0) k σ) 10 k - ls0) from rfl) ?_
              refine li_ist hx hb hK hP hA.D hS 4 0 rfl rfl (by omega) (by decide) stP_10 dX0_burnDown_61 (fun G locs hP hS => ?_)
              refine lv_aload_n hx hb dX0_burnDown_62 rfl (lv_at hl 2 rfl) ?_
              refine li_gf0 hx hb hX0 hown hK hP 0 rfl 6 (by decide) f24 rfl dX0_burnDown_63 ?_
              refine lv_iload_n hx hb dX0_burnDown_66 rfl (lv_at hl 0 rfl) ?_
              refine lv_aload_n hx hb dX0_burnDown_67 rfl (lv_at hl 2 rfl) ?_
              refine li_gf0 hx hb hX0 hown hK hP 0 rfl 5 (by decide) f21 rfl dX0_burnDown_68 ?_
              refine lv_iload_n hx hb dX0_burnDown_71 rfl (lv_at hl 0 rfl) ?_
              refine li_ild hx hb hK hP 4 0 rfl rfl (by omega) (by decide) dX0_burnDown_72 ?_
              refine li_topi (show (up2 (foldN (bd1 ls0) k σ) 10 k (mx0 ((foldN (bd1 ls0) k σ) 10 k - ls0))) 10 k = mx0 ((foldN (bd1 ls0) k σ) 10 k - ls0) from by simp [up2_at]) ?_
              refine lv_if_le (tgt := 80) hx hb dX0_burnDown_73 (by decide) (fun c11 => ?_) (fun c11 => ?_)
              · skip
                refine lv_iconst (v := nI 0) hx hb dX0_burnDown_80 rfl ?_
                refine li_zst hx hb hK hP hA.D hS 5 1 rfl rfl (by omega) (by decide) (rfl) stP_11 dX0_burnDown_81 (fun G locs hP hS => ?_)
                refine lv_iinc (v := nI (k + 1)) (lv' := [(3, .int (nI (k + 1))), (2, .int ls0), (0, .ref (a 0)), (1, .int x)]) hx hb dX0_burnDown_82 hl (k := 0) rfl (nI_inc _ _) (by decide) rfl (fun ls hl => ?_)
                refine lv_goto (tgt := 14) hx hb dX0_burnDown_85 (by decide) ?_
                have hw9 : up2 (up2 (foldN (bd1 ls0) k σ) 10 k (mx0 ((foldN (bd1 ls0) k σ) 10 k - ls0))) 11 k (nI 0) = foldN (bd1 ls0) (k + 1) σ := by first | exact (bd1_0 (by assumption)).symm | exact (bd1_2 (by assumption)).symm | exact (bd1_a (by assumption) (by assumption) (by assumption)).symm | exact (bd1_b (by assumption) (by assumption) (by assumption)).symm
                have hP : va_P D vwCl (wP cI cZ a n pl nw ns (foldN (bd1 ls0) (k + 1) σ) κ) G := Eq.mp (congrArg (fun z9 => va_P D vwCl (wP cI cZ a n pl nw ns z9 κ) G) hw9) hP
                clear hw9
                have hl9 : lv_has ls 4 [(3, .int (nI (k + 1))), (2, .int ls0), (0, .ref (a 0)), (1, .int x)] := lv_sub hl [0, 1, 2, 3] rfl
                exact ih14 (k + 1) ls0 (by omega) (by omega) (by omega) G locs hP hS ls hl9
              · skip
                refine lv_iconst (v := nI 1) hx hb dX0_burnDown_76 rfl ?_
                refine lv_goto (tgt := 81) hx hb dX0_burnDown_77 (by decide) ?_
                refine li_zst hx hb hK hP hA.D hS 5 1 rfl rfl (by omega) (by decide) (rfl) stP_11 dX0_burnDown_81 (fun G locs hP hS => ?_)
                refine lv_iinc (v := nI (k + 1)) (lv' := [(3, .int (nI (k + 1))), (2, .int ls0), (0, .ref (a 0)), (1, .int x)]) hx hb dX0_burnDown_82 hl (k := 0) rfl (nI_inc _ _) (by decide) rfl (fun ls hl => ?_)
                refine lv_goto (tgt := 14) hx hb dX0_burnDown_85 (by decide) ?_
                have hw9 : up2 (up2 (foldN (bd1 ls0) k σ) 10 k (mx0 ((foldN (bd1 ls0) k σ) 10 k - ls0))) 11 k (nI 1) = foldN (bd1 ls0) (k + 1) σ := by first | exact (bd1_0 (by assumption)).symm | exact (bd1_2 (by assumption)).symm | exact (bd1_a (by assumption) (by assumption) (by assumption)).symm | exact (bd1_b (by assumption) (by assumption) (by assumption)).symm
                have hP : va_P D vwCl (wP cI cZ a n pl nw ns (foldN (bd1 ls0) (k + 1) σ) κ) G := Eq.mp (congrArg (fun z9 => va_P D vwCl (wP cI cZ a n pl nw ns z9 κ) G) hw9) hP
                clear hw9
                have hl9 : lv_has ls 4 [(3, .int (nI (k + 1))), (2, .int ls0), (0, .ref (a 0)), (1, .int x)] := lv_sub hl [0, 1, 2, 3] rfl
                exact ih14 (k + 1) ls0 (by omega) (by omega) (by omega) G locs hP hS ls hl9
    have hw9 : σ = foldN (bd1 (nI 2)) 0 σ := rfl
    have hP : va_P D vwCl (wP cI cZ a n pl nw ns (foldN (bd1 (nI 2)) 0 σ) κ) H := Eq.mp (congrArg (fun z9 => va_P D vwCl (wP cI cZ a n pl nw ns z9 κ) H) hw9) hP
    clear hw9
    have hl9 : lv_has ls 4 [(3, .int (nI 0)), (2, .int (nI 2)), (0, .ref (a 0)), (1, .int x)] := lv_sub hl [0, 1, 2, 3] rfl
    have hl9 : lv_has ls 4 [(3, .int (nI 0)), (2, .int (nI 2)), (0, .ref (a 0)), (1, .int x)] := lv_re hl9 1 rfl (show nI 2 = (nI 2) from by simp [c1])
    exact L14_7 ((nw - 0) + 1) 0 (nI 2) (Nat.lt_succ_self _) (by omega) (by first | exact (lossOf_t (by assumption)).symm | exact (lossOf_f (by assumption)).symm) H locs hP hS ls hl9
set_option maxHeartbeats 4000000 in
set_option maxRecDepth 100000 in
theorem c_X0_blowOut (l : Launch) (D : va_G) (cI cZ cL cO : ClassId) (a : Nat → Nat) (n pl nw ns : Nat) (σ κ : Nat → Nat → Int32) (H : Heap) (x : Int32) (A : Nat → Prop) (hA : okP A a 24) (hB : n ≤ 10 ∧ pl ≤ 200 ∧ nw ≤ 20 ∧ ns ≤ 6) : Met l yX0_blowOut wsX0_blowOut ({ frames := 2, cells := 0, slots := 0, locals := 45 } : Room) (ro_P D (T4 cI cZ cL cO) (wP cI cZ a n pl nw ns σ κ) H [.ref (a 0), .int x]) (mu_Q D (wP cI cZ a n pl nw ns (boF x nw σ) κ) A) 0 0 A := by
  refine mu_of (cc := cX0_blowOut) (maxL := 3) (by decide) rfl (Nat.le_of_ble_eq_true rfl) ?_
  intro p e s m args below meth c Q ls locs hx hb hml hown hts hK hE hP hl hS hEnd
  have hl : lv_has ls 3 [(0, .ref (a 0)), (1, .int x)] := hl
  have hX0 : ∀ w ∈ wsX00, w.before args s = true := fun w h => hts w (List.mem_cons_of_mem _ (List.mem_append_left _ (List.mem_append_right _ (h))))
  have hX1 : ∀ w ∈ wsX10, w.before args s = true := fun w h => hts w (List.mem_cons_of_mem _ (List.mem_append_right _ (h)))
  have f58 : (Cond.fieldLink RX0 58 "LanternWalk$Parade" "setting" "LLanternWalk$Setting;").before args s = true := hts _ (List.mem_of_getElem? (i := 1) rfl)
  have f92 : (Cond.fieldLink RX0 92 "LanternWalk$Setting" "walkers" "I").before args s = true := hts _ (List.mem_of_getElem? (i := 2) rfl)
  have f28 : (Cond.fieldLink RX0 28 "LanternWalk$Parade" "stage" "[I").before args s = true := hts _ (List.mem_of_getElem? (i := 3) rfl)
  have f24 : (Cond.fieldLink RX0 24 "LanternWalk$Parade" "burns" "[Z").before args s = true := hts _ (List.mem_of_getElem? (i := 4) rfl)
  refine lv_iload_n hx hb dX0_blowOut_0 rfl (lv_at hl 1 rfl) ?_
  refine lv_bipush (v := nI 8) hx hb dX0_blowOut_1 rfl ?_
  refine lv_icmp_ge (tgt := 7) hx hb dX0_blowOut_3 (by decide) (fun c1 => ?_) (fun c1 => ?_)
  · skip
    refine lv_iconst (v := nI 0) hx hb dX0_blowOut_7 rfl ?_
    refine lv_istore_n (lv' := [(2, .int (nI 0)), (0, .ref (a 0)), (1, .int x)]) hx hb dX0_blowOut_8 rfl hl (by decide) rfl (fun ls hl => ?_)
    have L9_2 : ∀ (fuel : Nat) (k : Nat), (nw - k) < fuel → (k ≤ nw) → ∀ (G : Heap) (locs : List Loc), va_P D vwCl (wP cI cZ a n pl nw ns (foldN (bo1 nw) k σ) κ) G → va_S A H G locs → ∀ (ls : Array Slot), lv_has ls 3 [(2, .int (nI k)), (0, .ref (a 0)), (1, .int x)] → W p l e ({ frames := 2, cells := 0, slots := 0, locals := 45 } : Room) s m args below meth c G locs 0 0 Q (F0 m 9 ls []) := by
      intro fuel
      induction fuel with
      | zero =>
        intro k hfuel
        exact absurd hfuel (Nat.not_lt_zero _)
      | succ fuel ih9 =>
        intro k hfuel9 hk G locs hP hS ls hl
        refine lv_iload_n hx hb dX0_blowOut_9 rfl (lv_at hl 0 rfl) ?_
        refine lv_aload_n hx hb dX0_blowOut_10 rfl (lv_at hl 1 rfl) ?_
        refine li_gf0 hx hb hX0 hown hK hP 0 rfl 0 (by decide) f58 rfl dX0_blowOut_11 ?_
        refine li_gf1 hx hb hX1 hown hK hP 16 rfl 6 (by decide) f92 rfl dX0_blowOut_14 ?_
        refine li_ge (tgt := 52) hx hb dX0_blowOut_17 (by decide) (by first | omega | (have := nb_le (σ := foldN (bo1 nw) k σ) (nw := nw) (w := k); omega)) (by first | omega | (have := nb_le (σ := foldN (bo1 nw) k σ) (nw := nw) (w := k); omega)) (fun c3 => ?_) (fun c3 => ?_)
        · skip
          have hw9 : foldN (bo1 nw) k σ = boF x nw σ := by unfold boF; rw [if_pos (by assumption), show k = nw by omega]
          have hP : va_P D vwCl (wP cI cZ a n pl nw ns (boF x nw σ) κ) G := Eq.mp (congrArg (fun z9 => va_P D vwCl (wP cI cZ a n pl nw ns z9 κ) G) hw9) hP
          clear hw9
          exact hEnd 52 ls G locs dX0_blowOut_52 hP hS
        · skip
          refine lv_aload_n hx hb dX0_blowOut_20 rfl (lv_at hl 1 rfl) ?_
          refine li_gf0 hx hb hX0 hown hK hP 0 rfl 7 (by decide) f28 rfl dX0_blowOut_21 ?_
          refine lv_iload_n hx hb dX0_blowOut_24 rfl (lv_at hl 0 rfl) ?_
          refine li_ild hx hb hK hP 6 0 rfl rfl (by omega) (by decide) dX0_blowOut_25 ?_
          refine lv_iconst (v := nI 1) hx hb dX0_blowOut_26 rfl ?_
          refine lv_icmp_ne (tgt := 46) hx hb dX0_blowOut_27 (by decide) (fun c4 => ?_) (fun c4 => ?_)
          · skip
            refine lv_iinc (v := nI (k + 1)) (lv' := [(2, .int (nI (k + 1))), (0, .ref (a 0)), (1, .int x)]) hx hb dX0_blowOut_46 hl (k := 0) rfl (nI_inc _ _) (by decide) rfl (fun ls hl => ?_)
            refine lv_goto (tgt := 9) hx hb dX0_blowOut_49 (by decide) ?_
            have hw9 : foldN (bo1 nw) k σ = foldN (bo1 nw) (k + 1) σ := by first | exact (bo1_0 (by assumption)).symm | exact (bo1_2 (by assumption)).symm | exact (bo1_a (by assumption) (by assumption)).symm
            have hP : va_P D vwCl (wP cI cZ a n pl nw ns (foldN (bo1 nw) (k + 1) σ) κ) G := Eq.mp (congrArg (fun z9 => va_P D vwCl (wP cI cZ a n pl nw ns z9 κ) G) hw9) hP
            clear hw9
            have hl9 : lv_has ls 3 [(2, .int (nI (k + 1))), (0, .ref (a 0)), (1, .int x)] := lv_sub hl [0, 1, 2] rfl
            exact ih9 (k + 1) (by omega) (by omega) G locs hP hS ls hl9
          · skip
            refine lv_aload_n hx hb dX0_blowOut_30 rfl (lv_at hl 1 rfl) ?_
            refine lv_iload_n hx hb dX0_blowOut_31 rfl (lv_at hl 0 rfl) ?_
            refine roV (As := [.int (nI k)]) (q0 := 0) (ci := 0) hx hb hml hown hts (c_X0_neighboursOf l D cI cZ cL cO a n pl nw ns (foldN (bo1 nw) k σ) κ G k (hB) (by omega)) (cwV 1 hts gX0_blowOut_X0_neighboursOf rfl rfl rfl (by decide +kernel) ⟨by decide, by decide⟩) hK hE hP rfl rfl rfl rfl hl.1 rfl (Nat.le_of_ble_eq_true rfl) hS dX0_blowOut_32 ⟨Nat.zero_le _, Nat.zero_le _⟩ (fun locs hS => ?_)
            refine lv_iconst (v := nI 2) hx hb dX0_blowOut_35 rfl ?_
            refine li_ge (tgt := 46) hx hb dX0_blowOut_36 (by decide) (by first | omega | (have := nb_le (σ := foldN (bo1 nw) k σ) (nw := nw) (w := k); omega)) (by first | omega | (have := nb_le (σ := foldN (bo1 nw) k σ) (nw := nw) (w := k); omega)) (fun c5 => ?_) (fun c5 => ?_)
            · skip
              refine lv_iinc (v := nI (k + 1)) (lv' := [(2, .int (nI (k + 1))), (0, .ref (a 0)), (1, .int x)]) hx hb dX0_blowOut_46 hl (k := 0) rfl (nI_inc _ _) (by decide) rfl (fun ls hl => ?_)
              refine lv_goto (tgt := 9) hx hb dX0_blowOut_49 (by decide) ?_
              have hw9 : foldN (bo1 nw) k σ = foldN (bo1 nw) (k + 1) σ := by first | exact (bo1_0 (by assumption)).symm | exact (bo1_2 (by assumption)).symm | exact (bo1_a (by assumption) (by assumption)).symm
              have hP : va_P D vwCl (wP cI cZ a n pl nw ns (foldN (bo1 nw) (k + 1) σ) κ) G := Eq.mp (congrArg (fun z9 => va_P D vwCl (wP cI cZ a n pl nw ns z9 κ) G) hw9) hP
              clear hw9
              have hl9 : lv_has ls 3 [(2, .int (nI (k + 1))), (0, .ref (a 0)), (1, .int x)] := lv_sub hl [0, 1, 2] rfl
              exact ih9 (k + 1) (by omega) (by omega) G locs hP hS ls hl9
            · skip
              refine lv_aload_n hx hb dX0_blowOut_39 rfl (lv_at hl 1 rfl) ?_
              refine li_gf0 hx hb hX0 hown hK hP 0 rfl 6 (by decide) f24 rfl dX0_blowOut_40 ?_
              refine lv_iload_n hx hb dX0_blowOut_43 rfl (lv_at hl 0 rfl) ?_
              refine lv_iconst (v := nI 0) hx hb dX0_blowOut_44 rfl ?_
              refine li_zst hx hb hK hP hA.D hS 5 1 rfl rfl (by omega) (by decide) (rfl) stP_11 dX0_blowOut_45 (fun G locs hP hS => ?_)
              refine lv_iinc (v := nI (k + 1)) (lv' := [(2, .int (nI (k + 1))), (0, .ref (a 0)), (1, .int x)]) hx hb dX0_blowOut_46 hl (k := 0) rfl (nI_inc _ _) (by decide) rfl (fun ls hl => ?_)
              refine lv_goto (tgt := 9) hx hb dX0_blowOut_49 (by decide) ?_
              have hw9 : up2 (foldN (bo1 nw) k σ) 11 k (nI 0) = foldN (bo1 nw) (k + 1) σ := by first | exact (bo1_0 (by assumption)).symm | exact (bo1_2 (by assumption)).symm | exact (bo1_a (by assumption) (by assumption)).symm
              have hP : va_P D vwCl (wP cI cZ a n pl nw ns (foldN (bo1 nw) (k + 1) σ) κ) G := Eq.mp (congrArg (fun z9 => va_P D vwCl (wP cI cZ a n pl nw ns z9 κ) G) hw9) hP
              clear hw9
              have hl9 : lv_has ls 3 [(2, .int (nI (k + 1))), (0, .ref (a 0)), (1, .int x)] := lv_sub hl [0, 1, 2] rfl
              exact ih9 (k + 1) (by omega) (by omega) G locs hP hS ls hl9
    have hw9 : σ = foldN (bo1 nw) 0 σ := rfl
    have hP : va_P D vwCl (wP cI cZ a n pl nw ns (foldN (bo1 nw) 0 σ) κ) H := Eq.mp (congrArg (fun z9 => va_P D vwCl (wP cI cZ a n pl nw ns z9 κ) H) hw9) hP
    clear hw9
    have hl9 : lv_has ls 3 [(2, .int (nI 0)), (0, .ref (a 0)), (1, .int x)] := lv_sub hl [0, 1, 2] rfl
    exact L9_2 ((nw - 0) + 1) 0 (Nat.lt_succ_self _) (by omega) H locs hP hS ls hl9
  · skip
    have hw9 : σ = boF x nw σ := by unfold boF; rw [if_neg (by assumption)]
    have hP : va_P D vwCl (wP cI cZ a n pl nw ns (boF x nw σ) κ) H := Eq.mp (congrArg (fun z9 => va_P D vwCl (wP cI cZ a n pl nw ns z9 κ) H) hw9) hP
    clear hw9
    exact hEnd 6 ls H locs dX0_blowOut_6 hP hS
set_option maxHeartbeats 4000000 in
set_option maxRecDepth 100000 in
theorem c_X0_lightEachOther (l : Launch) (D : va_G) (cI cZ cL cO : ClassId) (a : Nat → Nat) (n pl nw ns : Nat) (σ κ : Nat → Nat → Int32) (H : Heap) (A : Nat → Prop) (hA : okP A a 24) (hB : n ≤ 10 ∧ pl ≤ 200 ∧ nw ≤ 20 ∧ ns ≤ 6) (hz : bz σ) : Met l yX0_lightEachOther wsX0_lightEachOther ({ frames := 2, cells := 0, slots := 0, locals := 44 } : Room) (ro_P D (T4 cI cZ cL cO) (wP cI cZ a n pl nw ns σ κ) H [.ref (a 0)]) (mu_Q D (wP cI cZ a n pl nw ns ((leF nw (σ, κ)).1) ((leF nw (σ, κ)).2)) A) 0 0 A := by
  refine mu_of (cc := cX0_lightEachOther) (maxL := 2) (by decide) rfl (Nat.le_of_ble_eq_true rfl) ?_
  intro p e s m args below meth c Q ls locs hx hb hml hown hts hK hE hP hl hS hEnd
  have hl : lv_has ls 2 [(0, .ref (a 0))] := hl
  have hX0 : ∀ w ∈ wsX00, w.before args s = true := fun w h => hts w (List.mem_cons_of_mem _ (List.mem_append_left _ (List.mem_append_right _ (h))))
  have hX1 : ∀ w ∈ wsX10, w.before args s = true := fun w h => hts w (List.mem_cons_of_mem _ (List.mem_append_right _ (h)))
  have f24 : (Cond.fieldLink RX0 24 "LanternWalk$Parade" "burns" "[Z").before args s = true := hts _ (List.mem_of_getElem? (i := 1) rfl)
  have f43 : (Cond.fieldLink RX0 43 "LanternWalk$Parade" "burnedBefore" "[Z").before args s = true := hts _ (List.mem_of_getElem? (i := 2) rfl)
  have f58 : (Cond.fieldLink RX0 58 "LanternWalk$Parade" "setting" "LLanternWalk$Setting;").before args s = true := hts _ (List.mem_of_getElem? (i := 3) rfl)
  have f92 : (Cond.fieldLink RX0 92 "LanternWalk$Setting" "walkers" "I").before args s = true := hts _ (List.mem_of_getElem? (i := 4) rfl)
  have f28 : (Cond.fieldLink RX0 28 "LanternWalk$Parade" "stage" "[I").before args s = true := hts _ (List.mem_of_getElem? (i := 5) rfl)
  have f21 : (Cond.fieldLink RX0 21 "LanternWalk$Parade" "wick" "[I").before args s = true := hts _ (List.mem_of_getElem? (i := 6) rfl)
  refine lv_aload_n hx hb dX0_lightEachOther_0 rfl (lv_at hl 0 rfl) ?_
  refine li_gf0 hx hb hX0 hown hK hP 0 rfl 6 (by decide) f24 rfl dX0_lightEachOther_1 ?_
  refine lv_aload_n hx hb dX0_lightEachOther_4 rfl (lv_at hl 0 rfl) ?_
  refine li_gf0 hx hb hX0 hown hK hP 0 rfl 12 (by decide) f43 rfl dX0_lightEachOther_5 ?_
  refine cpS (q0 := 5) (q1 := 11) hx hb hml hown hts (c_X0_copyFlags l D cI cZ cL cO H (a 5) (a 11) 20 (σ 11) (κ 0) (fun q => q = a 5 ∨ q = a 11) (fun _ _ => D2_ (hA.ne (i := 5) (j := 11) (by decide) (by decide) (by decide)) (Or.inl rfl) (Or.inr rfl)) (by decide) (fun i _ => bz_v hz i)) (cwS 2 hts gX0_lightEachOther_X0_copyFlags rfl rfl rfl (by decide +kernel) ⟨by decide, by decide⟩) hK hE hP hA.D rfl rfl (by decide) srw_K0 hl.1 (Nat.le_of_ble_eq_true rfl) hS dX0_lightEachOther_8 ⟨Nat.zero_le _, Nat.zero_le _⟩ (fun G locs hP hS => ?_)
  refine lv_iconst (v := nI 0) hx hb dX0_lightEachOther_11 rfl ?_
  refine lv_istore_n (lv' := [(1, .int (nI 0)), (0, .ref (a 0))]) hx hb dX0_lightEachOther_12 rfl hl (by decide) rfl (fun ls hl => ?_)
  have L13_1 : ∀ (fuel : Nat) (k : Nat), (nw - k) < fuel → (k ≤ nw) → ∀ (G : Heap) (locs : List Loc), va_P D vwCl (wP cI cZ a n pl nw ns (foldN (le1 (leK (σ, κ)) nw) k σ) (leK (σ, κ))) G → va_S A H G locs → ∀ (ls : Array Slot), lv_has ls 2 [(1, .int (nI k)), (0, .ref (a 0))] → W p l e ({ frames := 2, cells := 0, slots := 0, locals := 44 } : Room) s m args below meth c G locs 0 0 Q (F0 m 13 ls []) := by
    intro fuel
    induction fuel with
    | zero =>
      intro k hfuel
      exact absurd hfuel (Nat.not_lt_zero _)
    | succ fuel ih13 =>
      intro k hfuel13 hk G locs hP hS ls hl
      refine lv_iload_n hx hb dX0_lightEachOther_13 rfl (lv_at hl 0 rfl) ?_
      refine lv_aload_n hx hb dX0_lightEachOther_14 rfl (lv_at hl 1 rfl) ?_
      refine li_gf0 hx hb hX0 hown hK hP 0 rfl 0 (by decide) f58 rfl dX0_lightEachOther_15 ?_
      refine li_gf1 hx hb hX1 hown hK hP 16 rfl 6 (by decide) f92 rfl dX0_lightEachOther_18 ?_
      refine li_ge (tgt := 64) hx hb dX0_lightEachOther_21 (by decide) (by omega) (by omega) (fun c2 => ?_) (fun c2 => ?_)
      · skip
        have hw9 : foldN (le1 (leK (σ, κ)) nw) k σ = (leF nw (σ, κ)).1 := by rw [show k = nw by omega]; rfl
        have hP : va_P D vwCl (wP cI cZ a n pl nw ns ((leF nw (σ, κ)).1) (leK (σ, κ))) G := Eq.mp (congrArg (fun z9 => va_P D vwCl (wP cI cZ a n pl nw ns z9 (leK (σ, κ))) G) hw9) hP
        clear hw9
        have hw9 : leK (σ, κ) = (leF nw (σ, κ)).2 := rfl
        have hP : va_P D vwCl (wP cI cZ a n pl nw ns ((leF nw (σ, κ)).1) ((leF nw (σ, κ)).2)) G := Eq.mp (congrArg (fun z9 => va_P D vwCl (wP cI cZ a n pl nw ns ((leF nw (σ, κ)).1) z9) G) hw9) hP
        clear hw9
        exact hEnd 64 ls G locs dX0_lightEachOther_64 hP hS
      · skip
        refine lv_aload_n hx hb dX0_lightEachOther_24 rfl (lv_at hl 1 rfl) ?_
        refine li_gf0 hx hb hX0 hown hK hP 0 rfl 7 (by decide) f28 rfl dX0_lightEachOther_25 ?_
        refine lv_iload_n hx hb dX0_lightEachOther_28 rfl (lv_at hl 0 rfl) ?_
        refine li_ild hx hb hK hP 6 0 rfl rfl (by omega) (by decide) dX0_lightEachOther_29 ?_
        refine lv_iconst (v := nI 1) hx hb dX0_lightEachOther_30 rfl ?_
        refine lv_icmp_ne (tgt := 58) hx hb dX0_lightEachOther_31 (by decide) (fun c3 => ?_) (fun c3 => ?_)
        · skip
          refine lv_iinc (v := nI (k + 1)) (lv' := [(1, .int (nI (k + 1))), (0, .ref (a 0))]) hx hb dX0_lightEachOther_58 hl (k := 0) rfl (nI_inc _ _) (by decide) rfl (fun ls hl => ?_)
          refine lv_goto (tgt := 13) hx hb dX0_lightEachOther_61 (by decide) ?_
          have hw9 : foldN (le1 (leK (σ, κ)) nw) k σ = foldN (le1 (leK (σ, κ)) nw) (k + 1) σ := by first | exact (le1_0 (by assumption)).symm | exact (le1_1 (by assumption)).symm | exact (le1_2 (by assumption)).symm | exact (le1_a (by assumption) (by assumption) (by assumption)).symm
          have hP : va_P D vwCl (wP cI cZ a n pl nw ns (foldN (le1 (leK (σ, κ)) nw) (k + 1) σ) (leK (σ, κ))) G := Eq.mp (congrArg (fun z9 => va_P D vwCl (wP cI cZ a n pl nw ns z9 (leK (σ, κ))) G) hw9) hP
          clear hw9
          have hl9 : lv_has ls 2 [(1, .int (nI (k + 1))), (0, .ref (a 0))] := lv_sub hl [0, 1] rfl
          exact ih13 (k + 1) (by omega) (by omega) G locs hP hS ls hl9
        · skip
          refine lv_aload_n hx hb dX0_lightEachOther_34 rfl (lv_at hl 1 rfl) ?_
          refine li_gf0 hx hb hX0 hown hK hP 0 rfl 5 (by decide) f21 rfl dX0_lightEachOther_35 ?_
          refine lv_iload_n hx hb dX0_lightEachOther_38 rfl (lv_at hl 0 rfl) ?_
          refine li_ild hx hb hK hP 4 0 rfl rfl (by omega) (by decide) dX0_lightEachOther_39 ?_
          refine lv_if_le (tgt := 58) hx hb dX0_lightEachOther_40 (by decide) (fun c4 => ?_) (fun c4 => ?_)
          · skip
            refine lv_iinc (v := nI (k + 1)) (lv' := [(1, .int (nI (k + 1))), (0, .ref (a 0))]) hx hb dX0_lightEachOther_58 hl (k := 0) rfl (nI_inc _ _) (by decide) rfl (fun ls hl => ?_)
            refine lv_goto (tgt := 13) hx hb dX0_lightEachOther_61 (by decide) ?_
            have hw9 : foldN (le1 (leK (σ, κ)) nw) k σ = foldN (le1 (leK (σ, κ)) nw) (k + 1) σ := by first | exact (le1_0 (by assumption)).symm | exact (le1_1 (by assumption)).symm | exact (le1_2 (by assumption)).symm | exact (le1_a (by assumption) (by assumption) (by assumption)).symm
            have hP : va_P D vwCl (wP cI cZ a n pl nw ns (foldN (le1 (leK (σ, κ)) nw) (k + 1) σ) (leK (σ, κ))) G := Eq.mp (congrArg (fun z9 => va_P D vwCl (wP cI cZ a n pl nw ns z9 (leK (σ, κ))) G) hw9) hP
            clear hw9
            have hl9 : lv_has ls 2 [(1, .int (nI (k + 1))), (0, .ref (a 0))] := lv_sub hl [0, 1] rfl
            exact ih13 (k + 1) (by omega) (by omega) G locs hP hS ls hl9
          · skip
            refine lv_aload_n hx hb dX0_lightEachOther_43 rfl (lv_at hl 1 rfl) ?_
            refine lv_iload_n hx hb dX0_lightEachOther_44 rfl (lv_at hl 0 rfl) ?_
            refine roV (As := [.int (nI k)]) (q0 := 0) (ci := 0) hx hb hml hown hts (c_X0_isBesideBurning l D cI cZ cL cO a n pl nw ns (foldN (le1 (leK (σ, κ)) nw) k σ) (leK (σ, κ)) G k (hB) (by omega)) (cwV 1 hts gX0_lightEachOther_X0_isBesideBurning rfl rfl rfl (by decide +kernel) ⟨by decide, by decide⟩) hK hE hP rfl rfl rfl rfl hl.1 rfl (Nat.le_of_ble_eq_true rfl) hS dX0_lightEachOther_45 ⟨Nat.zero_le _, Nat.zero_le _⟩ (fun locs hS => ?_)
            refine li_zeq (tgt := 58) hx hb dX0_lightEachOther_48 (by decide) (fun c5 => ?_) (fun c5 => ?_)
            · skip
              refine lv_iinc (v := nI (k + 1)) (lv' := [(1, .int (nI (k + 1))), (0, .ref (a 0))]) hx hb dX0_lightEachOther_58 hl (k := 0) rfl (nI_inc _ _) (by decide) rfl (fun ls hl => ?_)
              refine lv_goto (tgt := 13) hx hb dX0_lightEachOther_61 (by decide) ?_
              have hw9 : foldN (le1 (leK (σ, κ)) nw) k σ = foldN (le1 (leK (σ, κ)) nw) (k + 1) σ := by first | exact (le1_0 (by assumption)).symm | exact (le1_1 (by assumption)).symm | exact (le1_2 (by assumption)).symm | exact (le1_a (by assumption) (by assumption) (by assumption)).symm
              have hP : va_P D vwCl (wP cI cZ a n pl nw ns (foldN (le1 (leK (σ, κ)) nw) (k + 1) σ) (leK (σ, κ))) G := Eq.mp (congrArg (fun z9 => va_P D vwCl (wP cI cZ a n pl nw ns z9 (leK (σ, κ))) G) hw9) hP
              clear hw9
              have hl9 : lv_has ls 2 [(1, .int (nI (k + 1))), (0, .ref (a 0))] := lv_sub hl [0, 1] rfl
              exact ih13 (k + 1) (by omega) (by omega) G locs hP hS ls hl9
            · skip
              refine lv_aload_n hx hb dX0_lightEachOther_51 rfl (lv_at hl 1 rfl) ?_
              refine li_gf0 hx hb hX0 hown hK hP 0 rfl 6 (by decide) f24 rfl dX0_lightEachOther_52 ?_
              refine lv_iload_n hx hb dX0_lightEachOther_55 rfl (lv_at hl 0 rfl) ?_
              refine lv_iconst (v := nI 1) hx hb dX0_lightEachOther_56 rfl ?_
              refine li_zst hx hb hK hP hA.D hS 5 1 rfl rfl (by omega) (by decide) (rfl) stP_11 dX0_lightEachOther_57 (fun G locs hP hS => ?_)
              refine lv_iinc (v := nI (k + 1)) (lv' := [(1, .int (nI (k + 1))), (0, .ref (a 0))]) hx hb dX0_lightEachOther_58 hl (k := 0) rfl (nI_inc _ _) (by decide) rfl (fun ls hl => ?_)
              refine lv_goto (tgt := 13) hx hb dX0_lightEachOther_61 (by decide) ?_
              have hw9 : up2 (foldN (le1 (leK (σ, κ)) nw) k σ) 11 k (nI 1) = foldN (le1 (leK (σ, κ)) nw) (k + 1) σ := by first | exact (le1_0 (by assumption)).symm | exact (le1_1 (by assumption)).symm | exact (le1_2 (by assumption)).symm | exact (le1_a (by assumption) (by assumption) (by assumption)).symm
              have hP : va_P D vwCl (wP cI cZ a n pl nw ns (foldN (le1 (leK (σ, κ)) nw) (k + 1) σ) (leK (σ, κ))) G := Eq.mp (congrArg (fun z9 => va_P D vwCl (wP cI cZ a n pl nw ns z9 (leK (σ, κ))) G) hw9) hP
              clear hw9
              have hl9 : lv_has ls 2 [(1, .int (nI (k + 1))), (0, .ref (a 0))] := lv_sub hl [0, 1] rfl
              exact ih13 (k + 1) (by omega) (by omega) G locs hP hS ls hl9
  have hw9 : σ = foldN (le1 (leK (σ, κ)) nw) 0 σ := rfl
  have hP : va_P D vwCl (wP cI cZ a n pl nw ns (foldN (le1 (leK (σ, κ)) nw) 0 σ) (va_up κ 0 (σ 11))) G := Eq.mp (congrArg (fun z9 => va_P D vwCl (wP cI cZ a n pl nw ns z9 (va_up κ 0 (σ 11))) G) hw9) hP
  clear hw9
  have hw9 : va_up κ 0 (σ 11) = leK (σ, κ) := rfl
  have hP : va_P D vwCl (wP cI cZ a n pl nw ns (foldN (le1 (leK (σ, κ)) nw) 0 σ) (leK (σ, κ))) G := Eq.mp (congrArg (fun z9 => va_P D vwCl (wP cI cZ a n pl nw ns (foldN (le1 (leK (σ, κ)) nw) 0 σ) z9) G) hw9) hP
  clear hw9
  have hl9 : lv_has ls 2 [(1, .int (nI 0)), (0, .ref (a 0))] := lv_sub hl [0, 1] rfl
  exact L13_1 ((nw - 0) + 1) 0 (Nat.lt_succ_self _) (by omega) G locs hP hS ls hl9
set_option maxHeartbeats 4000000 in
set_option maxRecDepth 100000 in
theorem c_X0_listenTo (l : Launch) (D : va_G) (cI cZ cL cO : ClassId) (a : Nat → Nat) (n pl nw ns : Nat) (σ κ : Nat → Nat → Int32) (H : Heap) (sr : Nat) (lr : Nat) (A : Nat → Prop) (hA : okP A a 24) (hB : n ≤ 10 ∧ pl ≤ 200 ∧ nw ≤ 20 ∧ ns ≤ 6) (hsr : sr < 20) (hlr : lr < 20) : Met l yX0_listenTo wsX0_listenTo ({ frames := 1, cells := 0, slots := 0, locals := 21 } : Room) (ro_P D (T4 cI cZ cL cO) (wP cI cZ a n pl nw ns σ κ) H [.ref (a 0), .int (nI sr), .int (nI lr)]) (mu_Q D (wP cI cZ a n pl nw ns ((lisF lr sr ns (σ, κ)).1) ((lisF lr sr ns (σ, κ)).2)) A) 0 0 A := by
  refine mu_of (cc := cX0_listenTo) (maxL := 9) (by decide) rfl (Nat.le_of_ble_eq_true rfl) ?_
  intro p e s m args below meth c Q ls locs hx hb hml hown hts hK hE hP hl hS hEnd
  have hl : lv_has ls 9 [(0, .ref (a 0)), (1, .int (nI sr)), (2, .int (nI lr))] := hl
  have hX0 : ∀ w ∈ wsX00, w.before args s = true := fun w h => hts w (List.mem_cons_of_mem _ (List.mem_append_left _ (List.mem_append_right _ (h))))
  have hX1 : ∀ w ∈ wsX10, w.before args s = true := fun w h => hts w (List.mem_cons_of_mem _ (List.mem_append_right _ (h)))
  have f58 : (Cond.fieldLink RX0 58 "LanternWalk$Parade" "setting" "LLanternWalk$Setting;").before args s = true := hts _ (List.mem_of_getElem? (i := 1) rfl)
  have f172 : (Cond.fieldLink RX0 172 "LanternWalk$Setting" "voice" "[I").before args s = true := hts _ (List.mem_of_getElem? (i := 2) rfl)
  have f24 : (Cond.fieldLink RX0 24 "LanternWalk$Parade" "burns" "[Z").before args s = true := hts _ (List.mem_of_getElem? (i := 3) rfl)
  have f97 : (Cond.fieldLink RX0 97 "LanternWalk$Setting" "songs" "I").before args s = true := hts _ (List.mem_of_getElem? (i := 4) rfl)
  have g4 : (Cond.initialized RX2).before args s = true := hts _ (List.mem_of_getElem? (i := 10) rfl)
  have g5 : (Cond.static yX2_cellOf).before args s = true := hts _ (List.mem_of_getElem? (i := 9) rfl)
  have f46 : (Cond.fieldLink RX0 46 "LanternWalk$Parade" "knownBefore" "[I").before args s = true := hts _ (List.mem_of_getElem? (i := 5) rfl)
  have f49 : (Cond.fieldLink RX0 49 "LanternWalk$Parade" "loudest" "[I").before args s = true := hts _ (List.mem_of_getElem? (i := 6) rfl)
  have f175 : (Cond.fieldLink RX0 175 "LanternWalk$Setting" "songLength" "[I").before args s = true := hts _ (List.mem_of_getElem? (i := 7) rfl)
  have f40 : (Cond.fieldLink RX0 40 "LanternWalk$Parade" "known" "[I").before args s = true := hts _ (List.mem_of_getElem? (i := 8) rfl)
  refine lv_aload_n hx hb dX0_listenTo_0 rfl (lv_at hl 0 rfl) ?_
  refine li_gf0 hx hb hX0 hown hK hP 0 rfl 0 (by decide) f58 rfl dX0_listenTo_1 ?_
  refine li_gf1 hx hb hX1 hown hK hP 16 rfl 8 (by decide) f172 rfl dX0_listenTo_4 ?_
  refine lv_iload_n hx hb dX0_listenTo_7 rfl (lv_at hl 1 rfl) ?_
  refine li_ild hx hb hK hP 22 0 rfl rfl (by omega) (by decide) dX0_listenTo_8 ?_
  refine lv_istore_n (lv' := [(3, .int (σ 5 sr)), (0, .ref (a 0)), (1, .int (nI sr)), (2, .int (nI lr))]) hx hb dX0_listenTo_9 rfl hl (by decide) rfl (fun ls hl => ?_)
  refine lv_aload_n hx hb dX0_listenTo_10 rfl (lv_at hl 1 rfl) ?_
  refine li_gf0 hx hb hX0 hown hK hP 0 rfl 6 (by decide) f24 rfl dX0_listenTo_11 ?_
  refine lv_iload_n hx hb dX0_listenTo_14 rfl (lv_at hl 3 rfl) ?_
  refine li_zld hx hb hK hP 5 1 rfl rfl (by omega) (by decide) dX0_listenTo_15 ?_
  refine lv_if_eq (tgt := 23) hx hb dX0_listenTo_16 (by decide) (fun c1 => ?_) (fun c1 => ?_)
  · skip
    refine lv_iload_n hx hb dX0_listenTo_23 rfl (lv_at hl 0 rfl) ?_
    refine lv_iconst (v := nI 3) hx hb dX0_listenTo_24 rfl ?_
    refine lv_iadd hx hb dX0_listenTo_25 ?_
    refine lv_istore (lv' := [(4, .int ((σ 5 sr) + (nI 3))), (3, .int (σ 5 sr)), (0, .ref (a 0)), (1, .int (nI sr)), (2, .int (nI lr))]) hx hb dX0_listenTo_26 hl (by decide) rfl (fun ls hl => ?_)
    refine lv_aload_n hx hb dX0_listenTo_28 rfl (lv_at hl 2 rfl) ?_
    refine li_gf0 hx hb hX0 hown hK hP 0 rfl 6 (by decide) f24 rfl dX0_listenTo_29 ?_
    refine lv_iload_n hx hb dX0_listenTo_32 rfl (lv_at hl 4 rfl) ?_
    refine li_zld hx hb hK hP 5 1 rfl rfl (by omega) (by decide) dX0_listenTo_33 ?_
    refine lv_if_eq (tgt := 50) hx hb dX0_listenTo_34 (by decide) (fun c2 => ?_) (fun c2 => ?_)
    · skip
      refine lv_iconst (v := nI 0) hx hb dX0_listenTo_50 rfl ?_
      refine lv_istore (lv' := [(5, .int (nI 0)), (4, .int ((σ 5 sr) + (nI 3))), (3, .int (σ 5 sr)), (0, .ref (a 0)), (1, .int (nI sr)), (2, .int (nI lr))]) hx hb dX0_listenTo_51 hl (by decide) rfl (fun ls hl => ?_)
      refine lv_iconst (v := nI 0) hx hb dX0_listenTo_53 rfl ?_
      refine lv_istore (lv' := [(6, .int (nI 0)), (5, .int (nI 0)), (4, .int ((σ 5 sr) + (nI 3))), (3, .int (σ 5 sr)), (0, .ref (a 0)), (1, .int (nI sr)), (2, .int (nI lr))]) hx hb dX0_listenTo_54 hl (by decide) rfl (fun ls hl => ?_)
      have L56_3 : ∀ (fuel : Nat) (k : Nat) (hd : Int32) (ch : Bool), (ns - k) < fuel → (k ≤ ns) → (hd = hrd σ lr sr) → (ch = chg σ lr sr) → ∀ (G : Heap) (locs : List Loc), va_P D vwCl (wP cI cZ a n pl nw ns ((foldN (lis1 lr sr (σ 5 sr) hd ch) k (σ, κ)).1) ((foldN (lis1 lr sr (σ 5 sr) hd ch) k (σ, κ)).2)) G → va_S A H G locs → ∀ (ls : Array Slot), lv_has ls 9 [(6, .int (nI k)), (5, .int (zI ch)), (4, .int hd), (3, .int (σ 5 sr)), (0, .ref (a 0)), (1, .int (nI sr)), (2, .int (nI lr))] → W p l e ({ frames := 1, cells := 0, slots := 0, locals := 21 } : Room) s m args below meth c G locs 0 0 Q (F0 m 56 ls []) := by
        intro fuel
        induction fuel with
        | zero =>
          intro k hd ch hfuel
          exact absurd hfuel (Nat.not_lt_zero _)
        | succ fuel ih56 =>
          intro k hd ch hfuel56 hk hhd hch G locs hP hS ls hl
          refine lv_iload hx hb dX0_listenTo_56 (lv_at hl 0 rfl) ?_
          refine lv_aload_n hx hb dX0_listenTo_58 rfl (lv_at hl 4 rfl) ?_
          refine li_gf0 hx hb hX0 hown hK hP 0 rfl 0 (by decide) f58 rfl dX0_listenTo_59 ?_
          refine li_gf1 hx hb hX1 hown hK hP 16 rfl 9 (by decide) f97 rfl dX0_listenTo_62 ?_
          refine li_ge (tgt := 168) hx hb dX0_listenTo_65 (by decide) (by omega) (by omega) (fun c4 => ?_) (fun c4 => ?_)
          · skip
            have hw9 : (foldN (lis1 lr sr (σ 5 sr) hd ch) k (σ, κ)).1 = (lisF lr sr ns (σ, κ)).1 := by rw [show k = ns by omega, hhd, hch]; rfl
            have hP : va_P D vwCl (wP cI cZ a n pl nw ns ((lisF lr sr ns (σ, κ)).1) ((foldN (lis1 lr sr (σ 5 sr) hd ch) k (σ, κ)).2)) G := Eq.mp (congrArg (fun z9 => va_P D vwCl (wP cI cZ a n pl nw ns z9 ((foldN (lis1 lr sr (σ 5 sr) hd ch) k (σ, κ)).2)) G) hw9) hP
            clear hw9
            have hw9 : (foldN (lis1 lr sr (σ 5 sr) hd ch) k (σ, κ)).2 = (lisF lr sr ns (σ, κ)).2 := by rw [show k = ns by omega, hhd, hch]; rfl
            have hP : va_P D vwCl (wP cI cZ a n pl nw ns ((lisF lr sr ns (σ, κ)).1) ((lisF lr sr ns (σ, κ)).2)) G := Eq.mp (congrArg (fun z9 => va_P D vwCl (wP cI cZ a n pl nw ns ((lisF lr sr ns (σ, κ)).1) z9) G) hw9) hP
            clear hw9
            exact hEnd 168 ls G locs dX0_listenTo_168 hP hS
          · skip
            refine lv_iload_n hx hb dX0_listenTo_68 rfl (lv_at hl 6 rfl) ?_
            refine lv_iload hx hb dX0_listenTo_69 (lv_at hl 0 rfl) ?_
            refine roSN (As := [.int (nI lr), .int (nI k)]) hx hb hml hown hts (c_X2_cellOf l D cI cZ cL cO a n pl nw ns ((foldN (lis1 lr sr (σ 5 sr) hd ch) k (σ, κ)).1) ((foldN (lis1 lr sr (σ 5 sr) hd ch) k (σ, κ)).2) G lr k (hB)) ⟨va_cnB 2 hts gX0_listenTo_X2_cellOf_n104 rfl rfl rfl hE.1 g4 (by decide +kernel) ⟨by decide, by decide⟩, g5, trivial⟩ hK hE hP rfl hl.1 rfl (Nat.le_of_ble_eq_true rfl) hS dX0_listenTo_71 ⟨Nat.zero_le _, Nat.zero_le _⟩ (fun locs hS => ?_)
            refine lv_istore (lv' := [(7, .int (nI (6 * lr + k))), (6, .int (nI k)), (5, .int (zI ch)), (4, .int hd), (3, .int (σ 5 sr)), (0, .ref (a 0)), (1, .int (nI sr)), (2, .int (nI lr))]) hx hb dX0_listenTo_74 hl (by decide) rfl (fun ls hl => ?_)
            refine lv_aload_n hx hb dX0_listenTo_76 rfl (lv_at hl 5 rfl) ?_
            refine li_gf0 hx hb hX0 hown hK hP 0 rfl 13 (by decide) f46 rfl dX0_listenTo_77 ?_
            refine lv_iload_n hx hb dX0_listenTo_80 rfl (lv_at hl 6 rfl) ?_
            refine lv_iload hx hb dX0_listenTo_81 (lv_at hl 1 rfl) ?_
            refine roSN (As := [.int (nI sr), .int (nI k)]) hx hb hml hown hts (c_X2_cellOf l D cI cZ cL cO a n pl nw ns ((foldN (lis1 lr sr (σ 5 sr) hd ch) k (σ, κ)).1) ((foldN (lis1 lr sr (σ 5 sr) hd ch) k (σ, κ)).2) G sr k (hB)) ⟨va_cnB 2 hts gX0_listenTo_X2_cellOf_n104 rfl rfl rfl hE.1 g4 (by decide +kernel) ⟨by decide, by decide⟩, g5, trivial⟩ hK hE hP rfl hl.1 rfl (Nat.le_of_ble_eq_true rfl) hS dX0_listenTo_83 ⟨Nat.zero_le _, Nat.zero_le _⟩ (fun locs hS => ?_)
            refine li_ild hx hb hK hP 12 0 rfl rfl (by omega) (by decide) dX0_listenTo_86 ?_
            refine lv_istore (lv' := [(8, .int (((foldN (lis1 lr sr (σ 5 sr) hd ch) k (σ, κ)).2) 1 (6 * sr + k))), (7, .int (nI (6 * lr + k))), (6, .int (nI k)), (5, .int (zI ch)), (4, .int hd), (3, .int (σ 5 sr)), (0, .ref (a 0)), (1, .int (nI sr)), (2, .int (nI lr))]) hx hb dX0_listenTo_87 hl (by decide) rfl (fun ls hl => ?_)
            refine lv_aload_n hx hb dX0_listenTo_89 rfl (lv_at hl 6 rfl) ?_
            refine li_gf0 hx hb hX0 hown hK hP 0 rfl 13 (by decide) f46 rfl dX0_listenTo_90 ?_
            refine lv_iload hx hb dX0_listenTo_93 (lv_at hl 1 rfl) ?_
            refine li_ild hx hb hK hP 12 0 rfl rfl (by omega) (by decide) dX0_listenTo_95 ?_
            refine lv_if_ne (tgt := 162) hx hb dX0_listenTo_96 (by decide) (fun c5 => ?_) (fun c5 => ?_)
            · skip
              refine lv_iinc (v := nI (k + 1)) (lv' := [(6, .int (nI (k + 1))), (8, .int (((foldN (lis1 lr sr (σ 5 sr) hd ch) k (σ, κ)).2) 1 (6 * sr + k))), (7, .int (nI (6 * lr + k))), (5, .int (zI ch)), (4, .int hd), (3, .int (σ 5 sr)), (0, .ref (a 0)), (1, .int (nI sr)), (2, .int (nI lr))]) hx hb dX0_listenTo_162 hl (k := 2) rfl (nI_inc _ _) (by decide) rfl (fun ls hl => ?_)
              refine lv_goto (tgt := 56) hx hb dX0_listenTo_165 (by decide) ?_
              have hw9 : (foldN (lis1 lr sr (σ 5 sr) hd ch) k (σ, κ)).1 = (foldN (lis1 lr sr (σ 5 sr) hd ch) (k + 1) (σ, κ)).1 := by first | exact (congrArg Prod.fst (lis1_a (by assumption))).symm | exact (congrArg Prod.fst (lis1_b (by assumption))).symm | exact (congrArg Prod.fst (lis1_c (by assumption))).symm | exact (congrArg Prod.fst (lis1_d (by assumption) (by assumption) (by assumption) (by assumption))).symm | exact (congrArg Prod.fst (lis1_e (by assumption) (by assumption) (by assumption) (by assumption) (by assumption))).symm | exact (congrArg Prod.fst (lis1_f (by assumption) (by assumption) (by assumption) (by assumption) (by assumption))).symm
              have hP : va_P D vwCl (wP cI cZ a n pl nw ns ((foldN (lis1 lr sr (σ 5 sr) hd ch) (k + 1) (σ, κ)).1) ((foldN (lis1 lr sr (σ 5 sr) hd ch) k (σ, κ)).2)) G := Eq.mp (congrArg (fun z9 => va_P D vwCl (wP cI cZ a n pl nw ns z9 ((foldN (lis1 lr sr (σ 5 sr) hd ch) k (σ, κ)).2)) G) hw9) hP
              clear hw9
              have hw9 : (foldN (lis1 lr sr (σ 5 sr) hd ch) k (σ, κ)).2 = (foldN (lis1 lr sr (σ 5 sr) hd ch) (k + 1) (σ, κ)).2 := by first | exact (congrArg Prod.snd (lis1_a (by assumption))).symm | exact (congrArg Prod.snd (lis1_b (by assumption))).symm | exact (congrArg Prod.snd (lis1_c (by assumption))).symm | exact (congrArg Prod.snd (lis1_d (by assumption) (by assumption) (by assumption) (by assumption))).symm | exact (congrArg Prod.snd (lis1_e (by assumption) (by assumption) (by assumption) (by assumption) (by assumption))).symm | exact (congrArg Prod.snd (lis1_f (by assumption) (by assumption) (by assumption) (by assumption) (by assumption))).symm
              have hP : va_P D vwCl (wP cI cZ a n pl nw ns ((foldN (lis1 lr sr (σ 5 sr) hd ch) (k + 1) (σ, κ)).1) ((foldN (lis1 lr sr (σ 5 sr) hd ch) (k + 1) (σ, κ)).2)) G := Eq.mp (congrArg (fun z9 => va_P D vwCl (wP cI cZ a n pl nw ns ((foldN (lis1 lr sr (σ 5 sr) hd ch) (k + 1) (σ, κ)).1) z9) G) hw9) hP
              clear hw9
              have hl9 : lv_has ls 9 [(6, .int (nI (k + 1))), (5, .int (zI ch)), (4, .int hd), (3, .int (σ 5 sr)), (0, .ref (a 0)), (1, .int (nI sr)), (2, .int (nI lr))] := lv_sub hl [0, 3, 4, 5, 6, 7, 8] rfl
              exact ih56 (k + 1) hd ch (by omega) (by omega) (by omega) (by omega) G locs hP hS ls hl9
            · skip
              refine lv_iload hx hb dX0_listenTo_99 (lv_at hl 0 rfl) ?_
              refine lv_if_eq (tgt := 162) hx hb dX0_listenTo_101 (by decide) (fun c6 => ?_) (fun c6 => ?_)
              · skip
                refine lv_iinc (v := nI (k + 1)) (lv' := [(6, .int (nI (k + 1))), (8, .int (((foldN (lis1 lr sr (σ 5 sr) hd ch) k (σ, κ)).2) 1 (6 * sr + k))), (7, .int (nI (6 * lr + k))), (5, .int (zI ch)), (4, .int hd), (3, .int (σ 5 sr)), (0, .ref (a 0)), (1, .int (nI sr)), (2, .int (nI lr))]) hx hb dX0_listenTo_162 hl (k := 2) rfl (nI_inc _ _) (by decide) rfl (fun ls hl => ?_)
                refine lv_goto (tgt := 56) hx hb dX0_listenTo_165 (by decide) ?_
                have hw9 : (foldN (lis1 lr sr (σ 5 sr) hd ch) k (σ, κ)).1 = (foldN (lis1 lr sr (σ 5 sr) hd ch) (k + 1) (σ, κ)).1 := by first | exact (congrArg Prod.fst (lis1_a (by assumption))).symm | exact (congrArg Prod.fst (lis1_b (by assumption))).symm | exact (congrArg Prod.fst (lis1_c (by assumption))).symm | exact (congrArg Prod.fst (lis1_d (by assumption) (by assumption) (by assumption) (by assumption))).symm | exact (congrArg Prod.fst (lis1_e (by assumption) (by assumption) (by assumption) (by assumption) (by assumption))).symm | exact (congrArg Prod.fst (lis1_f (by assumption) (by assumption) (by assumption) (by assumption) (by assumption))).symm
                have hP : va_P D vwCl (wP cI cZ a n pl nw ns ((foldN (lis1 lr sr (σ 5 sr) hd ch) (k + 1) (σ, κ)).1) ((foldN (lis1 lr sr (σ 5 sr) hd ch) k (σ, κ)).2)) G := Eq.mp (congrArg (fun z9 => va_P D vwCl (wP cI cZ a n pl nw ns z9 ((foldN (lis1 lr sr (σ 5 sr) hd ch) k (σ, κ)).2)) G) hw9) hP
                clear hw9
                have hw9 : (foldN (lis1 lr sr (σ 5 sr) hd ch) k (σ, κ)).2 = (foldN (lis1 lr sr (σ 5 sr) hd ch) (k + 1) (σ, κ)).2 := by first | exact (congrArg Prod.snd (lis1_a (by assumption))).symm | exact (congrArg Prod.snd (lis1_b (by assumption))).symm | exact (congrArg Prod.snd (lis1_c (by assumption))).symm | exact (congrArg Prod.snd (lis1_d (by assumption) (by assumption) (by assumption) (by assumption))).symm | exact (congrArg Prod.snd (lis1_e (by assumption) (by assumption) (by assumption) (by assumption) (by assumption))).symm | exact (congrArg Prod.snd (lis1_f (by assumption) (by assumption) (by assumption) (by assumption) (by assumption))).symm
                have hP : va_P D vwCl (wP cI cZ a n pl nw ns ((foldN (lis1 lr sr (σ 5 sr) hd ch) (k + 1) (σ, κ)).1) ((foldN (lis1 lr sr (σ 5 sr) hd ch) (k + 1) (σ, κ)).2)) G := Eq.mp (congrArg (fun z9 => va_P D vwCl (wP cI cZ a n pl nw ns ((foldN (lis1 lr sr (σ 5 sr) hd ch) (k + 1) (σ, κ)).1) z9) G) hw9) hP
                clear hw9
                have hl9 : lv_has ls 9 [(6, .int (nI (k + 1))), (5, .int (zI ch)), (4, .int hd), (3, .int (σ 5 sr)), (0, .ref (a 0)), (1, .int (nI sr)), (2, .int (nI lr))] := lv_sub hl [0, 3, 4, 5, 6, 7, 8] rfl
                exact ih56 (k + 1) hd ch (by omega) (by omega) (by omega) (by omega) G locs hP hS ls hl9
              · skip
                refine lv_iload_n hx hb dX0_listenTo_104 rfl (lv_at hl 5 rfl) ?_
                refine lv_aload_n hx hb dX0_listenTo_105 rfl (lv_at hl 6 rfl) ?_
                refine li_gf0 hx hb hX0 hown hK hP 0 rfl 14 (by decide) f49 rfl dX0_listenTo_106 ?_
                refine lv_iload hx hb dX0_listenTo_109 (lv_at hl 2 rfl) ?_
                refine li_ild hx hb hK hP 13 0 rfl rfl (by omega) (by decide) dX0_listenTo_111 ?_
                refine lv_icmp_le (tgt := 162) hx hb dX0_listenTo_112 (by decide) (fun c7 => ?_) (fun c7 => ?_)
                · skip
                  refine lv_iinc (v := nI (k + 1)) (lv' := [(6, .int (nI (k + 1))), (8, .int (((foldN (lis1 lr sr (σ 5 sr) hd ch) k (σ, κ)).2) 1 (6 * sr + k))), (7, .int (nI (6 * lr + k))), (5, .int (zI ch)), (4, .int hd), (3, .int (σ 5 sr)), (0, .ref (a 0)), (1, .int (nI sr)), (2, .int (nI lr))]) hx hb dX0_listenTo_162 hl (k := 2) rfl (nI_inc _ _) (by decide) rfl (fun ls hl => ?_)
                  refine lv_goto (tgt := 56) hx hb dX0_listenTo_165 (by decide) ?_
                  have hw9 : (foldN (lis1 lr sr (σ 5 sr) hd ch) k (σ, κ)).1 = (foldN (lis1 lr sr (σ 5 sr) hd ch) (k + 1) (σ, κ)).1 := by first | exact (congrArg Prod.fst (lis1_a (by assumption))).symm | exact (congrArg Prod.fst (lis1_b (by assumption))).symm | exact (congrArg Prod.fst (lis1_c (by assumption))).symm | exact (congrArg Prod.fst (lis1_d (by assumption) (by assumption) (by assumption) (by assumption))).symm | exact (congrArg Prod.fst (lis1_e (by assumption) (by assumption) (by assumption) (by assumption) (by assumption))).symm | exact (congrArg Prod.fst (lis1_f (by assumption) (by assumption) (by assumption) (by assumption) (by assumption))).symm
                  have hP : va_P D vwCl (wP cI cZ a n pl nw ns ((foldN (lis1 lr sr (σ 5 sr) hd ch) (k + 1) (σ, κ)).1) ((foldN (lis1 lr sr (σ 5 sr) hd ch) k (σ, κ)).2)) G := Eq.mp (congrArg (fun z9 => va_P D vwCl (wP cI cZ a n pl nw ns z9 ((foldN (lis1 lr sr (σ 5 sr) hd ch) k (σ, κ)).2)) G) hw9) hP
                  clear hw9
                  have hw9 : (foldN (lis1 lr sr (σ 5 sr) hd ch) k (σ, κ)).2 = (foldN (lis1 lr sr (σ 5 sr) hd ch) (k + 1) (σ, κ)).2 := by first | exact (congrArg Prod.snd (lis1_a (by assumption))).symm | exact (congrArg Prod.snd (lis1_b (by assumption))).symm | exact (congrArg Prod.snd (lis1_c (by assumption))).symm | exact (congrArg Prod.snd (lis1_d (by assumption) (by assumption) (by assumption) (by assumption))).symm | exact (congrArg Prod.snd (lis1_e (by assumption) (by assumption) (by assumption) (by assumption) (by assumption))).symm | exact (congrArg Prod.snd (lis1_f (by assumption) (by assumption) (by assumption) (by assumption) (by assumption))).symm
                  have hP : va_P D vwCl (wP cI cZ a n pl nw ns ((foldN (lis1 lr sr (σ 5 sr) hd ch) (k + 1) (σ, κ)).1) ((foldN (lis1 lr sr (σ 5 sr) hd ch) (k + 1) (σ, κ)).2)) G := Eq.mp (congrArg (fun z9 => va_P D vwCl (wP cI cZ a n pl nw ns ((foldN (lis1 lr sr (σ 5 sr) hd ch) (k + 1) (σ, κ)).1) z9) G) hw9) hP
                  clear hw9
                  have hl9 : lv_has ls 9 [(6, .int (nI (k + 1))), (5, .int (zI ch)), (4, .int hd), (3, .int (σ 5 sr)), (0, .ref (a 0)), (1, .int (nI sr)), (2, .int (nI lr))] := lv_sub hl [0, 3, 4, 5, 6, 7, 8] rfl
                  exact ih56 (k + 1) hd ch (by omega) (by omega) (by omega) (by omega) G locs hP hS ls hl9
                · skip
                  refine lv_aload_n hx hb dX0_listenTo_115 rfl (lv_at hl 6 rfl) ?_
                  refine li_gf0 hx hb hX0 hown hK hP 0 rfl 14 (by decide) f49 rfl dX0_listenTo_116 ?_
                  refine lv_iload hx hb dX0_listenTo_119 (lv_at hl 2 rfl) ?_
                  refine lv_iload_n hx hb dX0_listenTo_121 rfl (lv_at hl 5 rfl) ?_
                  refine li_ist hx hb hK hP hA.D hS 13 0 rfl rfl (by omega) (by decide) stK_2 dX0_listenTo_122 (fun G locs hP hS => ?_)
                  refine lv_iload hx hb dX0_listenTo_123 (lv_at hl 4 rfl) ?_
                  refine lv_aload_n hx hb dX0_listenTo_125 rfl (lv_at hl 6 rfl) ?_
                  refine li_gf0 hx hb hX0 hown hK hP 0 rfl 0 (by decide) f58 rfl dX0_listenTo_126 ?_
                  refine li_gf1 hx hb hX1 hown hK hP 16 rfl 10 (by decide) f175 rfl dX0_listenTo_129 ?_
                  refine lv_iload hx hb dX0_listenTo_132 (lv_at hl 2 rfl) ?_
                  refine li_ild hx hb hK hP 23 0 rfl rfl (by omega) (by decide) dX0_listenTo_134 ?_
                  refine lv_icmp_lt (tgt := 162) hx hb dX0_listenTo_135 (by decide) (fun c8 => ?_) (fun c8 => ?_)
                  · skip
                    refine lv_iinc (v := nI (k + 1)) (lv' := [(6, .int (nI (k + 1))), (8, .int (((foldN (lis1 lr sr (σ 5 sr) hd ch) k (σ, κ)).2) 1 (6 * sr + k))), (7, .int (nI (6 * lr + k))), (5, .int (zI ch)), (4, .int hd), (3, .int (σ 5 sr)), (0, .ref (a 0)), (1, .int (nI sr)), (2, .int (nI lr))]) hx hb dX0_listenTo_162 hl (k := 2) rfl (nI_inc _ _) (by decide) rfl (fun ls hl => ?_)
                    refine lv_goto (tgt := 56) hx hb dX0_listenTo_165 (by decide) ?_
                    have hw9 : (foldN (lis1 lr sr (σ 5 sr) hd ch) k (σ, κ)).1 = (foldN (lis1 lr sr (σ 5 sr) hd ch) (k + 1) (σ, κ)).1 := by first | exact (congrArg Prod.fst (lis1_a (by assumption))).symm | exact (congrArg Prod.fst (lis1_b (by assumption))).symm | exact (congrArg Prod.fst (lis1_c (by assumption))).symm | exact (congrArg Prod.fst (lis1_d (by assumption) (by assumption) (by assumption) (by assumption))).symm | exact (congrArg Prod.fst (lis1_e (by assumption) (by assumption) (by assumption) (by assumption) (by assumption))).symm | exact (congrArg Prod.fst (lis1_f (by assumption) (by assumption) (by assumption) (by assumption) (by assumption))).symm
                    have hP : va_P D vwCl (wP cI cZ a n pl nw ns ((foldN (lis1 lr sr (σ 5 sr) hd ch) (k + 1) (σ, κ)).1) (up2 ((foldN (lis1 lr sr (σ 5 sr) hd ch) k (σ, κ)).2) 2 k (σ 5 sr))) G := Eq.mp (congrArg (fun z9 => va_P D vwCl (wP cI cZ a n pl nw ns z9 (up2 ((foldN (lis1 lr sr (σ 5 sr) hd ch) k (σ, κ)).2) 2 k (σ 5 sr))) G) hw9) hP
                    clear hw9
                    have hw9 : up2 ((foldN (lis1 lr sr (σ 5 sr) hd ch) k (σ, κ)).2) 2 k (σ 5 sr) = (foldN (lis1 lr sr (σ 5 sr) hd ch) (k + 1) (σ, κ)).2 := by first | exact (congrArg Prod.snd (lis1_a (by assumption))).symm | exact (congrArg Prod.snd (lis1_b (by assumption))).symm | exact (congrArg Prod.snd (lis1_c (by assumption))).symm | exact (congrArg Prod.snd (lis1_d (by assumption) (by assumption) (by assumption) (by assumption))).symm | exact (congrArg Prod.snd (lis1_e (by assumption) (by assumption) (by assumption) (by assumption) (by assumption))).symm | exact (congrArg Prod.snd (lis1_f (by assumption) (by assumption) (by assumption) (by assumption) (by assumption))).symm
                    have hP : va_P D vwCl (wP cI cZ a n pl nw ns ((foldN (lis1 lr sr (σ 5 sr) hd ch) (k + 1) (σ, κ)).1) ((foldN (lis1 lr sr (σ 5 sr) hd ch) (k + 1) (σ, κ)).2)) G := Eq.mp (congrArg (fun z9 => va_P D vwCl (wP cI cZ a n pl nw ns ((foldN (lis1 lr sr (σ 5 sr) hd ch) (k + 1) (σ, κ)).1) z9) G) hw9) hP
                    clear hw9
                    have hl9 : lv_has ls 9 [(6, .int (nI (k + 1))), (5, .int (zI ch)), (4, .int hd), (3, .int (σ 5 sr)), (0, .ref (a 0)), (1, .int (nI sr)), (2, .int (nI lr))] := lv_sub hl [0, 3, 4, 5, 6, 7, 8] rfl
                    exact ih56 (k + 1) hd ch (by omega) (by omega) (by omega) (by omega) G locs hP hS ls hl9
                  · skip
                    refine lv_aload_n hx hb dX0_listenTo_138 rfl (lv_at hl 6 rfl) ?_
                    refine li_gf0 hx hb hX0 hown hK hP 0 rfl 11 (by decide) f40 rfl dX0_listenTo_139 ?_
                    refine lv_iload hx hb dX0_listenTo_142 (lv_at hl 1 rfl) ?_
                    refine lv_iload hx hb dX0_listenTo_144 (lv_at hl 3 rfl) ?_
                    refine li_zeq (tgt := 159) hx hb dX0_listenTo_146 (by decide) (fun c9 => ?_) (fun c9 => ?_)
                    · skip
                      refine lv_iload hx hb dX0_listenTo_159 (lv_at hl 0 rfl) ?_
                      refine li_ist hx hb hK hP hA.D hS 10 0 rfl rfl (by omega) (by decide) stP_16 dX0_listenTo_161 (fun G locs hP hS => ?_)
                      refine lv_iinc (v := nI (k + 1)) (lv' := [(6, .int (nI (k + 1))), (8, .int (((foldN (lis1 lr sr (σ 5 sr) hd ch) k (σ, κ)).2) 1 (6 * sr + k))), (7, .int (nI (6 * lr + k))), (5, .int (zI ch)), (4, .int hd), (3, .int (σ 5 sr)), (0, .ref (a 0)), (1, .int (nI sr)), (2, .int (nI lr))]) hx hb dX0_listenTo_162 hl (k := 2) rfl (nI_inc _ _) (by decide) rfl (fun ls hl => ?_)
                      refine lv_goto (tgt := 56) hx hb dX0_listenTo_165 (by decide) ?_
                      have hw9 : up2 ((foldN (lis1 lr sr (σ 5 sr) hd ch) k (σ, κ)).1) 16 (6 * lr + k) (((foldN (lis1 lr sr (σ 5 sr) hd ch) k (σ, κ)).2) 1 (6 * sr + k)) = (foldN (lis1 lr sr (σ 5 sr) hd ch) (k + 1) (σ, κ)).1 := by first | exact (congrArg Prod.fst (lis1_a (by assumption))).symm | exact (congrArg Prod.fst (lis1_b (by assumption))).symm | exact (congrArg Prod.fst (lis1_c (by assumption))).symm | exact (congrArg Prod.fst (lis1_d (by assumption) (by assumption) (by assumption) (by assumption))).symm | exact (congrArg Prod.fst (lis1_e (by assumption) (by assumption) (by assumption) (by assumption) (by assumption))).symm | exact (congrArg Prod.fst (lis1_f (by assumption) (by assumption) (by assumption) (by assumption) (by assumption))).symm
                      have hP : va_P D vwCl (wP cI cZ a n pl nw ns ((foldN (lis1 lr sr (σ 5 sr) hd ch) (k + 1) (σ, κ)).1) (up2 ((foldN (lis1 lr sr (σ 5 sr) hd ch) k (σ, κ)).2) 2 k (σ 5 sr))) G := Eq.mp (congrArg (fun z9 => va_P D vwCl (wP cI cZ a n pl nw ns z9 (up2 ((foldN (lis1 lr sr (σ 5 sr) hd ch) k (σ, κ)).2) 2 k (σ 5 sr))) G) hw9) hP
                      clear hw9
                      have hw9 : up2 ((foldN (lis1 lr sr (σ 5 sr) hd ch) k (σ, κ)).2) 2 k (σ 5 sr) = (foldN (lis1 lr sr (σ 5 sr) hd ch) (k + 1) (σ, κ)).2 := by first | exact (congrArg Prod.snd (lis1_a (by assumption))).symm | exact (congrArg Prod.snd (lis1_b (by assumption))).symm | exact (congrArg Prod.snd (lis1_c (by assumption))).symm | exact (congrArg Prod.snd (lis1_d (by assumption) (by assumption) (by assumption) (by assumption))).symm | exact (congrArg Prod.snd (lis1_e (by assumption) (by assumption) (by assumption) (by assumption) (by assumption))).symm | exact (congrArg Prod.snd (lis1_f (by assumption) (by assumption) (by assumption) (by assumption) (by assumption))).symm
                      have hP : va_P D vwCl (wP cI cZ a n pl nw ns ((foldN (lis1 lr sr (σ 5 sr) hd ch) (k + 1) (σ, κ)).1) ((foldN (lis1 lr sr (σ 5 sr) hd ch) (k + 1) (σ, κ)).2)) G := Eq.mp (congrArg (fun z9 => va_P D vwCl (wP cI cZ a n pl nw ns ((foldN (lis1 lr sr (σ 5 sr) hd ch) (k + 1) (σ, κ)).1) z9) G) hw9) hP
                      clear hw9
                      have hl9 : lv_has ls 9 [(6, .int (nI (k + 1))), (5, .int (zI ch)), (4, .int hd), (3, .int (σ 5 sr)), (0, .ref (a 0)), (1, .int (nI sr)), (2, .int (nI lr))] := lv_sub hl [0, 3, 4, 5, 6, 7, 8] rfl
                      exact ih56 (k + 1) hd ch (by omega) (by omega) (by omega) (by omega) G locs hP hS ls hl9
                    · skip
                      refine lv_iload hx hb dX0_listenTo_149 (lv_at hl 0 rfl) ?_
                      refine lv_bipush (v := nI 99) hx hb dX0_listenTo_151 rfl ?_
                      refine lv_irem hx hb dX0_listenTo_153 (by decide) ?_
                      refine li_topi (show (((foldN (lis1 lr sr (σ 5 sr) hd ch) k (σ, κ)).2) 1 (6 * sr + k)) - (((foldN (lis1 lr sr (σ 5 sr) hd ch) k (σ, κ)).2) 1 (6 * sr + k)) / (nI 99) * (nI 99) = rem99 ((((foldN (lis1 lr sr (σ 5 sr) hd ch) k (σ, κ)).2) 1 (6 * sr + k))) from rfl) ?_
                      refine lv_iconst (v := nI 1) hx hb dX0_listenTo_154 rfl ?_
                      refine lv_iadd hx hb dX0_listenTo_155 ?_
                      refine lv_goto (tgt := 161) hx hb dX0_listenTo_156 (by decide) ?_
                      refine li_ist hx hb hK hP hA.D hS 10 0 rfl rfl (by omega) (by decide) stP_16 dX0_listenTo_161 (fun G locs hP hS => ?_)
                      refine lv_iinc (v := nI (k + 1)) (lv' := [(6, .int (nI (k + 1))), (8, .int (((foldN (lis1 lr sr (σ 5 sr) hd ch) k (σ, κ)).2) 1 (6 * sr + k))), (7, .int (nI (6 * lr + k))), (5, .int (zI ch)), (4, .int hd), (3, .int (σ 5 sr)), (0, .ref (a 0)), (1, .int (nI sr)), (2, .int (nI lr))]) hx hb dX0_listenTo_162 hl (k := 2) rfl (nI_inc _ _) (by decide) rfl (fun ls hl => ?_)
                      refine lv_goto (tgt := 56) hx hb dX0_listenTo_165 (by decide) ?_
                      have hw9 : up2 ((foldN (lis1 lr sr (σ 5 sr) hd ch) k (σ, κ)).1) 16 (6 * lr + k) ((rem99 ((((foldN (lis1 lr sr (σ 5 sr) hd ch) k (σ, κ)).2) 1 (6 * sr + k)))) + (nI 1)) = (foldN (lis1 lr sr (σ 5 sr) hd ch) (k + 1) (σ, κ)).1 := by first | exact (congrArg Prod.fst (lis1_a (by assumption))).symm | exact (congrArg Prod.fst (lis1_b (by assumption))).symm | exact (congrArg Prod.fst (lis1_c (by assumption))).symm | exact (congrArg Prod.fst (lis1_d (by assumption) (by assumption) (by assumption) (by assumption))).symm | exact (congrArg Prod.fst (lis1_e (by assumption) (by assumption) (by assumption) (by assumption) (by assumption))).symm | exact (congrArg Prod.fst (lis1_f (by assumption) (by assumption) (by assumption) (by assumption) (by assumption))).symm
                      have hP : va_P D vwCl (wP cI cZ a n pl nw ns ((foldN (lis1 lr sr (σ 5 sr) hd ch) (k + 1) (σ, κ)).1) (up2 ((foldN (lis1 lr sr (σ 5 sr) hd ch) k (σ, κ)).2) 2 k (σ 5 sr))) G := Eq.mp (congrArg (fun z9 => va_P D vwCl (wP cI cZ a n pl nw ns z9 (up2 ((foldN (lis1 lr sr (σ 5 sr) hd ch) k (σ, κ)).2) 2 k (σ 5 sr))) G) hw9) hP
                      clear hw9
                      have hw9 : up2 ((foldN (lis1 lr sr (σ 5 sr) hd ch) k (σ, κ)).2) 2 k (σ 5 sr) = (foldN (lis1 lr sr (σ 5 sr) hd ch) (k + 1) (σ, κ)).2 := by first | exact (congrArg Prod.snd (lis1_a (by assumption))).symm | exact (congrArg Prod.snd (lis1_b (by assumption))).symm | exact (congrArg Prod.snd (lis1_c (by assumption))).symm | exact (congrArg Prod.snd (lis1_d (by assumption) (by assumption) (by assumption) (by assumption))).symm | exact (congrArg Prod.snd (lis1_e (by assumption) (by assumption) (by assumption) (by assumption) (by assumption))).symm | exact (congrArg Prod.snd (lis1_f (by assumption) (by assumption) (by assumption) (by assumption) (by assumption))).symm
                      have hP : va_P D vwCl (wP cI cZ a n pl nw ns ((foldN (lis1 lr sr (σ 5 sr) hd ch) (k + 1) (σ, κ)).1) ((foldN (lis1 lr sr (σ 5 sr) hd ch) (k + 1) (σ, κ)).2)) G := Eq.mp (congrArg (fun z9 => va_P D vwCl (wP cI cZ a n pl nw ns ((foldN (lis1 lr sr (σ 5 sr) hd ch) (k + 1) (σ, κ)).1) z9) G) hw9) hP
                      clear hw9
                      have hl9 : lv_has ls 9 [(6, .int (nI (k + 1))), (5, .int (zI ch)), (4, .int hd), (3, .int (σ 5 sr)), (0, .ref (a 0)), (1, .int (nI sr)), (2, .int (nI lr))] := lv_sub hl [0, 3, 4, 5, 6, 7, 8] rfl
                      exact ih56 (k + 1) hd ch (by omega) (by omega) (by omega) (by omega) G locs hP hS ls hl9
      have hw9 : σ = (foldN (lis1 lr sr (σ 5 sr) ((σ 5 sr) + (nI 3)) false) 0 (σ, κ)).1 := rfl
      have hP : va_P D vwCl (wP cI cZ a n pl nw ns ((foldN (lis1 lr sr (σ 5 sr) ((σ 5 sr) + (nI 3)) false) 0 (σ, κ)).1) κ) H := Eq.mp (congrArg (fun z9 => va_P D vwCl (wP cI cZ a n pl nw ns z9 κ) H) hw9) hP
      clear hw9
      have hw9 : κ = (foldN (lis1 lr sr (σ 5 sr) ((σ 5 sr) + (nI 3)) false) 0 (σ, κ)).2 := rfl
      have hP : va_P D vwCl (wP cI cZ a n pl nw ns ((foldN (lis1 lr sr (σ 5 sr) ((σ 5 sr) + (nI 3)) false) 0 (σ, κ)).1) ((foldN (lis1 lr sr (σ 5 sr) ((σ 5 sr) + (nI 3)) false) 0 (σ, κ)).2)) H := Eq.mp (congrArg (fun z9 => va_P D vwCl (wP cI cZ a n pl nw ns ((foldN (lis1 lr sr (σ 5 sr) ((σ 5 sr) + (nI 3)) false) 0 (σ, κ)).1) z9) H) hw9) hP
      clear hw9
      have hl9 : lv_has ls 9 [(6, .int (nI 0)), (5, .int (nI 0)), (4, .int ((σ 5 sr) + (nI 3))), (3, .int (σ 5 sr)), (0, .ref (a 0)), (1, .int (nI sr)), (2, .int (nI lr))] := lv_sub hl [0, 1, 2, 3, 4, 5, 6] rfl
      have hl9 : lv_has ls 9 [(6, .int (nI 0)), (5, .int (zI false)), (4, .int ((σ 5 sr) + (nI 3))), (3, .int (σ 5 sr)), (0, .ref (a 0)), (1, .int (nI sr)), (2, .int (nI lr))] := lv_re hl9 1 rfl (show nI 0 = zI false from rfl)
      have hl9 : lv_has ls 9 [(6, .int (nI 0)), (5, .int (zI false)), (4, .int ((σ 5 sr) + (nI 3))), (3, .int (σ 5 sr)), (0, .ref (a 0)), (1, .int (nI sr)), (2, .int (nI lr))] := lv_re hl9 2 rfl (show (σ 5 sr) + (nI 3) = ((σ 5 sr) + (nI 3)) from by simp [c1, c2])
      exact L56_3 ((ns - 0) + 1) 0 ((σ 5 sr) + (nI 3)) false (Nat.lt_succ_self _) (by omega) (by first | exact (hrd_t (by assumption)).symm | exact (hrd_f (by assumption)).symm) (by first | exact (chg_c (by assumption) (by assumption)).symm | exact (chg_a (by assumption)).symm | exact (chg_b (by assumption)).symm) H locs hP hS ls hl9
    · skip
      refine lv_aload_n hx hb dX0_listenTo_37 rfl (lv_at hl 2 rfl) ?_
      refine li_gf0 hx hb hX0 hown hK hP 0 rfl 6 (by decide) f24 rfl dX0_listenTo_38 ?_
      refine lv_iload_n hx hb dX0_listenTo_41 rfl (lv_at hl 3 rfl) ?_
      refine li_zld hx hb hK hP 5 1 rfl rfl (by omega) (by decide) dX0_listenTo_42 ?_
      refine lv_if_eq (tgt := 50) hx hb dX0_listenTo_43 (by decide) (fun c10 => ?_) (fun c10 => ?_)
      · skip
        refine lv_iconst (v := nI 0) hx hb dX0_listenTo_50 rfl ?_
        refine lv_istore (lv' := [(5, .int (nI 0)), (4, .int ((σ 5 sr) + (nI 3))), (3, .int (σ 5 sr)), (0, .ref (a 0)), (1, .int (nI sr)), (2, .int (nI lr))]) hx hb dX0_listenTo_51 hl (by decide) rfl (fun ls hl => ?_)
        refine lv_iconst (v := nI 0) hx hb dX0_listenTo_53 rfl ?_
        refine lv_istore (lv' := [(6, .int (nI 0)), (5, .int (nI 0)), (4, .int ((σ 5 sr) + (nI 3))), (3, .int (σ 5 sr)), (0, .ref (a 0)), (1, .int (nI sr)), (2, .int (nI lr))]) hx hb dX0_listenTo_54 hl (by decide) rfl (fun ls hl => ?_)
        have L56_11 : ∀ (fuel : Nat) (k : Nat) (hd : Int32) (ch : Bool), (ns - k) < fuel → (k ≤ ns) → (hd = hrd σ lr sr) → (ch = chg σ lr sr) → ∀ (G : Heap) (locs : List Loc), va_P D vwCl (wP cI cZ a n pl nw ns ((foldN (lis1 lr sr (σ 5 sr) hd ch) k (σ, κ)).1) ((foldN (lis1 lr sr (σ 5 sr) hd ch) k (σ, κ)).2)) G → va_S A H G locs → ∀ (ls : Array Slot), lv_has ls 9 [(6, .int (nI k)), (5, .int (zI ch)), (4, .int hd), (3, .int (σ 5 sr)), (0, .ref (a 0)), (1, .int (nI sr)), (2, .int (nI lr))] → W p l e ({ frames := 1, cells := 0, slots := 0, locals := 21 } : Room) s m args below meth c G locs 0 0 Q (F0 m 56 ls []) := by
          intro fuel
          induction fuel with
          | zero =>
            intro k hd ch hfuel
            exact absurd hfuel (Nat.not_lt_zero _)
          | succ fuel ih56 =>
            intro k hd ch hfuel56 hk hhd hch G locs hP hS ls hl
            refine lv_iload hx hb dX0_listenTo_56 (lv_at hl 0 rfl) ?_
            refine lv_aload_n hx hb dX0_listenTo_58 rfl (lv_at hl 4 rfl) ?_
            refine li_gf0 hx hb hX0 hown hK hP 0 rfl 0 (by decide) f58 rfl dX0_listenTo_59 ?_
            refine li_gf1 hx hb hX1 hown hK hP 16 rfl 9 (by decide) f97 rfl dX0_listenTo_62 ?_
            refine li_ge (tgt := 168) hx hb dX0_listenTo_65 (by decide) (by omega) (by omega) (fun c12 => ?_) (fun c12 => ?_)
            · skip
              have hw9 : (foldN (lis1 lr sr (σ 5 sr) hd ch) k (σ, κ)).1 = (lisF lr sr ns (σ, κ)).1 := by rw [show k = ns by omega, hhd, hch]; rfl
              have hP : va_P D vwCl (wP cI cZ a n pl nw ns ((lisF lr sr ns (σ, κ)).1) ((foldN (lis1 lr sr (σ 5 sr) hd ch) k (σ, κ)).2)) G := Eq.mp (congrArg (fun z9 => va_P D vwCl (wP cI cZ a n pl nw ns z9 ((foldN (lis1 lr sr (σ 5 sr) hd ch) k (σ, κ)).2)) G) hw9) hP
              clear hw9
              have hw9 : (foldN (lis1 lr sr (σ 5 sr) hd ch) k (σ, κ)).2 = (lisF lr sr ns (σ, κ)).2 := by rw [show k = ns by omega, hhd, hch]; rfl
              have hP : va_P D vwCl (wP cI cZ a n pl nw ns ((lisF lr sr ns (σ, κ)).1) ((lisF lr sr ns (σ, κ)).2)) G := Eq.mp (congrArg (fun z9 => va_P D vwCl (wP cI cZ a n pl nw ns ((lisF lr sr ns (σ, κ)).1) z9) G) hw9) hP
              clear hw9
              exact hEnd 168 ls G locs dX0_listenTo_168 hP hS
            · skip
              refine lv_iload_n hx hb dX0_listenTo_68 rfl (lv_at hl 6 rfl) ?_
              refine lv_iload hx hb dX0_listenTo_69 (lv_at hl 0 rfl) ?_
              refine roSN (As := [.int (nI lr), .int (nI k)]) hx hb hml hown hts (c_X2_cellOf l D cI cZ cL cO a n pl nw ns ((foldN (lis1 lr sr (σ 5 sr) hd ch) k (σ, κ)).1) ((foldN (lis1 lr sr (σ 5 sr) hd ch) k (σ, κ)).2) G lr k (hB)) ⟨va_cnB 2 hts gX0_listenTo_X2_cellOf_n104 rfl rfl rfl hE.1 g4 (by decide +kernel) ⟨by decide, by decide⟩, g5, trivial⟩ hK hE hP rfl hl.1 rfl (Nat.le_of_ble_eq_true rfl) hS dX0_listenTo_71 ⟨Nat.zero_le _, Nat.zero_le _⟩ (fun locs hS => ?_)
              refine lv_istore (lv' := [(7, .int (nI (6 * lr + k))), (6, .int (nI k)), (5, .int (zI ch)), (4, .int hd), (3, .int (σ 5 sr)), (0, .ref (a 0)), (1, .int (nI sr)), (2, .int (nI lr))]) hx hb dX0_listenTo_74 hl (by decide) rfl (fun ls hl => ?_)
              refine lv_aload_n hx hb dX0_listenTo_76 rfl (lv_at hl 5 rfl) ?_
              refine li_gf0 hx hb hX0 hown hK hP 0 rfl 13 (by decide) f46 rfl dX0_listenTo_77 ?_
              refine lv_iload_n hx hb dX0_listenTo_80 rfl (lv_at hl 6 rfl) ?_
              refine lv_iload hx hb dX0_listenTo_81 (lv_at hl 1 rfl) ?_
              refine roSN (As := [.int (nI sr), .int (nI k)]) hx hb hml hown hts (c_X2_cellOf l D cI cZ cL cO a n pl nw ns ((foldN (lis1 lr sr (σ 5 sr) hd ch) k (σ, κ)).1) ((foldN (lis1 lr sr (σ 5 sr) hd ch) k (σ, κ)).2) G sr k (hB)) ⟨va_cnB 2 hts gX0_listenTo_X2_cellOf_n104 rfl rfl rfl hE.1 g4 (by decide +kernel) ⟨by decide, by decide⟩, g5, trivial⟩ hK hE hP rfl hl.1 rfl (Nat.le_of_ble_eq_true rfl) hS dX0_listenTo_83 ⟨Nat.zero_le _, Nat.zero_le _⟩ (fun locs hS => ?_)
              refine li_ild hx hb hK hP 12 0 rfl rfl (by omega) (by decide) dX0_listenTo_86 ?_
              refine lv_istore (lv' := [(8, .int (((foldN (lis1 lr sr (σ 5 sr) hd ch) k (σ, κ)).2) 1 (6 * sr + k))), (7, .int (nI (6 * lr + k))), (6, .int (nI k)), (5, .int (zI ch)), (4, .int hd), (3, .int (σ 5 sr)), (0, .ref (a 0)), (1, .int (nI sr)), (2, .int (nI lr))]) hx hb dX0_listenTo_87 hl (by decide) rfl (fun ls hl => ?_)
              refine lv_aload_n hx hb dX0_listenTo_89 rfl (lv_at hl 6 rfl) ?_
              refine li_gf0 hx hb hX0 hown hK hP 0 rfl 13 (by decide) f46 rfl dX0_listenTo_90 ?_
              refine lv_iload hx hb dX0_listenTo_93 (lv_at hl 1 rfl) ?_
              refine li_ild hx hb hK hP 12 0 rfl rfl (by omega) (by decide) dX0_listenTo_95 ?_
              refine lv_if_ne (tgt := 162) hx hb dX0_listenTo_96 (by decide) (fun c13 => ?_) (fun c13 => ?_)
              · skip
                refine lv_iinc (v := nI (k + 1)) (lv' := [(6, .int (nI (k + 1))), (8, .int (((foldN (lis1 lr sr (σ 5 sr) hd ch) k (σ, κ)).2) 1 (6 * sr + k))), (7, .int (nI (6 * lr + k))), (5, .int (zI ch)), (4, .int hd), (3, .int (σ 5 sr)), (0, .ref (a 0)), (1, .int (nI sr)), (2, .int (nI lr))]) hx hb dX0_listenTo_162 hl (k := 2) rfl (nI_inc _ _) (by decide) rfl (fun ls hl => ?_)
                refine lv_goto (tgt := 56) hx hb dX0_listenTo_165 (by decide) ?_
                have hw9 : (foldN (lis1 lr sr (σ 5 sr) hd ch) k (σ, κ)).1 = (foldN (lis1 lr sr (σ 5 sr) hd ch) (k + 1) (σ, κ)).1 := by first | exact (congrArg Prod.fst (lis1_a (by assumption))).symm | exact (congrArg Prod.fst (lis1_b (by assumption))).symm | exact (congrArg Prod.fst (lis1_c (by assumption))).symm | exact (congrArg Prod.fst (lis1_d (by assumption) (by assumption) (by assumption) (by assumption))).symm | exact (congrArg Prod.fst (lis1_e (by assumption) (by assumption) (by assumption) (by assumption) (by assumption))).symm | exact (congrArg Prod.fst (lis1_f (by assumption) (by assumption) (by assumption) (by assumption) (by assumption))).symm
                have hP : va_P D vwCl (wP cI cZ a n pl nw ns ((foldN (lis1 lr sr (σ 5 sr) hd ch) (k + 1) (σ, κ)).1) ((foldN (lis1 lr sr (σ 5 sr) hd ch) k (σ, κ)).2)) G := Eq.mp (congrArg (fun z9 => va_P D vwCl (wP cI cZ a n pl nw ns z9 ((foldN (lis1 lr sr (σ 5 sr) hd ch) k (σ, κ)).2)) G) hw9) hP
                clear hw9
                have hw9 : (foldN (lis1 lr sr (σ 5 sr) hd ch) k (σ, κ)).2 = (foldN (lis1 lr sr (σ 5 sr) hd ch) (k + 1) (σ, κ)).2 := by first | exact (congrArg Prod.snd (lis1_a (by assumption))).symm | exact (congrArg Prod.snd (lis1_b (by assumption))).symm | exact (congrArg Prod.snd (lis1_c (by assumption))).symm | exact (congrArg Prod.snd (lis1_d (by assumption) (by assumption) (by assumption) (by assumption))).symm | exact (congrArg Prod.snd (lis1_e (by assumption) (by assumption) (by assumption) (by assumption) (by assumption))).symm | exact (congrArg Prod.snd (lis1_f (by assumption) (by assumption) (by assumption) (by assumption) (by assumption))).symm
                have hP : va_P D vwCl (wP cI cZ a n pl nw ns ((foldN (lis1 lr sr (σ 5 sr) hd ch) (k + 1) (σ, κ)).1) ((foldN (lis1 lr sr (σ 5 sr) hd ch) (k + 1) (σ, κ)).2)) G := Eq.mp (congrArg (fun z9 => va_P D vwCl (wP cI cZ a n pl nw ns ((foldN (lis1 lr sr (σ 5 sr) hd ch) (k + 1) (σ, κ)).1) z9) G) hw9) hP
                clear hw9
                have hl9 : lv_has ls 9 [(6, .int (nI (k + 1))), (5, .int (zI ch)), (4, .int hd), (3, .int (σ 5 sr)), (0, .ref (a 0)), (1, .int (nI sr)), (2, .int (nI lr))] := lv_sub hl [0, 3, 4, 5, 6, 7, 8] rfl
                exact ih56 (k + 1) hd ch (by omega) (by omega) (by omega) (by omega) G locs hP hS ls hl9
              · skip
                refine lv_iload hx hb dX0_listenTo_99 (lv_at hl 0 rfl) ?_
                refine lv_if_eq (tgt := 162) hx hb dX0_listenTo_101 (by decide) (fun c14 => ?_) (fun c14 => ?_)
                · skip
                  refine lv_iinc (v := nI (k + 1)) (lv' := [(6, .int (nI (k + 1))), (8, .int (((foldN (lis1 lr sr (σ 5 sr) hd ch) k (σ, κ)).2) 1 (6 * sr + k))), (7, .int (nI (6 * lr + k))), (5, .int (zI ch)), (4, .int hd), (3, .int (σ 5 sr)), (0, .ref (a 0)), (1, .int (nI sr)), (2, .int (nI lr))]) hx hb dX0_listenTo_162 hl (k := 2) rfl (nI_inc _ _) (by decide) rfl (fun ls hl => ?_)
                  refine lv_goto (tgt := 56) hx hb dX0_listenTo_165 (by decide) ?_
                  have hw9 : (foldN (lis1 lr sr (σ 5 sr) hd ch) k (σ, κ)).1 = (foldN (lis1 lr sr (σ 5 sr) hd ch) (k + 1) (σ, κ)).1 := by first | exact (congrArg Prod.fst (lis1_a (by assumption))).symm | exact (congrArg Prod.fst (lis1_b (by assumption))).symm | exact (congrArg Prod.fst (lis1_c (by assumption))).symm | exact (congrArg Prod.fst (lis1_d (by assumption) (by assumption) (by assumption) (by assumption))).symm | exact (congrArg Prod.fst (lis1_e (by assumption) (by assumption) (by assumption) (by assumption) (by assumption))).symm | exact (congrArg Prod.fst (lis1_f (by assumption) (by assumption) (by assumption) (by assumption) (by assumption))).symm
                  have hP : va_P D vwCl (wP cI cZ a n pl nw ns ((foldN (lis1 lr sr (σ 5 sr) hd ch) (k + 1) (σ, κ)).1) ((foldN (lis1 lr sr (σ 5 sr) hd ch) k (σ, κ)).2)) G := Eq.mp (congrArg (fun z9 => va_P D vwCl (wP cI cZ a n pl nw ns z9 ((foldN (lis1 lr sr (σ 5 sr) hd ch) k (σ, κ)).2)) G) hw9) hP
                  clear hw9
                  have hw9 : (foldN (lis1 lr sr (σ 5 sr) hd ch) k (σ, κ)).2 = (foldN (lis1 lr sr (σ 5 sr) hd ch) (k + 1) (σ, κ)).2 := by first | exact (congrArg Prod.snd (lis1_a (by assumption))).symm | exact (congrArg Prod.snd (lis1_b (by assumption))).symm | exact (congrArg Prod.snd (lis1_c (by assumption))).symm | exact (congrArg Prod.snd (lis1_d (by assumption) (by assumption) (by assumption) (by assumption))).symm | exact (congrArg Prod.snd (lis1_e (by assumption) (by assumption) (by assumption) (by assumption) (by assumption))).symm | exact (congrArg Prod.snd (lis1_f (by assumption) (by assumption) (by assumption) (by assumption) (by assumption))).symm
                  have hP : va_P D vwCl (wP cI cZ a n pl nw ns ((foldN (lis1 lr sr (σ 5 sr) hd ch) (k + 1) (σ, κ)).1) ((foldN (lis1 lr sr (σ 5 sr) hd ch) (k + 1) (σ, κ)).2)) G := Eq.mp (congrArg (fun z9 => va_P D vwCl (wP cI cZ a n pl nw ns ((foldN (lis1 lr sr (σ 5 sr) hd ch) (k + 1) (σ, κ)).1) z9) G) hw9) hP
                  clear hw9
                  have hl9 : lv_has ls 9 [(6, .int (nI (k + 1))), (5, .int (zI ch)), (4, .int hd), (3, .int (σ 5 sr)), (0, .ref (a 0)), (1, .int (nI sr)), (2, .int (nI lr))] := lv_sub hl [0, 3, 4, 5, 6, 7, 8] rfl
                  exact ih56 (k + 1) hd ch (by omega) (by omega) (by omega) (by omega) G locs hP hS ls hl9
                · skip
                  refine lv_iload_n hx hb dX0_listenTo_104 rfl (lv_at hl 5 rfl) ?_
                  refine lv_aload_n hx hb dX0_listenTo_105 rfl (lv_at hl 6 rfl) ?_
                  refine li_gf0 hx hb hX0 hown hK hP 0 rfl 14 (by decide) f49 rfl dX0_listenTo_106 ?_
                  refine lv_iload hx hb dX0_listenTo_109 (lv_at hl 2 rfl) ?_
                  refine li_ild hx hb hK hP 13 0 rfl rfl (by omega) (by decide) dX0_listenTo_111 ?_
                  refine lv_icmp_le (tgt := 162) hx hb dX0_listenTo_112 (by decide) (fun c15 => ?_) (fun c15 => ?_)
                  · skip
                    refine lv_iinc (v := nI (k + 1)) (lv' := [(6, .int (nI (k + 1))), (8, .int (((foldN (lis1 lr sr (σ 5 sr) hd ch) k (σ, κ)).2) 1 (6 * sr + k))), (7, .int (nI (6 * lr + k))), (5, .int (zI ch)), (4, .int hd), (3, .int (σ 5 sr)), (0, .ref (a 0)), (1, .int (nI sr)), (2, .int (nI lr))]) hx hb dX0_listenTo_162 hl (k := 2) rfl (nI_inc _ _) (by decide) rfl (fun ls hl => ?_)
                    refine lv_goto (tgt := 56) hx hb dX0_listenTo_165 (by decide) ?_
                    have hw9 : (foldN (lis1 lr sr (σ 5 sr) hd ch) k (σ, κ)).1 = (foldN (lis1 lr sr (σ 5 sr) hd ch) (k + 1) (σ, κ)).1 := by first | exact (congrArg Prod.fst (lis1_a (by assumption))).symm | exact (congrArg Prod.fst (lis1_b (by assumption))).symm | exact (congrArg Prod.fst (lis1_c (by assumption))).symm | exact (congrArg Prod.fst (lis1_d (by assumption) (by assumption) (by assumption) (by assumption))).symm | exact (congrArg Prod.fst (lis1_e (by assumption) (by assumption) (by assumption) (by assumption) (by assumption))).symm | exact (congrArg Prod.fst (lis1_f (by assumption) (by assumption) (by assumption) (by assumption) (by assumption))).symm
                    have hP : va_P D vwCl (wP cI cZ a n pl nw ns ((foldN (lis1 lr sr (σ 5 sr) hd ch) (k + 1) (σ, κ)).1) ((foldN (lis1 lr sr (σ 5 sr) hd ch) k (σ, κ)).2)) G := Eq.mp (congrArg (fun z9 => va_P D vwCl (wP cI cZ a n pl nw ns z9 ((foldN (lis1 lr sr (σ 5 sr) hd ch) k (σ, κ)).2)) G) hw9) hP
                    clear hw9
                    have hw9 : (foldN (lis1 lr sr (σ 5 sr) hd ch) k (σ, κ)).2 = (foldN (lis1 lr sr (σ 5 sr) hd ch) (k + 1) (σ, κ)).2 := by first | exact (congrArg Prod.snd (lis1_a (by assumption))).symm | exact (congrArg Prod.snd (lis1_b (by assumption))).symm | exact (congrArg Prod.snd (lis1_c (by assumption))).symm | exact (congrArg Prod.snd (lis1_d (by assumption) (by assumption) (by assumption) (by assumption))).symm | exact (congrArg Prod.snd (lis1_e (by assumption) (by assumption) (by assumption) (by assumption) (by assumption))).symm | exact (congrArg Prod.snd (lis1_f (by assumption) (by assumption) (by assumption) (by assumption) (by assumption))).symm
                    have hP : va_P D vwCl (wP cI cZ a n pl nw ns ((foldN (lis1 lr sr (σ 5 sr) hd ch) (k + 1) (σ, κ)).1) ((foldN (lis1 lr sr (σ 5 sr) hd ch) (k + 1) (σ, κ)).2)) G := Eq.mp (congrArg (fun z9 => va_P D vwCl (wP cI cZ a n pl nw ns ((foldN (lis1 lr sr (σ 5 sr) hd ch) (k + 1) (σ, κ)).1) z9) G) hw9) hP
                    clear hw9
                    have hl9 : lv_has ls 9 [(6, .int (nI (k + 1))), (5, .int (zI ch)), (4, .int hd), (3, .int (σ 5 sr)), (0, .ref (a 0)), (1, .int (nI sr)), (2, .int (nI lr))] := lv_sub hl [0, 3, 4, 5, 6, 7, 8] rfl
                    exact ih56 (k + 1) hd ch (by omega) (by omega) (by omega) (by omega) G locs hP hS ls hl9
                  · skip
                    refine lv_aload_n hx hb dX0_listenTo_115 rfl (lv_at hl 6 rfl) ?_
                    refine li_gf0 hx hb hX0 hown hK hP 0 rfl 14 (by decide) f49 rfl dX0_listenTo_116 ?_
                    refine lv_iload hx hb dX0_listenTo_119 (lv_at hl 2 rfl) ?_
                    refine lv_iload_n hx hb dX0_listenTo_121 rfl (lv_at hl 5 rfl) ?_
                    refine li_ist hx hb hK hP hA.D hS 13 0 rfl rfl (by omega) (by decide) stK_2 dX0_listenTo_122 (fun G locs hP hS => ?_)
                    refine lv_iload hx hb dX0_listenTo_123 (lv_at hl 4 rfl) ?_
                    refine lv_aload_n hx hb dX0_listenTo_125 rfl (lv_at hl 6 rfl) ?_
                    refine li_gf0 hx hb hX0 hown hK hP 0 rfl 0 (by decide) f58 rfl dX0_listenTo_126 ?_
                    refine li_gf1 hx hb hX1 hown hK hP 16 rfl 10 (by decide) f175 rfl dX0_listenTo_129 ?_
                    refine lv_iload hx hb dX0_listenTo_132 (lv_at hl 2 rfl) ?_
                    refine li_ild hx hb hK hP 23 0 rfl rfl (by omega) (by decide) dX0_listenTo_134 ?_
                    refine lv_icmp_lt (tgt := 162) hx hb dX0_listenTo_135 (by decide) (fun c16 => ?_) (fun c16 => ?_)
                    · skip
                      refine lv_iinc (v := nI (k + 1)) (lv' := [(6, .int (nI (k + 1))), (8, .int (((foldN (lis1 lr sr (σ 5 sr) hd ch) k (σ, κ)).2) 1 (6 * sr + k))), (7, .int (nI (6 * lr + k))), (5, .int (zI ch)), (4, .int hd), (3, .int (σ 5 sr)), (0, .ref (a 0)), (1, .int (nI sr)), (2, .int (nI lr))]) hx hb dX0_listenTo_162 hl (k := 2) rfl (nI_inc _ _) (by decide) rfl (fun ls hl => ?_)
                      refine lv_goto (tgt := 56) hx hb dX0_listenTo_165 (by decide) ?_
                      have hw9 : (foldN (lis1 lr sr (σ 5 sr) hd ch) k (σ, κ)).1 = (foldN (lis1 lr sr (σ 5 sr) hd ch) (k + 1) (σ, κ)).1 := by first | exact (congrArg Prod.fst (lis1_a (by assumption))).symm | exact (congrArg Prod.fst (lis1_b (by assumption))).symm | exact (congrArg Prod.fst (lis1_c (by assumption))).symm | exact (congrArg Prod.fst (lis1_d (by assumption) (by assumption) (by assumption) (by assumption))).symm | exact (congrArg Prod.fst (lis1_e (by assumption) (by assumption) (by assumption) (by assumption) (by assumption))).symm | exact (congrArg Prod.fst (lis1_f (by assumption) (by assumption) (by assumption) (by assumption) (by assumption))).symm
                      have hP : va_P D vwCl (wP cI cZ a n pl nw ns ((foldN (lis1 lr sr (σ 5 sr) hd ch) (k + 1) (σ, κ)).1) (up2 ((foldN (lis1 lr sr (σ 5 sr) hd ch) k (σ, κ)).2) 2 k (σ 5 sr))) G := Eq.mp (congrArg (fun z9 => va_P D vwCl (wP cI cZ a n pl nw ns z9 (up2 ((foldN (lis1 lr sr (σ 5 sr) hd ch) k (σ, κ)).2) 2 k (σ 5 sr))) G) hw9) hP
                      clear hw9
                      have hw9 : up2 ((foldN (lis1 lr sr (σ 5 sr) hd ch) k (σ, κ)).2) 2 k (σ 5 sr) = (foldN (lis1 lr sr (σ 5 sr) hd ch) (k + 1) (σ, κ)).2 := by first | exact (congrArg Prod.snd (lis1_a (by assumption))).symm | exact (congrArg Prod.snd (lis1_b (by assumption))).symm | exact (congrArg Prod.snd (lis1_c (by assumption))).symm | exact (congrArg Prod.snd (lis1_d (by assumption) (by assumption) (by assumption) (by assumption))).symm | exact (congrArg Prod.snd (lis1_e (by assumption) (by assumption) (by assumption) (by assumption) (by assumption))).symm | exact (congrArg Prod.snd (lis1_f (by assumption) (by assumption) (by assumption) (by assumption) (by assumption))).symm
                      have hP : va_P D vwCl (wP cI cZ a n pl nw ns ((foldN (lis1 lr sr (σ 5 sr) hd ch) (k + 1) (σ, κ)).1) ((foldN (lis1 lr sr (σ 5 sr) hd ch) (k + 1) (σ, κ)).2)) G := Eq.mp (congrArg (fun z9 => va_P D vwCl (wP cI cZ a n pl nw ns ((foldN (lis1 lr sr (σ 5 sr) hd ch) (k + 1) (σ, κ)).1) z9) G) hw9) hP
                      clear hw9
                      have hl9 : lv_has ls 9 [(6, .int (nI (k + 1))), (5, .int (zI ch)), (4, .int hd), (3, .int (σ 5 sr)), (0, .ref (a 0)), (1, .int (nI sr)), (2, .int (nI lr))] := lv_sub hl [0, 3, 4, 5, 6, 7, 8] rfl
                      exact ih56 (k + 1) hd ch (by omega) (by omega) (by omega) (by omega) G locs hP hS ls hl9
                    · skip
                      refine lv_aload_n hx hb dX0_listenTo_138 rfl (lv_at hl 6 rfl) ?_
                      refine li_gf0 hx hb hX0 hown hK hP 0 rfl 11 (by decide) f40 rfl dX0_listenTo_139 ?_
                      refine lv_iload hx hb dX0_listenTo_142 (lv_at hl 1 rfl) ?_
                      refine lv_iload hx hb dX0_listenTo_144 (lv_at hl 3 rfl) ?_
                      refine li_zeq (tgt := 159) hx hb dX0_listenTo_146 (by decide) (fun c17 => ?_) (fun c17 => ?_)
                      · skip
                        refine lv_iload hx hb dX0_listenTo_159 (lv_at hl 0 rfl) ?_
                        refine li_ist hx hb hK hP hA.D hS 10 0 rfl rfl (by omega) (by decide) stP_16 dX0_listenTo_161 (fun G locs hP hS => ?_)
                        refine lv_iinc (v := nI (k + 1)) (lv' := [(6, .int (nI (k + 1))), (8, .int (((foldN (lis1 lr sr (σ 5 sr) hd ch) k (σ, κ)).2) 1 (6 * sr + k))), (7, .int (nI (6 * lr + k))), (5, .int (zI ch)), (4, .int hd), (3, .int (σ 5 sr)), (0, .ref (a 0)), (1, .int (nI sr)), (2, .int (nI lr))]) hx hb dX0_listenTo_162 hl (k := 2) rfl (nI_inc _ _) (by decide) rfl (fun ls hl => ?_)
                        refine lv_goto (tgt := 56) hx hb dX0_listenTo_165 (by decide) ?_
                        have hw9 : up2 ((foldN (lis1 lr sr (σ 5 sr) hd ch) k (σ, κ)).1) 16 (6 * lr + k) (((foldN (lis1 lr sr (σ 5 sr) hd ch) k (σ, κ)).2) 1 (6 * sr + k)) = (foldN (lis1 lr sr (σ 5 sr) hd ch) (k + 1) (σ, κ)).1 := by first | exact (congrArg Prod.fst (lis1_a (by assumption))).symm | exact (congrArg Prod.fst (lis1_b (by assumption))).symm | exact (congrArg Prod.fst (lis1_c (by assumption))).symm | exact (congrArg Prod.fst (lis1_d (by assumption) (by assumption) (by assumption) (by assumption))).symm | exact (congrArg Prod.fst (lis1_e (by assumption) (by assumption) (by assumption) (by assumption) (by assumption))).symm | exact (congrArg Prod.fst (lis1_f (by assumption) (by assumption) (by assumption) (by assumption) (by assumption))).symm
                        have hP : va_P D vwCl (wP cI cZ a n pl nw ns ((foldN (lis1 lr sr (σ 5 sr) hd ch) (k + 1) (σ, κ)).1) (up2 ((foldN (lis1 lr sr (σ 5 sr) hd ch) k (σ, κ)).2) 2 k (σ 5 sr))) G := Eq.mp (congrArg (fun z9 => va_P D vwCl (wP cI cZ a n pl nw ns z9 (up2 ((foldN (lis1 lr sr (σ 5 sr) hd ch) k (σ, κ)).2) 2 k (σ 5 sr))) G) hw9) hP
                        clear hw9
                        have hw9 : up2 ((foldN (lis1 lr sr (σ 5 sr) hd ch) k (σ, κ)).2) 2 k (σ 5 sr) = (foldN (lis1 lr sr (σ 5 sr) hd ch) (k + 1) (σ, κ)).2 := by first | exact (congrArg Prod.snd (lis1_a (by assumption))).symm | exact (congrArg Prod.snd (lis1_b (by assumption))).symm | exact (congrArg Prod.snd (lis1_c (by assumption))).symm | exact (congrArg Prod.snd (lis1_d (by assumption) (by assumption) (by assumption) (by assumption))).symm | exact (congrArg Prod.snd (lis1_e (by assumption) (by assumption) (by assumption) (by assumption) (by assumption))).symm | exact (congrArg Prod.snd (lis1_f (by assumption) (by assumption) (by assumption) (by assumption) (by assumption))).symm
                        have hP : va_P D vwCl (wP cI cZ a n pl nw ns ((foldN (lis1 lr sr (σ 5 sr) hd ch) (k + 1) (σ, κ)).1) ((foldN (lis1 lr sr (σ 5 sr) hd ch) (k + 1) (σ, κ)).2)) G := Eq.mp (congrArg (fun z9 => va_P D vwCl (wP cI cZ a n pl nw ns ((foldN (lis1 lr sr (σ 5 sr) hd ch) (k + 1) (σ, κ)).1) z9) G) hw9) hP
                        clear hw9
                        have hl9 : lv_has ls 9 [(6, .int (nI (k + 1))), (5, .int (zI ch)), (4, .int hd), (3, .int (σ 5 sr)), (0, .ref (a 0)), (1, .int (nI sr)), (2, .int (nI lr))] := lv_sub hl [0, 3, 4, 5, 6, 7, 8] rfl
                        exact ih56 (k + 1) hd ch (by omega) (by omega) (by omega) (by omega) G locs hP hS ls hl9
                      · skip
                        refine lv_iload hx hb dX0_listenTo_149 (lv_at hl 0 rfl) ?_
                        refine lv_bipush (v := nI 99) hx hb dX0_listenTo_151 rfl ?_
                        refine lv_irem hx hb dX0_listenTo_153 (by decide) ?_
                        refine li_topi (show (((foldN (lis1 lr sr (σ 5 sr) hd ch) k (σ, κ)).2) 1 (6 * sr + k)) - (((foldN (lis1 lr sr (σ 5 sr) hd ch) k (σ, κ)).2) 1 (6 * sr + k)) / (nI 99) * (nI 99) = rem99 ((((foldN (lis1 lr sr (σ 5 sr) hd ch) k (σ, κ)).2) 1 (6 * sr + k))) from rfl) ?_
                        refine lv_iconst (v := nI 1) hx hb dX0_listenTo_154 rfl ?_
                        refine lv_iadd hx hb dX0_listenTo_155 ?_
                        refine lv_goto (tgt := 161) hx hb dX0_listenTo_156 (by decide) ?_
                        refine li_ist hx hb hK hP hA.D hS 10 0 rfl rfl (by omega) (by decide) stP_16 dX0_listenTo_161 (fun G locs hP hS => ?_)
                        refine lv_iinc (v := nI (k + 1)) (lv' := [(6, .int (nI (k + 1))), (8, .int (((foldN (lis1 lr sr (σ 5 sr) hd ch) k (σ, κ)).2) 1 (6 * sr + k))), (7, .int (nI (6 * lr + k))), (5, .int (zI ch)), (4, .int hd), (3, .int (σ 5 sr)), (0, .ref (a 0)), (1, .int (nI sr)), (2, .int (nI lr))]) hx hb dX0_listenTo_162 hl (k := 2) rfl (nI_inc _ _) (by decide) rfl (fun ls hl => ?_)
                        refine lv_goto (tgt := 56) hx hb dX0_listenTo_165 (by decide) ?_
                        have hw9 : up2 ((foldN (lis1 lr sr (σ 5 sr) hd ch) k (σ, κ)).1) 16 (6 * lr + k) ((rem99 ((((foldN (lis1 lr sr (σ 5 sr) hd ch) k (σ, κ)).2) 1 (6 * sr + k)))) + (nI 1)) = (foldN (lis1 lr sr (σ 5 sr) hd ch) (k + 1) (σ, κ)).1 := by first | exact (congrArg Prod.fst (lis1_a (by assumption))).symm | exact (congrArg Prod.fst (lis1_b (by assumption))).symm | exact (congrArg Prod.fst (lis1_c (by assumption))).symm | exact (congrArg Prod.fst (lis1_d (by assumption) (by assumption) (by assumption) (by assumption))).symm | exact (congrArg Prod.fst (lis1_e (by assumption) (by assumption) (by assumption) (by assumption) (by assumption))).symm | exact (congrArg Prod.fst (lis1_f (by assumption) (by assumption) (by assumption) (by assumption) (by assumption))).symm
                        have hP : va_P D vwCl (wP cI cZ a n pl nw ns ((foldN (lis1 lr sr (σ 5 sr) hd ch) (k + 1) (σ, κ)).1) (up2 ((foldN (lis1 lr sr (σ 5 sr) hd ch) k (σ, κ)).2) 2 k (σ 5 sr))) G := Eq.mp (congrArg (fun z9 => va_P D vwCl (wP cI cZ a n pl nw ns z9 (up2 ((foldN (lis1 lr sr (σ 5 sr) hd ch) k (σ, κ)).2) 2 k (σ 5 sr))) G) hw9) hP
                        clear hw9
                        have hw9 : up2 ((foldN (lis1 lr sr (σ 5 sr) hd ch) k (σ, κ)).2) 2 k (σ 5 sr) = (foldN (lis1 lr sr (σ 5 sr) hd ch) (k + 1) (σ, κ)).2 := by first | exact (congrArg Prod.snd (lis1_a (by assumption))).symm | exact (congrArg Prod.snd (lis1_b (by assumption))).symm | exact (congrArg Prod.snd (lis1_c (by assumption))).symm | exact (congrArg Prod.snd (lis1_d (by assumption) (by assumption) (by assumption) (by assumption))).symm | exact (congrArg Prod.snd (lis1_e (by assumption) (by assumption) (by assumption) (by assumption) (by assumption))).symm | exact (congrArg Prod.snd (lis1_f (by assumption) (by assumption) (by assumption) (by assumption) (by assumption))).symm
                        have hP : va_P D vwCl (wP cI cZ a n pl nw ns ((foldN (lis1 lr sr (σ 5 sr) hd ch) (k + 1) (σ, κ)).1) ((foldN (lis1 lr sr (σ 5 sr) hd ch) (k + 1) (σ, κ)).2)) G := Eq.mp (congrArg (fun z9 => va_P D vwCl (wP cI cZ a n pl nw ns ((foldN (lis1 lr sr (σ 5 sr) hd ch) (k + 1) (σ, κ)).1) z9) G) hw9) hP
                        clear hw9
                        have hl9 : lv_has ls 9 [(6, .int (nI (k + 1))), (5, .int (zI ch)), (4, .int hd), (3, .int (σ 5 sr)), (0, .ref (a 0)), (1, .int (nI sr)), (2, .int (nI lr))] := lv_sub hl [0, 3, 4, 5, 6, 7, 8] rfl
                        exact ih56 (k + 1) hd ch (by omega) (by omega) (by omega) (by omega) G locs hP hS ls hl9
        have hw9 : σ = (foldN (lis1 lr sr (σ 5 sr) ((σ 5 sr) + (nI 3)) false) 0 (σ, κ)).1 := rfl
        have hP : va_P D vwCl (wP cI cZ a n pl nw ns ((foldN (lis1 lr sr (σ 5 sr) ((σ 5 sr) + (nI 3)) false) 0 (σ, κ)).1) κ) H := Eq.mp (congrArg (fun z9 => va_P D vwCl (wP cI cZ a n pl nw ns z9 κ) H) hw9) hP
        clear hw9
        have hw9 : κ = (foldN (lis1 lr sr (σ 5 sr) ((σ 5 sr) + (nI 3)) false) 0 (σ, κ)).2 := rfl
        have hP : va_P D vwCl (wP cI cZ a n pl nw ns ((foldN (lis1 lr sr (σ 5 sr) ((σ 5 sr) + (nI 3)) false) 0 (σ, κ)).1) ((foldN (lis1 lr sr (σ 5 sr) ((σ 5 sr) + (nI 3)) false) 0 (σ, κ)).2)) H := Eq.mp (congrArg (fun z9 => va_P D vwCl (wP cI cZ a n pl nw ns ((foldN (lis1 lr sr (σ 5 sr) ((σ 5 sr) + (nI 3)) false) 0 (σ, κ)).1) z9) H) hw9) hP
        clear hw9
        have hl9 : lv_has ls 9 [(6, .int (nI 0)), (5, .int (nI 0)), (4, .int ((σ 5 sr) + (nI 3))), (3, .int (σ 5 sr)), (0, .ref (a 0)), (1, .int (nI sr)), (2, .int (nI lr))] := lv_sub hl [0, 1, 2, 3, 4, 5, 6] rfl
        have hl9 : lv_has ls 9 [(6, .int (nI 0)), (5, .int (zI false)), (4, .int ((σ 5 sr) + (nI 3))), (3, .int (σ 5 sr)), (0, .ref (a 0)), (1, .int (nI sr)), (2, .int (nI lr))] := lv_re hl9 1 rfl (show nI 0 = zI false from rfl)
        have hl9 : lv_has ls 9 [(6, .int (nI 0)), (5, .int (zI false)), (4, .int ((σ 5 sr) + (nI 3))), (3, .int (σ 5 sr)), (0, .ref (a 0)), (1, .int (nI sr)), (2, .int (nI lr))] := lv_re hl9 2 rfl (show (σ 5 sr) + (nI 3) = ((σ 5 sr) + (nI 3)) from by simp [c1, c2, c10])
        exact L56_11 ((ns - 0) + 1) 0 ((σ 5 sr) + (nI 3)) false (Nat.lt_succ_self _) (by omega) (by first | exact (hrd_t (by assumption)).symm | exact (hrd_f (by assumption)).symm) (by first | exact (chg_c (by assumption) (by assumption)).symm | exact (chg_a (by assumption)).symm | exact (chg_b (by assumption)).symm) H locs hP hS ls hl9
      · skip
        refine lv_iconst (v := nI 1) hx hb dX0_listenTo_46 rfl ?_
        refine lv_goto (tgt := 51) hx hb dX0_listenTo_47 (by decide) ?_
        refine lv_istore (lv' := [(5, .int (nI 1)), (4, .int ((σ 5 sr) + (nI 3))), (3, .int (σ 5 sr)), (0, .ref (a 0)), (1, .int (nI sr)), (2, .int (nI lr))]) hx hb dX0_listenTo_51 hl (by decide) rfl (fun ls hl => ?_)
        refine lv_iconst (v := nI 0) hx hb dX0_listenTo_53 rfl ?_
        refine lv_istore (lv' := [(6, .int (nI 0)), (5, .int (nI 1)), (4, .int ((σ 5 sr) + (nI 3))), (3, .int (σ 5 sr)), (0, .ref (a 0)), (1, .int (nI sr)), (2, .int (nI lr))]) hx hb dX0_listenTo_54 hl (by decide) rfl (fun ls hl => ?_)
        have L56_18 : ∀ (fuel : Nat) (k : Nat) (hd : Int32) (ch : Bool), (ns - k) < fuel → (k ≤ ns) → (hd = hrd σ lr sr) → (ch = chg σ lr sr) → ∀ (G : Heap) (locs : List Loc), va_P D vwCl (wP cI cZ a n pl nw ns ((foldN (lis1 lr sr (σ 5 sr) hd ch) k (σ, κ)).1) ((foldN (lis1 lr sr (σ 5 sr) hd ch) k (σ, κ)).2)) G → va_S A H G locs → ∀ (ls : Array Slot), lv_has ls 9 [(6, .int (nI k)), (5, .int (zI ch)), (4, .int hd), (3, .int (σ 5 sr)), (0, .ref (a 0)), (1, .int (nI sr)), (2, .int (nI lr))] → W p l e ({ frames := 1, cells := 0, slots := 0, locals := 21 } : Room) s m args below meth c G locs 0 0 Q (F0 m 56 ls []) := by
          intro fuel
          induction fuel with
          | zero =>
            intro k hd ch hfuel
            exact absurd hfuel (Nat.not_lt_zero _)
          | succ fuel ih56 =>
            intro k hd ch hfuel56 hk hhd hch G locs hP hS ls hl
            refine lv_iload hx hb dX0_listenTo_56 (lv_at hl 0 rfl) ?_
            refine lv_aload_n hx hb dX0_listenTo_58 rfl (lv_at hl 4 rfl) ?_
            refine li_gf0 hx hb hX0 hown hK hP 0 rfl 0 (by decide) f58 rfl dX0_listenTo_59 ?_
            refine li_gf1 hx hb hX1 hown hK hP 16 rfl 9 (by decide) f97 rfl dX0_listenTo_62 ?_
            refine li_ge (tgt := 168) hx hb dX0_listenTo_65 (by decide) (by omega) (by omega) (fun c19 => ?_) (fun c19 => ?_)
            · skip
              have hw9 : (foldN (lis1 lr sr (σ 5 sr) hd ch) k (σ, κ)).1 = (lisF lr sr ns (σ, κ)).1 := by rw [show k = ns by omega, hhd, hch]; rfl
              have hP : va_P D vwCl (wP cI cZ a n pl nw ns ((lisF lr sr ns (σ, κ)).1) ((foldN (lis1 lr sr (σ 5 sr) hd ch) k (σ, κ)).2)) G := Eq.mp (congrArg (fun z9 => va_P D vwCl (wP cI cZ a n pl nw ns z9 ((foldN (lis1 lr sr (σ 5 sr) hd ch) k (σ, κ)).2)) G) hw9) hP
              clear hw9
              have hw9 : (foldN (lis1 lr sr (σ 5 sr) hd ch) k (σ, κ)).2 = (lisF lr sr ns (σ, κ)).2 := by rw [show k = ns by omega, hhd, hch]; rfl
              have hP : va_P D vwCl (wP cI cZ a n pl nw ns ((lisF lr sr ns (σ, κ)).1) ((lisF lr sr ns (σ, κ)).2)) G := Eq.mp (congrArg (fun z9 => va_P D vwCl (wP cI cZ a n pl nw ns ((lisF lr sr ns (σ, κ)).1) z9) G) hw9) hP
              clear hw9
              exact hEnd 168 ls G locs dX0_listenTo_168 hP hS
            · skip
              refine lv_iload_n hx hb dX0_listenTo_68 rfl (lv_at hl 6 rfl) ?_
              refine lv_iload hx hb dX0_listenTo_69 (lv_at hl 0 rfl) ?_
              refine roSN (As := [.int (nI lr), .int (nI k)]) hx hb hml hown hts (c_X2_cellOf l D cI cZ cL cO a n pl nw ns ((foldN (lis1 lr sr (σ 5 sr) hd ch) k (σ, κ)).1) ((foldN (lis1 lr sr (σ 5 sr) hd ch) k (σ, κ)).2) G lr k (hB)) ⟨va_cnB 2 hts gX0_listenTo_X2_cellOf_n104 rfl rfl rfl hE.1 g4 (by decide +kernel) ⟨by decide, by decide⟩, g5, trivial⟩ hK hE hP rfl hl.1 rfl (Nat.le_of_ble_eq_true rfl) hS dX0_listenTo_71 ⟨Nat.zero_le _, Nat.zero_le _⟩ (fun locs hS => ?_)
              refine lv_istore (lv' := [(7, .int (nI (6 * lr + k))), (6, .int (nI k)), (5, .int (zI ch)), (4, .int hd), (3, .int (σ 5 sr)), (0, .ref (a 0)), (1, .int (nI sr)), (2, .int (nI lr))]) hx hb dX0_listenTo_74 hl (by decide) rfl (fun ls hl => ?_)
              refine lv_aload_n hx hb dX0_listenTo_76 rfl (lv_at hl 5 rfl) ?_
              refine li_gf0 hx hb hX0 hown hK hP 0 rfl 13 (by decide) f46 rfl dX0_listenTo_77 ?_
              refine lv_iload_n hx hb dX0_listenTo_80 rfl (lv_at hl 6 rfl) ?_
              refine lv_iload hx hb dX0_listenTo_81 (lv_at hl 1 rfl) ?_
              refine roSN (As := [.int (nI sr), .int (nI k)]) hx hb hml hown hts (c_X2_cellOf l D cI cZ cL cO a n pl nw ns ((foldN (lis1 lr sr (σ 5 sr) hd ch) k (σ, κ)).1) ((foldN (lis1 lr sr (σ 5 sr) hd ch) k (σ, κ)).2) G sr k (hB)) ⟨va_cnB 2 hts gX0_listenTo_X2_cellOf_n104 rfl rfl rfl hE.1 g4 (by decide +kernel) ⟨by decide, by decide⟩, g5, trivial⟩ hK hE hP rfl hl.1 rfl (Nat.le_of_ble_eq_true rfl) hS dX0_listenTo_83 ⟨Nat.zero_le _, Nat.zero_le _⟩ (fun locs hS => ?_)
              refine li_ild hx hb hK hP 12 0 rfl rfl (by omega) (by decide) dX0_listenTo_86 ?_
              refine lv_istore (lv' := [(8, .int (((foldN (lis1 lr sr (σ 5 sr) hd ch) k (σ, κ)).2) 1 (6 * sr + k))), (7, .int (nI (6 * lr + k))), (6, .int (nI k)), (5, .int (zI ch)), (4, .int hd), (3, .int (σ 5 sr)), (0, .ref (a 0)), (1, .int (nI sr)), (2, .int (nI lr))]) hx hb dX0_listenTo_87 hl (by decide) rfl (fun ls hl => ?_)
              refine lv_aload_n hx hb dX0_listenTo_89 rfl (lv_at hl 6 rfl) ?_
              refine li_gf0 hx hb hX0 hown hK hP 0 rfl 13 (by decide) f46 rfl dX0_listenTo_90 ?_
              refine lv_iload hx hb dX0_listenTo_93 (lv_at hl 1 rfl) ?_
              refine li_ild hx hb hK hP 12 0 rfl rfl (by omega) (by decide) dX0_listenTo_95 ?_
              refine lv_if_ne (tgt := 162) hx hb dX0_listenTo_96 (by decide) (fun c20 => ?_) (fun c20 => ?_)
              · skip
                refine lv_iinc (v := nI (k + 1)) (lv' := [(6, .int (nI (k + 1))), (8, .int (((foldN (lis1 lr sr (σ 5 sr) hd ch) k (σ, κ)).2) 1 (6 * sr + k))), (7, .int (nI (6 * lr + k))), (5, .int (zI ch)), (4, .int hd), (3, .int (σ 5 sr)), (0, .ref (a 0)), (1, .int (nI sr)), (2, .int (nI lr))]) hx hb dX0_listenTo_162 hl (k := 2) rfl (nI_inc _ _) (by decide) rfl (fun ls hl => ?_)
                refine lv_goto (tgt := 56) hx hb dX0_listenTo_165 (by decide) ?_
                have hw9 : (foldN (lis1 lr sr (σ 5 sr) hd ch) k (σ, κ)).1 = (foldN (lis1 lr sr (σ 5 sr) hd ch) (k + 1) (σ, κ)).1 := by first | exact (congrArg Prod.fst (lis1_a (by assumption))).symm | exact (congrArg Prod.fst (lis1_b (by assumption))).symm | exact (congrArg Prod.fst (lis1_c (by assumption))).symm | exact (congrArg Prod.fst (lis1_d (by assumption) (by assumption) (by assumption) (by assumption))).symm | exact (congrArg Prod.fst (lis1_e (by assumption) (by assumption) (by assumption) (by assumption) (by assumption))).symm | exact (congrArg Prod.fst (lis1_f (by assumption) (by assumption) (by assumption) (by assumption) (by assumption))).symm
                have hP : va_P D vwCl (wP cI cZ a n pl nw ns ((foldN (lis1 lr sr (σ 5 sr) hd ch) (k + 1) (σ, κ)).1) ((foldN (lis1 lr sr (σ 5 sr) hd ch) k (σ, κ)).2)) G := Eq.mp (congrArg (fun z9 => va_P D vwCl (wP cI cZ a n pl nw ns z9 ((foldN (lis1 lr sr (σ 5 sr) hd ch) k (σ, κ)).2)) G) hw9) hP
                clear hw9
                have hw9 : (foldN (lis1 lr sr (σ 5 sr) hd ch) k (σ, κ)).2 = (foldN (lis1 lr sr (σ 5 sr) hd ch) (k + 1) (σ, κ)).2 := by first | exact (congrArg Prod.snd (lis1_a (by assumption))).symm | exact (congrArg Prod.snd (lis1_b (by assumption))).symm | exact (congrArg Prod.snd (lis1_c (by assumption))).symm | exact (congrArg Prod.snd (lis1_d (by assumption) (by assumption) (by assumption) (by assumption))).symm | exact (congrArg Prod.snd (lis1_e (by assumption) (by assumption) (by assumption) (by assumption) (by assumption))).symm | exact (congrArg Prod.snd (lis1_f (by assumption) (by assumption) (by assumption) (by assumption) (by assumption))).symm
                have hP : va_P D vwCl (wP cI cZ a n pl nw ns ((foldN (lis1 lr sr (σ 5 sr) hd ch) (k + 1) (σ, κ)).1) ((foldN (lis1 lr sr (σ 5 sr) hd ch) (k + 1) (σ, κ)).2)) G := Eq.mp (congrArg (fun z9 => va_P D vwCl (wP cI cZ a n pl nw ns ((foldN (lis1 lr sr (σ 5 sr) hd ch) (k + 1) (σ, κ)).1) z9) G) hw9) hP
                clear hw9
                have hl9 : lv_has ls 9 [(6, .int (nI (k + 1))), (5, .int (zI ch)), (4, .int hd), (3, .int (σ 5 sr)), (0, .ref (a 0)), (1, .int (nI sr)), (2, .int (nI lr))] := lv_sub hl [0, 3, 4, 5, 6, 7, 8] rfl
                exact ih56 (k + 1) hd ch (by omega) (by omega) (by omega) (by omega) G locs hP hS ls hl9
              · skip
                refine lv_iload hx hb dX0_listenTo_99 (lv_at hl 0 rfl) ?_
                refine lv_if_eq (tgt := 162) hx hb dX0_listenTo_101 (by decide) (fun c21 => ?_) (fun c21 => ?_)
                · skip
                  refine lv_iinc (v := nI (k + 1)) (lv' := [(6, .int (nI (k + 1))), (8, .int (((foldN (lis1 lr sr (σ 5 sr) hd ch) k (σ, κ)).2) 1 (6 * sr + k))), (7, .int (nI (6 * lr + k))), (5, .int (zI ch)), (4, .int hd), (3, .int (σ 5 sr)), (0, .ref (a 0)), (1, .int (nI sr)), (2, .int (nI lr))]) hx hb dX0_listenTo_162 hl (k := 2) rfl (nI_inc _ _) (by decide) rfl (fun ls hl => ?_)
                  refine lv_goto (tgt := 56) hx hb dX0_listenTo_165 (by decide) ?_
                  have hw9 : (foldN (lis1 lr sr (σ 5 sr) hd ch) k (σ, κ)).1 = (foldN (lis1 lr sr (σ 5 sr) hd ch) (k + 1) (σ, κ)).1 := by first | exact (congrArg Prod.fst (lis1_a (by assumption))).symm | exact (congrArg Prod.fst (lis1_b (by assumption))).symm | exact (congrArg Prod.fst (lis1_c (by assumption))).symm | exact (congrArg Prod.fst (lis1_d (by assumption) (by assumption) (by assumption) (by assumption))).symm | exact (congrArg Prod.fst (lis1_e (by assumption) (by assumption) (by assumption) (by assumption) (by assumption))).symm | exact (congrArg Prod.fst (lis1_f (by assumption) (by assumption) (by assumption) (by assumption) (by assumption))).symm
                  have hP : va_P D vwCl (wP cI cZ a n pl nw ns ((foldN (lis1 lr sr (σ 5 sr) hd ch) (k + 1) (σ, κ)).1) ((foldN (lis1 lr sr (σ 5 sr) hd ch) k (σ, κ)).2)) G := Eq.mp (congrArg (fun z9 => va_P D vwCl (wP cI cZ a n pl nw ns z9 ((foldN (lis1 lr sr (σ 5 sr) hd ch) k (σ, κ)).2)) G) hw9) hP
                  clear hw9
                  have hw9 : (foldN (lis1 lr sr (σ 5 sr) hd ch) k (σ, κ)).2 = (foldN (lis1 lr sr (σ 5 sr) hd ch) (k + 1) (σ, κ)).2 := by first | exact (congrArg Prod.snd (lis1_a (by assumption))).symm | exact (congrArg Prod.snd (lis1_b (by assumption))).symm | exact (congrArg Prod.snd (lis1_c (by assumption))).symm | exact (congrArg Prod.snd (lis1_d (by assumption) (by assumption) (by assumption) (by assumption))).symm | exact (congrArg Prod.snd (lis1_e (by assumption) (by assumption) (by assumption) (by assumption) (by assumption))).symm | exact (congrArg Prod.snd (lis1_f (by assumption) (by assumption) (by assumption) (by assumption) (by assumption))).symm
                  have hP : va_P D vwCl (wP cI cZ a n pl nw ns ((foldN (lis1 lr sr (σ 5 sr) hd ch) (k + 1) (σ, κ)).1) ((foldN (lis1 lr sr (σ 5 sr) hd ch) (k + 1) (σ, κ)).2)) G := Eq.mp (congrArg (fun z9 => va_P D vwCl (wP cI cZ a n pl nw ns ((foldN (lis1 lr sr (σ 5 sr) hd ch) (k + 1) (σ, κ)).1) z9) G) hw9) hP
                  clear hw9
                  have hl9 : lv_has ls 9 [(6, .int (nI (k + 1))), (5, .int (zI ch)), (4, .int hd), (3, .int (σ 5 sr)), (0, .ref (a 0)), (1, .int (nI sr)), (2, .int (nI lr))] := lv_sub hl [0, 3, 4, 5, 6, 7, 8] rfl
                  exact ih56 (k + 1) hd ch (by omega) (by omega) (by omega) (by omega) G locs hP hS ls hl9
                · skip
                  refine lv_iload_n hx hb dX0_listenTo_104 rfl (lv_at hl 5 rfl) ?_
                  refine lv_aload_n hx hb dX0_listenTo_105 rfl (lv_at hl 6 rfl) ?_
                  refine li_gf0 hx hb hX0 hown hK hP 0 rfl 14 (by decide) f49 rfl dX0_listenTo_106 ?_
                  refine lv_iload hx hb dX0_listenTo_109 (lv_at hl 2 rfl) ?_
                  refine li_ild hx hb hK hP 13 0 rfl rfl (by omega) (by decide) dX0_listenTo_111 ?_
                  refine lv_icmp_le (tgt := 162) hx hb dX0_listenTo_112 (by decide) (fun c22 => ?_) (fun c22 => ?_)
                  · skip
                    refine lv_iinc (v := nI (k + 1)) (lv' := [(6, .int (nI (k + 1))), (8, .int (((foldN (lis1 lr sr (σ 5 sr) hd ch) k (σ, κ)).2) 1 (6 * sr + k))), (7, .int (nI (6 * lr + k))), (5, .int (zI ch)), (4, .int hd), (3, .int (σ 5 sr)), (0, .ref (a 0)), (1, .int (nI sr)), (2, .int (nI lr))]) hx hb dX0_listenTo_162 hl (k := 2) rfl (nI_inc _ _) (by decide) rfl (fun ls hl => ?_)
                    refine lv_goto (tgt := 56) hx hb dX0_listenTo_165 (by decide) ?_
                    have hw9 : (foldN (lis1 lr sr (σ 5 sr) hd ch) k (σ, κ)).1 = (foldN (lis1 lr sr (σ 5 sr) hd ch) (k + 1) (σ, κ)).1 := by first | exact (congrArg Prod.fst (lis1_a (by assumption))).symm | exact (congrArg Prod.fst (lis1_b (by assumption))).symm | exact (congrArg Prod.fst (lis1_c (by assumption))).symm | exact (congrArg Prod.fst (lis1_d (by assumption) (by assumption) (by assumption) (by assumption))).symm | exact (congrArg Prod.fst (lis1_e (by assumption) (by assumption) (by assumption) (by assumption) (by assumption))).symm | exact (congrArg Prod.fst (lis1_f (by assumption) (by assumption) (by assumption) (by assumption) (by assumption))).symm
                    have hP : va_P D vwCl (wP cI cZ a n pl nw ns ((foldN (lis1 lr sr (σ 5 sr) hd ch) (k + 1) (σ, κ)).1) ((foldN (lis1 lr sr (σ 5 sr) hd ch) k (σ, κ)).2)) G := Eq.mp (congrArg (fun z9 => va_P D vwCl (wP cI cZ a n pl nw ns z9 ((foldN (lis1 lr sr (σ 5 sr) hd ch) k (σ, κ)).2)) G) hw9) hP
                    clear hw9
                    have hw9 : (foldN (lis1 lr sr (σ 5 sr) hd ch) k (σ, κ)).2 = (foldN (lis1 lr sr (σ 5 sr) hd ch) (k + 1) (σ, κ)).2 := by first | exact (congrArg Prod.snd (lis1_a (by assumption))).symm | exact (congrArg Prod.snd (lis1_b (by assumption))).symm | exact (congrArg Prod.snd (lis1_c (by assumption))).symm | exact (congrArg Prod.snd (lis1_d (by assumption) (by assumption) (by assumption) (by assumption))).symm | exact (congrArg Prod.snd (lis1_e (by assumption) (by assumption) (by assumption) (by assumption) (by assumption))).symm | exact (congrArg Prod.snd (lis1_f (by assumption) (by assumption) (by assumption) (by assumption) (by assumption))).symm
                    have hP : va_P D vwCl (wP cI cZ a n pl nw ns ((foldN (lis1 lr sr (σ 5 sr) hd ch) (k + 1) (σ, κ)).1) ((foldN (lis1 lr sr (σ 5 sr) hd ch) (k + 1) (σ, κ)).2)) G := Eq.mp (congrArg (fun z9 => va_P D vwCl (wP cI cZ a n pl nw ns ((foldN (lis1 lr sr (σ 5 sr) hd ch) (k + 1) (σ, κ)).1) z9) G) hw9) hP
                    clear hw9
                    have hl9 : lv_has ls 9 [(6, .int (nI (k + 1))), (5, .int (zI ch)), (4, .int hd), (3, .int (σ 5 sr)), (0, .ref (a 0)), (1, .int (nI sr)), (2, .int (nI lr))] := lv_sub hl [0, 3, 4, 5, 6, 7, 8] rfl
                    exact ih56 (k + 1) hd ch (by omega) (by omega) (by omega) (by omega) G locs hP hS ls hl9
                  · skip
                    refine lv_aload_n hx hb dX0_listenTo_115 rfl (lv_at hl 6 rfl) ?_
                    refine li_gf0 hx hb hX0 hown hK hP 0 rfl 14 (by decide) f49 rfl dX0_listenTo_116 ?_
                    refine lv_iload hx hb dX0_listenTo_119 (lv_at hl 2 rfl) ?_
                    refine lv_iload_n hx hb dX0_listenTo_121 rfl (lv_at hl 5 rfl) ?_
                    refine li_ist hx hb hK hP hA.D hS 13 0 rfl rfl (by omega) (by decide) stK_2 dX0_listenTo_122 (fun G locs hP hS => ?_)
                    refine lv_iload hx hb dX0_listenTo_123 (lv_at hl 4 rfl) ?_
                    refine lv_aload_n hx hb dX0_listenTo_125 rfl (lv_at hl 6 rfl) ?_
                    refine li_gf0 hx hb hX0 hown hK hP 0 rfl 0 (by decide) f58 rfl dX0_listenTo_126 ?_
                    refine li_gf1 hx hb hX1 hown hK hP 16 rfl 10 (by decide) f175 rfl dX0_listenTo_129 ?_
                    refine lv_iload hx hb dX0_listenTo_132 (lv_at hl 2 rfl) ?_
                    refine li_ild hx hb hK hP 23 0 rfl rfl (by omega) (by decide) dX0_listenTo_134 ?_
                    refine lv_icmp_lt (tgt := 162) hx hb dX0_listenTo_135 (by decide) (fun c23 => ?_) (fun c23 => ?_)
                    · skip
                      refine lv_iinc (v := nI (k + 1)) (lv' := [(6, .int (nI (k + 1))), (8, .int (((foldN (lis1 lr sr (σ 5 sr) hd ch) k (σ, κ)).2) 1 (6 * sr + k))), (7, .int (nI (6 * lr + k))), (5, .int (zI ch)), (4, .int hd), (3, .int (σ 5 sr)), (0, .ref (a 0)), (1, .int (nI sr)), (2, .int (nI lr))]) hx hb dX0_listenTo_162 hl (k := 2) rfl (nI_inc _ _) (by decide) rfl (fun ls hl => ?_)
                      refine lv_goto (tgt := 56) hx hb dX0_listenTo_165 (by decide) ?_
                      have hw9 : (foldN (lis1 lr sr (σ 5 sr) hd ch) k (σ, κ)).1 = (foldN (lis1 lr sr (σ 5 sr) hd ch) (k + 1) (σ, κ)).1 := by first | exact (congrArg Prod.fst (lis1_a (by assumption))).symm | exact (congrArg Prod.fst (lis1_b (by assumption))).symm | exact (congrArg Prod.fst (lis1_c (by assumption))).symm | exact (congrArg Prod.fst (lis1_d (by assumption) (by assumption) (by assumption) (by assumption))).symm | exact (congrArg Prod.fst (lis1_e (by assumption) (by assumption) (by assumption) (by assumption) (by assumption))).symm | exact (congrArg Prod.fst (lis1_f (by assumption) (by assumption) (by assumption) (by assumption) (by assumption))).symm
                      have hP : va_P D vwCl (wP cI cZ a n pl nw ns ((foldN (lis1 lr sr (σ 5 sr) hd ch) (k + 1) (σ, κ)).1) (up2 ((foldN (lis1 lr sr (σ 5 sr) hd ch) k (σ, κ)).2) 2 k (σ 5 sr))) G := Eq.mp (congrArg (fun z9 => va_P D vwCl (wP cI cZ a n pl nw ns z9 (up2 ((foldN (lis1 lr sr (σ 5 sr) hd ch) k (σ, κ)).2) 2 k (σ 5 sr))) G) hw9) hP
                      clear hw9
                      have hw9 : up2 ((foldN (lis1 lr sr (σ 5 sr) hd ch) k (σ, κ)).2) 2 k (σ 5 sr) = (foldN (lis1 lr sr (σ 5 sr) hd ch) (k + 1) (σ, κ)).2 := by first | exact (congrArg Prod.snd (lis1_a (by assumption))).symm | exact (congrArg Prod.snd (lis1_b (by assumption))).symm | exact (congrArg Prod.snd (lis1_c (by assumption))).symm | exact (congrArg Prod.snd (lis1_d (by assumption) (by assumption) (by assumption) (by assumption))).symm | exact (congrArg Prod.snd (lis1_e (by assumption) (by assumption) (by assumption) (by assumption) (by assumption))).symm | exact (congrArg Prod.snd (lis1_f (by assumption) (by assumption) (by assumption) (by assumption) (by assumption))).symm
                      have hP : va_P D vwCl (wP cI cZ a n pl nw ns ((foldN (lis1 lr sr (σ 5 sr) hd ch) (k + 1) (σ, κ)).1) ((foldN (lis1 lr sr (σ 5 sr) hd ch) (k + 1) (σ, κ)).2)) G := Eq.mp (congrArg (fun z9 => va_P D vwCl (wP cI cZ a n pl nw ns ((foldN (lis1 lr sr (σ 5 sr) hd ch) (k + 1) (σ, κ)).1) z9) G) hw9) hP
                      clear hw9
                      have hl9 : lv_has ls 9 [(6, .int (nI (k + 1))), (5, .int (zI ch)), (4, .int hd), (3, .int (σ 5 sr)), (0, .ref (a 0)), (1, .int (nI sr)), (2, .int (nI lr))] := lv_sub hl [0, 3, 4, 5, 6, 7, 8] rfl
                      exact ih56 (k + 1) hd ch (by omega) (by omega) (by omega) (by omega) G locs hP hS ls hl9
                    · skip
                      refine lv_aload_n hx hb dX0_listenTo_138 rfl (lv_at hl 6 rfl) ?_
                      refine li_gf0 hx hb hX0 hown hK hP 0 rfl 11 (by decide) f40 rfl dX0_listenTo_139 ?_
                      refine lv_iload hx hb dX0_listenTo_142 (lv_at hl 1 rfl) ?_
                      refine lv_iload hx hb dX0_listenTo_144 (lv_at hl 3 rfl) ?_
                      refine li_zeq (tgt := 159) hx hb dX0_listenTo_146 (by decide) (fun c24 => ?_) (fun c24 => ?_)
                      · skip
                        refine lv_iload hx hb dX0_listenTo_159 (lv_at hl 0 rfl) ?_
                        refine li_ist hx hb hK hP hA.D hS 10 0 rfl rfl (by omega) (by decide) stP_16 dX0_listenTo_161 (fun G locs hP hS => ?_)
                        refine lv_iinc (v := nI (k + 1)) (lv' := [(6, .int (nI (k + 1))), (8, .int (((foldN (lis1 lr sr (σ 5 sr) hd ch) k (σ, κ)).2) 1 (6 * sr + k))), (7, .int (nI (6 * lr + k))), (5, .int (zI ch)), (4, .int hd), (3, .int (σ 5 sr)), (0, .ref (a 0)), (1, .int (nI sr)), (2, .int (nI lr))]) hx hb dX0_listenTo_162 hl (k := 2) rfl (nI_inc _ _) (by decide) rfl (fun ls hl => ?_)
                        refine lv_goto (tgt := 56) hx hb dX0_listenTo_165 (by decide) ?_
                        have hw9 : up2 ((foldN (lis1 lr sr (σ 5 sr) hd ch) k (σ, κ)).1) 16 (6 * lr + k) (((foldN (lis1 lr sr (σ 5 sr) hd ch) k (σ, κ)).2) 1 (6 * sr + k)) = (foldN (lis1 lr sr (σ 5 sr) hd ch) (k + 1) (σ, κ)).1 := by first | exact (congrArg Prod.fst (lis1_a (by assumption))).symm | exact (congrArg Prod.fst (lis1_b (by assumption))).symm | exact (congrArg Prod.fst (lis1_c (by assumption))).symm | exact (congrArg Prod.fst (lis1_d (by assumption) (by assumption) (by assumption) (by assumption))).symm | exact (congrArg Prod.fst (lis1_e (by assumption) (by assumption) (by assumption) (by assumption) (by assumption))).symm | exact (congrArg Prod.fst (lis1_f (by assumption) (by assumption) (by assumption) (by assumption) (by assumption))).symm
                        have hP : va_P D vwCl (wP cI cZ a n pl nw ns ((foldN (lis1 lr sr (σ 5 sr) hd ch) (k + 1) (σ, κ)).1) (up2 ((foldN (lis1 lr sr (σ 5 sr) hd ch) k (σ, κ)).2) 2 k (σ 5 sr))) G := Eq.mp (congrArg (fun z9 => va_P D vwCl (wP cI cZ a n pl nw ns z9 (up2 ((foldN (lis1 lr sr (σ 5 sr) hd ch) k (σ, κ)).2) 2 k (σ 5 sr))) G) hw9) hP
                        clear hw9
                        have hw9 : up2 ((foldN (lis1 lr sr (σ 5 sr) hd ch) k (σ, κ)).2) 2 k (σ 5 sr) = (foldN (lis1 lr sr (σ 5 sr) hd ch) (k + 1) (σ, κ)).2 := by first | exact (congrArg Prod.snd (lis1_a (by assumption))).symm | exact (congrArg Prod.snd (lis1_b (by assumption))).symm | exact (congrArg Prod.snd (lis1_c (by assumption))).symm | exact (congrArg Prod.snd (lis1_d (by assumption) (by assumption) (by assumption) (by assumption))).symm | exact (congrArg Prod.snd (lis1_e (by assumption) (by assumption) (by assumption) (by assumption) (by assumption))).symm | exact (congrArg Prod.snd (lis1_f (by assumption) (by assumption) (by assumption) (by assumption) (by assumption))).symm
                        have hP : va_P D vwCl (wP cI cZ a n pl nw ns ((foldN (lis1 lr sr (σ 5 sr) hd ch) (k + 1) (σ, κ)).1) ((foldN (lis1 lr sr (σ 5 sr) hd ch) (k + 1) (σ, κ)).2)) G := Eq.mp (congrArg (fun z9 => va_P D vwCl (wP cI cZ a n pl nw ns ((foldN (lis1 lr sr (σ 5 sr) hd ch) (k + 1) (σ, κ)).1) z9) G) hw9) hP
                        clear hw9
                        have hl9 : lv_has ls 9 [(6, .int (nI (k + 1))), (5, .int (zI ch)), (4, .int hd), (3, .int (σ 5 sr)), (0, .ref (a 0)), (1, .int (nI sr)), (2, .int (nI lr))] := lv_sub hl [0, 3, 4, 5, 6, 7, 8] rfl
                        exact ih56 (k + 1) hd ch (by omega) (by omega) (by omega) (by omega) G locs hP hS ls hl9
                      · skip
                        refine lv_iload hx hb dX0_listenTo_149 (lv_at hl 0 rfl) ?_
                        refine lv_bipush (v := nI 99) hx hb dX0_listenTo_151 rfl ?_
                        refine lv_irem hx hb dX0_listenTo_153 (by decide) ?_
                        refine li_topi (show (((foldN (lis1 lr sr (σ 5 sr) hd ch) k (σ, κ)).2) 1 (6 * sr + k)) - (((foldN (lis1 lr sr (σ 5 sr) hd ch) k (σ, κ)).2) 1 (6 * sr + k)) / (nI 99) * (nI 99) = rem99 ((((foldN (lis1 lr sr (σ 5 sr) hd ch) k (σ, κ)).2) 1 (6 * sr + k))) from rfl) ?_
                        refine lv_iconst (v := nI 1) hx hb dX0_listenTo_154 rfl ?_
                        refine lv_iadd hx hb dX0_listenTo_155 ?_
                        refine lv_goto (tgt := 161) hx hb dX0_listenTo_156 (by decide) ?_
                        refine li_ist hx hb hK hP hA.D hS 10 0 rfl rfl (by omega) (by decide) stP_16 dX0_listenTo_161 (fun G locs hP hS => ?_)
                        refine lv_iinc (v := nI (k + 1)) (lv' := [(6, .int (nI (k + 1))), (8, .int (((foldN (lis1 lr sr (σ 5 sr) hd ch) k (σ, κ)).2) 1 (6 * sr + k))), (7, .int (nI (6 * lr + k))), (5, .int (zI ch)), (4, .int hd), (3, .int (σ 5 sr)), (0, .ref (a 0)), (1, .int (nI sr)), (2, .int (nI lr))]) hx hb dX0_listenTo_162 hl (k := 2) rfl (nI_inc _ _) (by decide) rfl (fun ls hl => ?_)
                        refine lv_goto (tgt := 56) hx hb dX0_listenTo_165 (by decide) ?_
                        have hw9 : up2 ((foldN (lis1 lr sr (σ 5 sr) hd ch) k (σ, κ)).1) 16 (6 * lr + k) ((rem99 ((((foldN (lis1 lr sr (σ 5 sr) hd ch) k (σ, κ)).2) 1 (6 * sr + k)))) + (nI 1)) = (foldN (lis1 lr sr (σ 5 sr) hd ch) (k + 1) (σ, κ)).1 := by first | exact (congrArg Prod.fst (lis1_a (by assumption))).symm | exact (congrArg Prod.fst (lis1_b (by assumption))).symm | exact (congrArg Prod.fst (lis1_c (by assumption))).symm | exact (congrArg Prod.fst (lis1_d (by assumption) (by assumption) (by assumption) (by assumption))).symm | exact (congrArg Prod.fst (lis1_e (by assumption) (by assumption) (by assumption) (by assumption) (by assumption))).symm | exact (congrArg Prod.fst (lis1_f (by assumption) (by assumption) (by assumption) (by assumption) (by assumption))).symm
                        have hP : va_P D vwCl (wP cI cZ a n pl nw ns ((foldN (lis1 lr sr (σ 5 sr) hd ch) (k + 1) (σ, κ)).1) (up2 ((foldN (lis1 lr sr (σ 5 sr) hd ch) k (σ, κ)).2) 2 k (σ 5 sr))) G := Eq.mp (congrArg (fun z9 => va_P D vwCl (wP cI cZ a n pl nw ns z9 (up2 ((foldN (lis1 lr sr (σ 5 sr) hd ch) k (σ, κ)).2) 2 k (σ 5 sr))) G) hw9) hP
                        clear hw9
                        have hw9 : up2 ((foldN (lis1 lr sr (σ 5 sr) hd ch) k (σ, κ)).2) 2 k (σ 5 sr) = (foldN (lis1 lr sr (σ 5 sr) hd ch) (k + 1) (σ, κ)).2 := by first | exact (congrArg Prod.snd (lis1_a (by assumption))).symm | exact (congrArg Prod.snd (lis1_b (by assumption))).symm | exact (congrArg Prod.snd (lis1_c (by assumption))).symm | exact (congrArg Prod.snd (lis1_d (by assumption) (by assumption) (by assumption) (by assumption))).symm | exact (congrArg Prod.snd (lis1_e (by assumption) (by assumption) (by assumption) (by assumption) (by assumption))).symm | exact (congrArg Prod.snd (lis1_f (by assumption) (by assumption) (by assumption) (by assumption) (by assumption))).symm
                        have hP : va_P D vwCl (wP cI cZ a n pl nw ns ((foldN (lis1 lr sr (σ 5 sr) hd ch) (k + 1) (σ, κ)).1) ((foldN (lis1 lr sr (σ 5 sr) hd ch) (k + 1) (σ, κ)).2)) G := Eq.mp (congrArg (fun z9 => va_P D vwCl (wP cI cZ a n pl nw ns ((foldN (lis1 lr sr (σ 5 sr) hd ch) (k + 1) (σ, κ)).1) z9) G) hw9) hP
                        clear hw9
                        have hl9 : lv_has ls 9 [(6, .int (nI (k + 1))), (5, .int (zI ch)), (4, .int hd), (3, .int (σ 5 sr)), (0, .ref (a 0)), (1, .int (nI sr)), (2, .int (nI lr))] := lv_sub hl [0, 3, 4, 5, 6, 7, 8] rfl
                        exact ih56 (k + 1) hd ch (by omega) (by omega) (by omega) (by omega) G locs hP hS ls hl9
        have hw9 : σ = (foldN (lis1 lr sr (σ 5 sr) ((σ 5 sr) + (nI 3)) true) 0 (σ, κ)).1 := rfl
        have hP : va_P D vwCl (wP cI cZ a n pl nw ns ((foldN (lis1 lr sr (σ 5 sr) ((σ 5 sr) + (nI 3)) true) 0 (σ, κ)).1) κ) H := Eq.mp (congrArg (fun z9 => va_P D vwCl (wP cI cZ a n pl nw ns z9 κ) H) hw9) hP
        clear hw9
        have hw9 : κ = (foldN (lis1 lr sr (σ 5 sr) ((σ 5 sr) + (nI 3)) true) 0 (σ, κ)).2 := rfl
        have hP : va_P D vwCl (wP cI cZ a n pl nw ns ((foldN (lis1 lr sr (σ 5 sr) ((σ 5 sr) + (nI 3)) true) 0 (σ, κ)).1) ((foldN (lis1 lr sr (σ 5 sr) ((σ 5 sr) + (nI 3)) true) 0 (σ, κ)).2)) H := Eq.mp (congrArg (fun z9 => va_P D vwCl (wP cI cZ a n pl nw ns ((foldN (lis1 lr sr (σ 5 sr) ((σ 5 sr) + (nI 3)) true) 0 (σ, κ)).1) z9) H) hw9) hP
        clear hw9
        have hl9 : lv_has ls 9 [(6, .int (nI 0)), (5, .int (nI 1)), (4, .int ((σ 5 sr) + (nI 3))), (3, .int (σ 5 sr)), (0, .ref (a 0)), (1, .int (nI sr)), (2, .int (nI lr))] := lv_sub hl [0, 1, 2, 3, 4, 5, 6] rfl
        have hl9 : lv_has ls 9 [(6, .int (nI 0)), (5, .int (zI true)), (4, .int ((σ 5 sr) + (nI 3))), (3, .int (σ 5 sr)), (0, .ref (a 0)), (1, .int (nI sr)), (2, .int (nI lr))] := lv_re hl9 1 rfl (show nI 1 = zI true from rfl)
        have hl9 : lv_has ls 9 [(6, .int (nI 0)), (5, .int (zI true)), (4, .int ((σ 5 sr) + (nI 3))), (3, .int (σ 5 sr)), (0, .ref (a 0)), (1, .int (nI sr)), (2, .int (nI lr))] := lv_re hl9 2 rfl (show (σ 5 sr) + (nI 3) = ((σ 5 sr) + (nI 3)) from by simp [c1, c2, c10])
        exact L56_18 ((ns - 0) + 1) 0 ((σ 5 sr) + (nI 3)) true (Nat.lt_succ_self _) (by omega) (by first | exact (hrd_t (by assumption)).symm | exact (hrd_f (by assumption)).symm) (by first | exact (chg_c (by assumption) (by assumption)).symm | exact (chg_a (by assumption)).symm | exact (chg_b (by assumption)).symm) H locs hP hS ls hl9
  · skip
    refine lv_iload_n hx hb dX0_listenTo_19 rfl (lv_at hl 0 rfl) ?_
    refine lv_goto (tgt := 26) hx hb dX0_listenTo_20 (by decide) ?_
    refine lv_istore (lv' := [(4, .int (σ 5 sr)), (3, .int (σ 5 sr)), (0, .ref (a 0)), (1, .int (nI sr)), (2, .int (nI lr))]) hx hb dX0_listenTo_26 hl (by decide) rfl (fun ls hl => ?_)
    refine lv_aload_n hx hb dX0_listenTo_28 rfl (lv_at hl 2 rfl) ?_
    refine li_gf0 hx hb hX0 hown hK hP 0 rfl 6 (by decide) f24 rfl dX0_listenTo_29 ?_
    refine lv_iload_n hx hb dX0_listenTo_32 rfl (lv_at hl 4 rfl) ?_
    refine li_zld hx hb hK hP 5 1 rfl rfl (by omega) (by decide) dX0_listenTo_33 ?_
    refine lv_if_eq (tgt := 50) hx hb dX0_listenTo_34 (by decide) (fun c25 => ?_) (fun c25 => ?_)
    · skip
      refine lv_iconst (v := nI 0) hx hb dX0_listenTo_50 rfl ?_
      refine lv_istore (lv' := [(5, .int (nI 0)), (4, .int (σ 5 sr)), (3, .int (σ 5 sr)), (0, .ref (a 0)), (1, .int (nI sr)), (2, .int (nI lr))]) hx hb dX0_listenTo_51 hl (by decide) rfl (fun ls hl => ?_)
      refine lv_iconst (v := nI 0) hx hb dX0_listenTo_53 rfl ?_
      refine lv_istore (lv' := [(6, .int (nI 0)), (5, .int (nI 0)), (4, .int (σ 5 sr)), (3, .int (σ 5 sr)), (0, .ref (a 0)), (1, .int (nI sr)), (2, .int (nI lr))]) hx hb dX0_listenTo_54 hl (by decide) rfl (fun ls hl => ?_)
      have L56_26 : ∀ (fuel : Nat) (k : Nat) (hd : Int32) (ch : Bool), (ns - k) < fuel → (k ≤ ns) → (hd = hrd σ lr sr) → (ch = chg σ lr sr) → ∀ (G : Heap) (locs : List Loc), va_P D vwCl (wP cI cZ a n pl nw ns ((foldN (lis1 lr sr (σ 5 sr) hd ch) k (σ, κ)).1) ((foldN (lis1 lr sr (σ 5 sr) hd ch) k (σ, κ)).2)) G → va_S A H G locs → ∀ (ls : Array Slot), lv_has ls 9 [(6, .int (nI k)), (5, .int (zI ch)), (4, .int hd), (3, .int (σ 5 sr)), (0, .ref (a 0)), (1, .int (nI sr)), (2, .int (nI lr))] → W p l e ({ frames := 1, cells := 0, slots := 0, locals := 21 } : Room) s m args below meth c G locs 0 0 Q (F0 m 56 ls []) := by
        intro fuel
        induction fuel with
        | zero =>
          intro k hd ch hfuel
          exact absurd hfuel (Nat.not_lt_zero _)
        | succ fuel ih56 =>
          intro k hd ch hfuel56 hk hhd hch G locs hP hS ls hl
          refine lv_iload hx hb dX0_listenTo_56 (lv_at hl 0 rfl) ?_
          refine lv_aload_n hx hb dX0_listenTo_58 rfl (lv_at hl 4 rfl) ?_
          refine li_gf0 hx hb hX0 hown hK hP 0 rfl 0 (by decide) f58 rfl dX0_listenTo_59 ?_
          refine li_gf1 hx hb hX1 hown hK hP 16 rfl 9 (by decide) f97 rfl dX0_listenTo_62 ?_
          refine li_ge (tgt := 168) hx hb dX0_listenTo_65 (by decide) (by omega) (by omega) (fun c27 => ?_) (fun c27 => ?_)
          · skip
            have hw9 : (foldN (lis1 lr sr (σ 5 sr) hd ch) k (σ, κ)).1 = (lisF lr sr ns (σ, κ)).1 := by rw [show k = ns by omega, hhd, hch]; rfl
            have hP : va_P D vwCl (wP cI cZ a n pl nw ns ((lisF lr sr ns (σ, κ)).1) ((foldN (lis1 lr sr (σ 5 sr) hd ch) k (σ, κ)).2)) G := Eq.mp (congrArg (fun z9 => va_P D vwCl (wP cI cZ a n pl nw ns z9 ((foldN (lis1 lr sr (σ 5 sr) hd ch) k (σ, κ)).2)) G) hw9) hP
            clear hw9
            have hw9 : (foldN (lis1 lr sr (σ 5 sr) hd ch) k (σ, κ)).2 = (lisF lr sr ns (σ, κ)).2 := by rw [show k = ns by omega, hhd, hch]; rfl
            have hP : va_P D vwCl (wP cI cZ a n pl nw ns ((lisF lr sr ns (σ, κ)).1) ((lisF lr sr ns (σ, κ)).2)) G := Eq.mp (congrArg (fun z9 => va_P D vwCl (wP cI cZ a n pl nw ns ((lisF lr sr ns (σ, κ)).1) z9) G) hw9) hP
            clear hw9
            exact hEnd 168 ls G locs dX0_listenTo_168 hP hS
          · skip
            refine lv_iload_n hx hb dX0_listenTo_68 rfl (lv_at hl 6 rfl) ?_
            refine lv_iload hx hb dX0_listenTo_69 (lv_at hl 0 rfl) ?_
            refine roSN (As := [.int (nI lr), .int (nI k)]) hx hb hml hown hts (c_X2_cellOf l D cI cZ cL cO a n pl nw ns ((foldN (lis1 lr sr (σ 5 sr) hd ch) k (σ, κ)).1) ((foldN (lis1 lr sr (σ 5 sr) hd ch) k (σ, κ)).2) G lr k (hB)) ⟨va_cnB 2 hts gX0_listenTo_X2_cellOf_n104 rfl rfl rfl hE.1 g4 (by decide +kernel) ⟨by decide, by decide⟩, g5, trivial⟩ hK hE hP rfl hl.1 rfl (Nat.le_of_ble_eq_true rfl) hS dX0_listenTo_71 ⟨Nat.zero_le _, Nat.zero_le _⟩ (fun locs hS => ?_)
            refine lv_istore (lv' := [(7, .int (nI (6 * lr + k))), (6, .int (nI k)), (5, .int (zI ch)), (4, .int hd), (3, .int (σ 5 sr)), (0, .ref (a 0)), (1, .int (nI sr)), (2, .int (nI lr))]) hx hb dX0_listenTo_74 hl (by decide) rfl (fun ls hl => ?_)
            refine lv_aload_n hx hb dX0_listenTo_76 rfl (lv_at hl 5 rfl) ?_
            refine li_gf0 hx hb hX0 hown hK hP 0 rfl 13 (by decide) f46 rfl dX0_listenTo_77 ?_
            refine lv_iload_n hx hb dX0_listenTo_80 rfl (lv_at hl 6 rfl) ?_
            refine lv_iload hx hb dX0_listenTo_81 (lv_at hl 1 rfl) ?_
            refine roSN (As := [.int (nI sr), .int (nI k)]) hx hb hml hown hts (c_X2_cellOf l D cI cZ cL cO a n pl nw ns ((foldN (lis1 lr sr (σ 5 sr) hd ch) k (σ, κ)).1) ((foldN (lis1 lr sr (σ 5 sr) hd ch) k (σ, κ)).2) G sr k (hB)) ⟨va_cnB 2 hts gX0_listenTo_X2_cellOf_n104 rfl rfl rfl hE.1 g4 (by decide +kernel) ⟨by decide, by decide⟩, g5, trivial⟩ hK hE hP rfl hl.1 rfl (Nat.le_of_ble_eq_true rfl) hS dX0_listenTo_83 ⟨Nat.zero_le _, Nat.zero_le _⟩ (fun locs hS => ?_)
            refine li_ild hx hb hK hP 12 0 rfl rfl (by omega) (by decide) dX0_listenTo_86 ?_
            refine lv_istore (lv' := [(8, .int (((foldN (lis1 lr sr (σ 5 sr) hd ch) k (σ, κ)).2) 1 (6 * sr + k))), (7, .int (nI (6 * lr + k))), (6, .int (nI k)), (5, .int (zI ch)), (4, .int hd), (3, .int (σ 5 sr)), (0, .ref (a 0)), (1, .int (nI sr)), (2, .int (nI lr))]) hx hb dX0_listenTo_87 hl (by decide) rfl (fun ls hl => ?_)
            refine lv_aload_n hx hb dX0_listenTo_89 rfl (lv_at hl 6 rfl) ?_
            refine li_gf0 hx hb hX0 hown hK hP 0 rfl 13 (by decide) f46 rfl dX0_listenTo_90 ?_
            refine lv_iload hx hb dX0_listenTo_93 (lv_at hl 1 rfl) ?_
            refine li_ild hx hb hK hP 12 0 rfl rfl (by omega) (by decide) dX0_listenTo_95 ?_
            refine lv_if_ne (tgt := 162) hx hb dX0_listenTo_96 (by decide) (fun c28 => ?_) (fun c28 => ?_)
            · skip
              refine lv_iinc (v := nI (k + 1)) (lv' := [(6, .int (nI (k + 1))), (8, .int (((foldN (lis1 lr sr (σ 5 sr) hd ch) k (σ, κ)).2) 1 (6 * sr + k))), (7, .int (nI (6 * lr + k))), (5, .int (zI ch)), (4, .int hd), (3, .int (σ 5 sr)), (0, .ref (a 0)), (1, .int (nI sr)), (2, .int (nI lr))]) hx hb dX0_listenTo_162 hl (k := 2) rfl (nI_inc _ _) (by decide) rfl (fun ls hl => ?_)
              refine lv_goto (tgt := 56) hx hb dX0_listenTo_165 (by decide) ?_
              have hw9 : (foldN (lis1 lr sr (σ 5 sr) hd ch) k (σ, κ)).1 = (foldN (lis1 lr sr (σ 5 sr) hd ch) (k + 1) (σ, κ)).1 := by first | exact (congrArg Prod.fst (lis1_a (by assumption))).symm | exact (congrArg Prod.fst (lis1_b (by assumption))).symm | exact (congrArg Prod.fst (lis1_c (by assumption))).symm | exact (congrArg Prod.fst (lis1_d (by assumption) (by assumption) (by assumption) (by assumption))).symm | exact (congrArg Prod.fst (lis1_e (by assumption) (by assumption) (by assumption) (by assumption) (by assumption))).symm | exact (congrArg Prod.fst (lis1_f (by assumption) (by assumption) (by assumption) (by assumption) (by assumption))).symm
              have hP : va_P D vwCl (wP cI cZ a n pl nw ns ((foldN (lis1 lr sr (σ 5 sr) hd ch) (k + 1) (σ, κ)).1) ((foldN (lis1 lr sr (σ 5 sr) hd ch) k (σ, κ)).2)) G := Eq.mp (congrArg (fun z9 => va_P D vwCl (wP cI cZ a n pl nw ns z9 ((foldN (lis1 lr sr (σ 5 sr) hd ch) k (σ, κ)).2)) G) hw9) hP
              clear hw9
              have hw9 : (foldN (lis1 lr sr (σ 5 sr) hd ch) k (σ, κ)).2 = (foldN (lis1 lr sr (σ 5 sr) hd ch) (k + 1) (σ, κ)).2 := by first | exact (congrArg Prod.snd (lis1_a (by assumption))).symm | exact (congrArg Prod.snd (lis1_b (by assumption))).symm | exact (congrArg Prod.snd (lis1_c (by assumption))).symm | exact (congrArg Prod.snd (lis1_d (by assumption) (by assumption) (by assumption) (by assumption))).symm | exact (congrArg Prod.snd (lis1_e (by assumption) (by assumption) (by assumption) (by assumption) (by assumption))).symm | exact (congrArg Prod.snd (lis1_f (by assumption) (by assumption) (by assumption) (by assumption) (by assumption))).symm
              have hP : va_P D vwCl (wP cI cZ a n pl nw ns ((foldN (lis1 lr sr (σ 5 sr) hd ch) (k + 1) (σ, κ)).1) ((foldN (lis1 lr sr (σ 5 sr) hd ch) (k + 1) (σ, κ)).2)) G := Eq.mp (congrArg (fun z9 => va_P D vwCl (wP cI cZ a n pl nw ns ((foldN (lis1 lr sr (σ 5 sr) hd ch) (k + 1) (σ, κ)).1) z9) G) hw9) hP
              clear hw9
              have hl9 : lv_has ls 9 [(6, .int (nI (k + 1))), (5, .int (zI ch)), (4, .int hd), (3, .int (σ 5 sr)), (0, .ref (a 0)), (1, .int (nI sr)), (2, .int (nI lr))] := lv_sub hl [0, 3, 4, 5, 6, 7, 8] rfl
              exact ih56 (k + 1) hd ch (by omega) (by omega) (by omega) (by omega) G locs hP hS ls hl9
            · skip
              refine lv_iload hx hb dX0_listenTo_99 (lv_at hl 0 rfl) ?_
              refine lv_if_eq (tgt := 162) hx hb dX0_listenTo_101 (by decide) (fun c29 => ?_) (fun c29 => ?_)
              · skip
                refine lv_iinc (v := nI (k + 1)) (lv' := [(6, .int (nI (k + 1))), (8, .int (((foldN (lis1 lr sr (σ 5 sr) hd ch) k (σ, κ)).2) 1 (6 * sr + k))), (7, .int (nI (6 * lr + k))), (5, .int (zI ch)), (4, .int hd), (3, .int (σ 5 sr)), (0, .ref (a 0)), (1, .int (nI sr)), (2, .int (nI lr))]) hx hb dX0_listenTo_162 hl (k := 2) rfl (nI_inc _ _) (by decide) rfl (fun ls hl => ?_)
                refine lv_goto (tgt := 56) hx hb dX0_listenTo_165 (by decide) ?_
                have hw9 : (foldN (lis1 lr sr (σ 5 sr) hd ch) k (σ, κ)).1 = (foldN (lis1 lr sr (σ 5 sr) hd ch) (k + 1) (σ, κ)).1 := by first | exact (congrArg Prod.fst (lis1_a (by assumption))).symm | exact (congrArg Prod.fst (lis1_b (by assumption))).symm | exact (congrArg Prod.fst (lis1_c (by assumption))).symm | exact (congrArg Prod.fst (lis1_d (by assumption) (by assumption) (by assumption) (by assumption))).symm | exact (congrArg Prod.fst (lis1_e (by assumption) (by assumption) (by assumption) (by assumption) (by assumption))).symm | exact (congrArg Prod.fst (lis1_f (by assumption) (by assumption) (by assumption) (by assumption) (by assumption))).symm
                have hP : va_P D vwCl (wP cI cZ a n pl nw ns ((foldN (lis1 lr sr (σ 5 sr) hd ch) (k + 1) (σ, κ)).1) ((foldN (lis1 lr sr (σ 5 sr) hd ch) k (σ, κ)).2)) G := Eq.mp (congrArg (fun z9 => va_P D vwCl (wP cI cZ a n pl nw ns z9 ((foldN (lis1 lr sr (σ 5 sr) hd ch) k (σ, κ)).2)) G) hw9) hP
                clear hw9
                have hw9 : (foldN (lis1 lr sr (σ 5 sr) hd ch) k (σ, κ)).2 = (foldN (lis1 lr sr (σ 5 sr) hd ch) (k + 1) (σ, κ)).2 := by first | exact (congrArg Prod.snd (lis1_a (by assumption))).symm | exact (congrArg Prod.snd (lis1_b (by assumption))).symm | exact (congrArg Prod.snd (lis1_c (by assumption))).symm | exact (congrArg Prod.snd (lis1_d (by assumption) (by assumption) (by assumption) (by assumption))).symm | exact (congrArg Prod.snd (lis1_e (by assumption) (by assumption) (by assumption) (by assumption) (by assumption))).symm | exact (congrArg Prod.snd (lis1_f (by assumption) (by assumption) (by assumption) (by assumption) (by assumption))).symm
                have hP : va_P D vwCl (wP cI cZ a n pl nw ns ((foldN (lis1 lr sr (σ 5 sr) hd ch) (k + 1) (σ, κ)).1) ((foldN (lis1 lr sr (σ 5 sr) hd ch) (k + 1) (σ, κ)).2)) G := Eq.mp (congrArg (fun z9 => va_P D vwCl (wP cI cZ a n pl nw ns ((foldN (lis1 lr sr (σ 5 sr) hd ch) (k + 1) (σ, κ)).1) z9) G) hw9) hP
                clear hw9
                have hl9 : lv_has ls 9 [(6, .int (nI (k + 1))), (5, .int (zI ch)), (4, .int hd), (3, .int (σ 5 sr)), (0, .ref (a 0)), (1, .int (nI sr)), (2, .int (nI lr))] := lv_sub hl [0, 3, 4, 5, 6, 7, 8] rfl
                exact ih56 (k + 1) hd ch (by omega) (by omega) (by omega) (by omega) G locs hP hS ls hl9
              · skip
                refine lv_iload_n hx hb dX0_listenTo_104 rfl (lv_at hl 5 rfl) ?_
                refine lv_aload_n hx hb dX0_listenTo_105 rfl (lv_at hl 6 rfl) ?_
                refine li_gf0 hx hb hX0 hown hK hP 0 rfl 14 (by decide) f49 rfl dX0_listenTo_106 ?_
                refine lv_iload hx hb dX0_listenTo_109 (lv_at hl 2 rfl) ?_
                refine li_ild hx hb hK hP 13 0 rfl rfl (by omega) (by decide) dX0_listenTo_111 ?_
                refine lv_icmp_le (tgt := 162) hx hb dX0_listenTo_112 (by decide) (fun c30 => ?_) (fun c30 => ?_)
                · skip
                  refine lv_iinc (v := nI (k + 1)) (lv' := [(6, .int (nI (k + 1))), (8, .int (((foldN (lis1 lr sr (σ 5 sr) hd ch) k (σ, κ)).2) 1 (6 * sr + k))), (7, .int (nI (6 * lr + k))), (5, .int (zI ch)), (4, .int hd), (3, .int (σ 5 sr)), (0, .ref (a 0)), (1, .int (nI sr)), (2, .int (nI lr))]) hx hb dX0_listenTo_162 hl (k := 2) rfl (nI_inc _ _) (by decide) rfl (fun ls hl => ?_)
                  refine lv_goto (tgt := 56) hx hb dX0_listenTo_165 (by decide) ?_
                  have hw9 : (foldN (lis1 lr sr (σ 5 sr) hd ch) k (σ, κ)).1 = (foldN (lis1 lr sr (σ 5 sr) hd ch) (k + 1) (σ, κ)).1 := by first | exact (congrArg Prod.fst (lis1_a (by assumption))).symm | exact (congrArg Prod.fst (lis1_b (by assumption))).symm | exact (congrArg Prod.fst (lis1_c (by assumption))).symm | exact (congrArg Prod.fst (lis1_d (by assumption) (by assumption) (by assumption) (by assumption))).symm | exact (congrArg Prod.fst (lis1_e (by assumption) (by assumption) (by assumption) (by assumption) (by assumption))).symm | exact (congrArg Prod.fst (lis1_f (by assumption) (by assumption) (by assumption) (by assumption) (by assumption))).symm
                  have hP : va_P D vwCl (wP cI cZ a n pl nw ns ((foldN (lis1 lr sr (σ 5 sr) hd ch) (k + 1) (σ, κ)).1) ((foldN (lis1 lr sr (σ 5 sr) hd ch) k (σ, κ)).2)) G := Eq.mp (congrArg (fun z9 => va_P D vwCl (wP cI cZ a n pl nw ns z9 ((foldN (lis1 lr sr (σ 5 sr) hd ch) k (σ, κ)).2)) G) hw9) hP
                  clear hw9
                  have hw9 : (foldN (lis1 lr sr (σ 5 sr) hd ch) k (σ, κ)).2 = (foldN (lis1 lr sr (σ 5 sr) hd ch) (k + 1) (σ, κ)).2 := by first | exact (congrArg Prod.snd (lis1_a (by assumption))).symm | exact (congrArg Prod.snd (lis1_b (by assumption))).symm | exact (congrArg Prod.snd (lis1_c (by assumption))).symm | exact (congrArg Prod.snd (lis1_d (by assumption) (by assumption) (by assumption) (by assumption))).symm | exact (congrArg Prod.snd (lis1_e (by assumption) (by assumption) (by assumption) (by assumption) (by assumption))).symm | exact (congrArg Prod.snd (lis1_f (by assumption) (by assumption) (by assumption) (by assumption) (by assumption))).symm
                  have hP : va_P D vwCl (wP cI cZ a n pl nw ns ((foldN (lis1 lr sr (σ 5 sr) hd ch) (k + 1) (σ, κ)).1) ((foldN (lis1 lr sr (σ 5 sr) hd ch) (k + 1) (σ, κ)).2)) G := Eq.mp (congrArg (fun z9 => va_P D vwCl (wP cI cZ a n pl nw ns ((foldN (lis1 lr sr (σ 5 sr) hd ch) (k + 1) (σ, κ)).1) z9) G) hw9) hP
                  clear hw9
                  have hl9 : lv_has ls 9 [(6, .int (nI (k + 1))), (5, .int (zI ch)), (4, .int hd), (3, .int (σ 5 sr)), (0, .ref (a 0)), (1, .int (nI sr)), (2, .int (nI lr))] := lv_sub hl [0, 3, 4, 5, 6, 7, 8] rfl
                  exact ih56 (k + 1) hd ch (by omega) (by omega) (by omega) (by omega) G locs hP hS ls hl9
                · skip
                  refine lv_aload_n hx hb dX0_listenTo_115 rfl (lv_at hl 6 rfl) ?_
                  refine li_gf0 hx hb hX0 hown hK hP 0 rfl 14 (by decide) f49 rfl dX0_listenTo_116 ?_
                  refine lv_iload hx hb dX0_listenTo_119 (lv_at hl 2 rfl) ?_
                  refine lv_iload_n hx hb dX0_listenTo_121 rfl (lv_at hl 5 rfl) ?_
                  refine li_ist hx hb hK hP hA.D hS 13 0 rfl rfl (by omega) (by decide) stK_2 dX0_listenTo_122 (fun G locs hP hS => ?_)
                  refine lv_iload hx hb dX0_listenTo_123 (lv_at hl 4 rfl) ?_
                  refine lv_aload_n hx hb dX0_listenTo_125 rfl (lv_at hl 6 rfl) ?_
                  refine li_gf0 hx hb hX0 hown hK hP 0 rfl 0 (by decide) f58 rfl dX0_listenTo_126 ?_
                  refine li_gf1 hx hb hX1 hown hK hP 16 rfl 10 (by decide) f175 rfl dX0_listenTo_129 ?_
                  refine lv_iload hx hb dX0_listenTo_132 (lv_at hl 2 rfl) ?_
                  refine li_ild hx hb hK hP 23 0 rfl rfl (by omega) (by decide) dX0_listenTo_134 ?_
                  refine lv_icmp_lt (tgt := 162) hx hb dX0_listenTo_135 (by decide) (fun c31 => ?_) (fun c31 => ?_)
                  · skip
                    refine lv_iinc (v := nI (k + 1)) (lv' := [(6, .int (nI (k + 1))), (8, .int (((foldN (lis1 lr sr (σ 5 sr) hd ch) k (σ, κ)).2) 1 (6 * sr + k))), (7, .int (nI (6 * lr + k))), (5, .int (zI ch)), (4, .int hd), (3, .int (σ 5 sr)), (0, .ref (a 0)), (1, .int (nI sr)), (2, .int (nI lr))]) hx hb dX0_listenTo_162 hl (k := 2) rfl (nI_inc _ _) (by decide) rfl (fun ls hl => ?_)
                    refine lv_goto (tgt := 56) hx hb dX0_listenTo_165 (by decide) ?_
                    have hw9 : (foldN (lis1 lr sr (σ 5 sr) hd ch) k (σ, κ)).1 = (foldN (lis1 lr sr (σ 5 sr) hd ch) (k + 1) (σ, κ)).1 := by first | exact (congrArg Prod.fst (lis1_a (by assumption))).symm | exact (congrArg Prod.fst (lis1_b (by assumption))).symm | exact (congrArg Prod.fst (lis1_c (by assumption))).symm | exact (congrArg Prod.fst (lis1_d (by assumption) (by assumption) (by assumption) (by assumption))).symm | exact (congrArg Prod.fst (lis1_e (by assumption) (by assumption) (by assumption) (by assumption) (by assumption))).symm | exact (congrArg Prod.fst (lis1_f (by assumption) (by assumption) (by assumption) (by assumption) (by assumption))).symm
                    have hP : va_P D vwCl (wP cI cZ a n pl nw ns ((foldN (lis1 lr sr (σ 5 sr) hd ch) (k + 1) (σ, κ)).1) (up2 ((foldN (lis1 lr sr (σ 5 sr) hd ch) k (σ, κ)).2) 2 k (σ 5 sr))) G := Eq.mp (congrArg (fun z9 => va_P D vwCl (wP cI cZ a n pl nw ns z9 (up2 ((foldN (lis1 lr sr (σ 5 sr) hd ch) k (σ, κ)).2) 2 k (σ 5 sr))) G) hw9) hP
                    clear hw9
                    have hw9 : up2 ((foldN (lis1 lr sr (σ 5 sr) hd ch) k (σ, κ)).2) 2 k (σ 5 sr) = (foldN (lis1 lr sr (σ 5 sr) hd ch) (k + 1) (σ, κ)).2 := by first | exact (congrArg Prod.snd (lis1_a (by assumption))).symm | exact (congrArg Prod.snd (lis1_b (by assumption))).symm | exact (congrArg Prod.snd (lis1_c (by assumption))).symm | exact (congrArg Prod.snd (lis1_d (by assumption) (by assumption) (by assumption) (by assumption))).symm | exact (congrArg Prod.snd (lis1_e (by assumption) (by assumption) (by assumption) (by assumption) (by assumption))).symm | exact (congrArg Prod.snd (lis1_f (by assumption) (by assumption) (by assumption) (by assumption) (by assumption))).symm
                    have hP : va_P D vwCl (wP cI cZ a n pl nw ns ((foldN (lis1 lr sr (σ 5 sr) hd ch) (k + 1) (σ, κ)).1) ((foldN (lis1 lr sr (σ 5 sr) hd ch) (k + 1) (σ, κ)).2)) G := Eq.mp (congrArg (fun z9 => va_P D vwCl (wP cI cZ a n pl nw ns ((foldN (lis1 lr sr (σ 5 sr) hd ch) (k + 1) (σ, κ)).1) z9) G) hw9) hP
                    clear hw9
                    have hl9 : lv_has ls 9 [(6, .int (nI (k + 1))), (5, .int (zI ch)), (4, .int hd), (3, .int (σ 5 sr)), (0, .ref (a 0)), (1, .int (nI sr)), (2, .int (nI lr))] := lv_sub hl [0, 3, 4, 5, 6, 7, 8] rfl
                    exact ih56 (k + 1) hd ch (by omega) (by omega) (by omega) (by omega) G locs hP hS ls hl9
                  · skip
                    refine lv_aload_n hx hb dX0_listenTo_138 rfl (lv_at hl 6 rfl) ?_
                    refine li_gf0 hx hb hX0 hown hK hP 0 rfl 11 (by decide) f40 rfl dX0_listenTo_139 ?_
                    refine lv_iload hx hb dX0_listenTo_142 (lv_at hl 1 rfl) ?_
                    refine lv_iload hx hb dX0_listenTo_144 (lv_at hl 3 rfl) ?_
                    refine li_zeq (tgt := 159) hx hb dX0_listenTo_146 (by decide) (fun c32 => ?_) (fun c32 => ?_)
                    · skip
                      refine lv_iload hx hb dX0_listenTo_159 (lv_at hl 0 rfl) ?_
                      refine li_ist hx hb hK hP hA.D hS 10 0 rfl rfl (by omega) (by decide) stP_16 dX0_listenTo_161 (fun G locs hP hS => ?_)
                      refine lv_iinc (v := nI (k + 1)) (lv' := [(6, .int (nI (k + 1))), (8, .int (((foldN (lis1 lr sr (σ 5 sr) hd ch) k (σ, κ)).2) 1 (6 * sr + k))), (7, .int (nI (6 * lr + k))), (5, .int (zI ch)), (4, .int hd), (3, .int (σ 5 sr)), (0, .ref (a 0)), (1, .int (nI sr)), (2, .int (nI lr))]) hx hb dX0_listenTo_162 hl (k := 2) rfl (nI_inc _ _) (by decide) rfl (fun ls hl => ?_)
                      refine lv_goto (tgt := 56) hx hb dX0_listenTo_165 (by decide) ?_
                      have hw9 : up2 ((foldN (lis1 lr sr (σ 5 sr) hd ch) k (σ, κ)).1) 16 (6 * lr + k) (((foldN (lis1 lr sr (σ 5 sr) hd ch) k (σ, κ)).2) 1 (6 * sr + k)) = (foldN (lis1 lr sr (σ 5 sr) hd ch) (k + 1) (σ, κ)).1 := by first | exact (congrArg Prod.fst (lis1_a (by assumption))).symm | exact (congrArg Prod.fst (lis1_b (by assumption))).symm | exact (congrArg Prod.fst (lis1_c (by assumption))).symm | exact (congrArg Prod.fst (lis1_d (by assumption) (by assumption) (by assumption) (by assumption))).symm | exact (congrArg Prod.fst (lis1_e (by assumption) (by assumption) (by assumption) (by assumption) (by assumption))).symm | exact (congrArg Prod.fst (lis1_f (by assumption) (by assumption) (by assumption) (by assumption) (by assumption))).symm
                      have hP : va_P D vwCl (wP cI cZ a n pl nw ns ((foldN (lis1 lr sr (σ 5 sr) hd ch) (k + 1) (σ, κ)).1) (up2 ((foldN (lis1 lr sr (σ 5 sr) hd ch) k (σ, κ)).2) 2 k (σ 5 sr))) G := Eq.mp (congrArg (fun z9 => va_P D vwCl (wP cI cZ a n pl nw ns z9 (up2 ((foldN (lis1 lr sr (σ 5 sr) hd ch) k (σ, κ)).2) 2 k (σ 5 sr))) G) hw9) hP
                      clear hw9
                      have hw9 : up2 ((foldN (lis1 lr sr (σ 5 sr) hd ch) k (σ, κ)).2) 2 k (σ 5 sr) = (foldN (lis1 lr sr (σ 5 sr) hd ch) (k + 1) (σ, κ)).2 := by first | exact (congrArg Prod.snd (lis1_a (by assumption))).symm | exact (congrArg Prod.snd (lis1_b (by assumption))).symm | exact (congrArg Prod.snd (lis1_c (by assumption))).symm | exact (congrArg Prod.snd (lis1_d (by assumption) (by assumption) (by assumption) (by assumption))).symm | exact (congrArg Prod.snd (lis1_e (by assumption) (by assumption) (by assumption) (by assumption) (by assumption))).symm | exact (congrArg Prod.snd (lis1_f (by assumption) (by assumption) (by assumption) (by assumption) (by assumption))).symm
                      have hP : va_P D vwCl (wP cI cZ a n pl nw ns ((foldN (lis1 lr sr (σ 5 sr) hd ch) (k + 1) (σ, κ)).1) ((foldN (lis1 lr sr (σ 5 sr) hd ch) (k + 1) (σ, κ)).2)) G := Eq.mp (congrArg (fun z9 => va_P D vwCl (wP cI cZ a n pl nw ns ((foldN (lis1 lr sr (σ 5 sr) hd ch) (k + 1) (σ, κ)).1) z9) G) hw9) hP
                      clear hw9
                      have hl9 : lv_has ls 9 [(6, .int (nI (k + 1))), (5, .int (zI ch)), (4, .int hd), (3, .int (σ 5 sr)), (0, .ref (a 0)), (1, .int (nI sr)), (2, .int (nI lr))] := lv_sub hl [0, 3, 4, 5, 6, 7, 8] rfl
                      exact ih56 (k + 1) hd ch (by omega) (by omega) (by omega) (by omega) G locs hP hS ls hl9
                    · skip
                      refine lv_iload hx hb dX0_listenTo_149 (lv_at hl 0 rfl) ?_
                      refine lv_bipush (v := nI 99) hx hb dX0_listenTo_151 rfl ?_
                      refine lv_irem hx hb dX0_listenTo_153 (by decide) ?_
                      refine li_topi (show (((foldN (lis1 lr sr (σ 5 sr) hd ch) k (σ, κ)).2) 1 (6 * sr + k)) - (((foldN (lis1 lr sr (σ 5 sr) hd ch) k (σ, κ)).2) 1 (6 * sr + k)) / (nI 99) * (nI 99) = rem99 ((((foldN (lis1 lr sr (σ 5 sr) hd ch) k (σ, κ)).2) 1 (6 * sr + k))) from rfl) ?_
                      refine lv_iconst (v := nI 1) hx hb dX0_listenTo_154 rfl ?_
                      refine lv_iadd hx hb dX0_listenTo_155 ?_
                      refine lv_goto (tgt := 161) hx hb dX0_listenTo_156 (by decide) ?_
                      refine li_ist hx hb hK hP hA.D hS 10 0 rfl rfl (by omega) (by decide) stP_16 dX0_listenTo_161 (fun G locs hP hS => ?_)
                      refine lv_iinc (v := nI (k + 1)) (lv' := [(6, .int (nI (k + 1))), (8, .int (((foldN (lis1 lr sr (σ 5 sr) hd ch) k (σ, κ)).2) 1 (6 * sr + k))), (7, .int (nI (6 * lr + k))), (5, .int (zI ch)), (4, .int hd), (3, .int (σ 5 sr)), (0, .ref (a 0)), (1, .int (nI sr)), (2, .int (nI lr))]) hx hb dX0_listenTo_162 hl (k := 2) rfl (nI_inc _ _) (by decide) rfl (fun ls hl => ?_)
                      refine lv_goto (tgt := 56) hx hb dX0_listenTo_165 (by decide) ?_
                      have hw9 : up2 ((foldN (lis1 lr sr (σ 5 sr) hd ch) k (σ, κ)).1) 16 (6 * lr + k) ((rem99 ((((foldN (lis1 lr sr (σ 5 sr) hd ch) k (σ, κ)).2) 1 (6 * sr + k)))) + (nI 1)) = (foldN (lis1 lr sr (σ 5 sr) hd ch) (k + 1) (σ, κ)).1 := by first | exact (congrArg Prod.fst (lis1_a (by assumption))).symm | exact (congrArg Prod.fst (lis1_b (by assumption))).symm | exact (congrArg Prod.fst (lis1_c (by assumption))).symm | exact (congrArg Prod.fst (lis1_d (by assumption) (by assumption) (by assumption) (by assumption))).symm | exact (congrArg Prod.fst (lis1_e (by assumption) (by assumption) (by assumption) (by assumption) (by assumption))).symm | exact (congrArg Prod.fst (lis1_f (by assumption) (by assumption) (by assumption) (by assumption) (by assumption))).symm
                      have hP : va_P D vwCl (wP cI cZ a n pl nw ns ((foldN (lis1 lr sr (σ 5 sr) hd ch) (k + 1) (σ, κ)).1) (up2 ((foldN (lis1 lr sr (σ 5 sr) hd ch) k (σ, κ)).2) 2 k (σ 5 sr))) G := Eq.mp (congrArg (fun z9 => va_P D vwCl (wP cI cZ a n pl nw ns z9 (up2 ((foldN (lis1 lr sr (σ 5 sr) hd ch) k (σ, κ)).2) 2 k (σ 5 sr))) G) hw9) hP
                      clear hw9
                      have hw9 : up2 ((foldN (lis1 lr sr (σ 5 sr) hd ch) k (σ, κ)).2) 2 k (σ 5 sr) = (foldN (lis1 lr sr (σ 5 sr) hd ch) (k + 1) (σ, κ)).2 := by first | exact (congrArg Prod.snd (lis1_a (by assumption))).symm | exact (congrArg Prod.snd (lis1_b (by assumption))).symm | exact (congrArg Prod.snd (lis1_c (by assumption))).symm | exact (congrArg Prod.snd (lis1_d (by assumption) (by assumption) (by assumption) (by assumption))).symm | exact (congrArg Prod.snd (lis1_e (by assumption) (by assumption) (by assumption) (by assumption) (by assumption))).symm | exact (congrArg Prod.snd (lis1_f (by assumption) (by assumption) (by assumption) (by assumption) (by assumption))).symm
                      have hP : va_P D vwCl (wP cI cZ a n pl nw ns ((foldN (lis1 lr sr (σ 5 sr) hd ch) (k + 1) (σ, κ)).1) ((foldN (lis1 lr sr (σ 5 sr) hd ch) (k + 1) (σ, κ)).2)) G := Eq.mp (congrArg (fun z9 => va_P D vwCl (wP cI cZ a n pl nw ns ((foldN (lis1 lr sr (σ 5 sr) hd ch) (k + 1) (σ, κ)).1) z9) G) hw9) hP
                      clear hw9
                      have hl9 : lv_has ls 9 [(6, .int (nI (k + 1))), (5, .int (zI ch)), (4, .int hd), (3, .int (σ 5 sr)), (0, .ref (a 0)), (1, .int (nI sr)), (2, .int (nI lr))] := lv_sub hl [0, 3, 4, 5, 6, 7, 8] rfl
                      exact ih56 (k + 1) hd ch (by omega) (by omega) (by omega) (by omega) G locs hP hS ls hl9
      have hw9 : σ = (foldN (lis1 lr sr (σ 5 sr) (σ 5 sr) false) 0 (σ, κ)).1 := rfl
      have hP : va_P D vwCl (wP cI cZ a n pl nw ns ((foldN (lis1 lr sr (σ 5 sr) (σ 5 sr) false) 0 (σ, κ)).1) κ) H := Eq.mp (congrArg (fun z9 => va_P D vwCl (wP cI cZ a n pl nw ns z9 κ) H) hw9) hP
      clear hw9
      have hw9 : κ = (foldN (lis1 lr sr (σ 5 sr) (σ 5 sr) false) 0 (σ, κ)).2 := rfl
      have hP : va_P D vwCl (wP cI cZ a n pl nw ns ((foldN (lis1 lr sr (σ 5 sr) (σ 5 sr) false) 0 (σ, κ)).1) ((foldN (lis1 lr sr (σ 5 sr) (σ 5 sr) false) 0 (σ, κ)).2)) H := Eq.mp (congrArg (fun z9 => va_P D vwCl (wP cI cZ a n pl nw ns ((foldN (lis1 lr sr (σ 5 sr) (σ 5 sr) false) 0 (σ, κ)).1) z9) H) hw9) hP
      clear hw9
      have hl9 : lv_has ls 9 [(6, .int (nI 0)), (5, .int (nI 0)), (4, .int (σ 5 sr)), (3, .int (σ 5 sr)), (0, .ref (a 0)), (1, .int (nI sr)), (2, .int (nI lr))] := lv_sub hl [0, 1, 2, 3, 4, 5, 6] rfl
      have hl9 : lv_has ls 9 [(6, .int (nI 0)), (5, .int (zI false)), (4, .int (σ 5 sr)), (3, .int (σ 5 sr)), (0, .ref (a 0)), (1, .int (nI sr)), (2, .int (nI lr))] := lv_re hl9 1 rfl (show nI 0 = zI false from rfl)
      have hl9 : lv_has ls 9 [(6, .int (nI 0)), (5, .int (zI false)), (4, .int (σ 5 sr)), (3, .int (σ 5 sr)), (0, .ref (a 0)), (1, .int (nI sr)), (2, .int (nI lr))] := lv_re hl9 2 rfl (show σ 5 sr = (σ 5 sr) from by simp [c1, c25])
      exact L56_26 ((ns - 0) + 1) 0 (σ 5 sr) false (Nat.lt_succ_self _) (by omega) (by first | exact (hrd_t (by assumption)).symm | exact (hrd_f (by assumption)).symm) (by first | exact (chg_c (by assumption) (by assumption)).symm | exact (chg_a (by assumption)).symm | exact (chg_b (by assumption)).symm) H locs hP hS ls hl9
    · skip
      refine lv_aload_n hx hb dX0_listenTo_37 rfl (lv_at hl 2 rfl) ?_
      refine li_gf0 hx hb hX0 hown hK hP 0 rfl 6 (by decide) f24 rfl dX0_listenTo_38 ?_
      refine lv_iload_n hx hb dX0_listenTo_41 rfl (lv_at hl 3 rfl) ?_
      refine li_zld hx hb hK hP 5 1 rfl rfl (by omega) (by decide) dX0_listenTo_42 ?_
      refine lv_if_eq (tgt := 50) hx hb dX0_listenTo_43 (by decide) (fun c33 => ?_) (fun c33 => ?_)
      · skip
        refine lv_iconst (v := nI 0) hx hb dX0_listenTo_50 rfl ?_
        refine lv_istore (lv' := [(5, .int (nI 0)), (4, .int (σ 5 sr)), (3, .int (σ 5 sr)), (0, .ref (a 0)), (1, .int (nI sr)), (2, .int (nI lr))]) hx hb dX0_listenTo_51 hl (by decide) rfl (fun ls hl => ?_)
        refine lv_iconst (v := nI 0) hx hb dX0_listenTo_53 rfl ?_
        refine lv_istore (lv' := [(6, .int (nI 0)), (5, .int (nI 0)), (4, .int (σ 5 sr)), (3, .int (σ 5 sr)), (0, .ref (a 0)), (1, .int (nI sr)), (2, .int (nI lr))]) hx hb dX0_listenTo_54 hl (by decide) rfl (fun ls hl => ?_)
        have L56_34 : ∀ (fuel : Nat) (k : Nat) (hd : Int32) (ch : Bool), (ns - k) < fuel → (k ≤ ns) → (hd = hrd σ lr sr) → (ch = chg σ lr sr) → ∀ (G : Heap) (locs : List Loc), va_P D vwCl (wP cI cZ a n pl nw ns ((foldN (lis1 lr sr (σ 5 sr) hd ch) k (σ, κ)).1) ((foldN (lis1 lr sr (σ 5 sr) hd ch) k (σ, κ)).2)) G → va_S A H G locs → ∀ (ls : Array Slot), lv_has ls 9 [(6, .int (nI k)), (5, .int (zI ch)), (4, .int hd), (3, .int (σ 5 sr)), (0, .ref (a 0)), (1, .int (nI sr)), (2, .int (nI lr))] → W p l e ({ frames := 1, cells := 0, slots := 0, locals := 21 } : Room) s m args below meth c G locs 0 0 Q (F0 m 56 ls []) := by
          intro fuel
          induction fuel with
          | zero =>
            intro k hd ch hfuel
            exact absurd hfuel (Nat.not_lt_zero _)
          | succ fuel ih56 =>
            intro k hd ch hfuel56 hk hhd hch G locs hP hS ls hl
            refine lv_iload hx hb dX0_listenTo_56 (lv_at hl 0 rfl) ?_
            refine lv_aload_n hx hb dX0_listenTo_58 rfl (lv_at hl 4 rfl) ?_
            refine li_gf0 hx hb hX0 hown hK hP 0 rfl 0 (by decide) f58 rfl dX0_listenTo_59 ?_
            refine li_gf1 hx hb hX1 hown hK hP 16 rfl 9 (by decide) f97 rfl dX0_listenTo_62 ?_
            refine li_ge (tgt := 168) hx hb dX0_listenTo_65 (by decide) (by omega) (by omega) (fun c35 => ?_) (fun c35 => ?_)
            · skip
              have hw9 : (foldN (lis1 lr sr (σ 5 sr) hd ch) k (σ, κ)).1 = (lisF lr sr ns (σ, κ)).1 := by rw [show k = ns by omega, hhd, hch]; rfl
              have hP : va_P D vwCl (wP cI cZ a n pl nw ns ((lisF lr sr ns (σ, κ)).1) ((foldN (lis1 lr sr (σ 5 sr) hd ch) k (σ, κ)).2)) G := Eq.mp (congrArg (fun z9 => va_P D vwCl (wP cI cZ a n pl nw ns z9 ((foldN (lis1 lr sr (σ 5 sr) hd ch) k (σ, κ)).2)) G) hw9) hP
              clear hw9
              have hw9 : (foldN (lis1 lr sr (σ 5 sr) hd ch) k (σ, κ)).2 = (lisF lr sr ns (σ, κ)).2 := by rw [show k = ns by omega, hhd, hch]; rfl
              have hP : va_P D vwCl (wP cI cZ a n pl nw ns ((lisF lr sr ns (σ, κ)).1) ((lisF lr sr ns (σ, κ)).2)) G := Eq.mp (congrArg (fun z9 => va_P D vwCl (wP cI cZ a n pl nw ns ((lisF lr sr ns (σ, κ)).1) z9) G) hw9) hP
              clear hw9
              exact hEnd 168 ls G locs dX0_listenTo_168 hP hS
            · skip
              refine lv_iload_n hx hb dX0_listenTo_68 rfl (lv_at hl 6 rfl) ?_
              refine lv_iload hx hb dX0_listenTo_69 (lv_at hl 0 rfl) ?_
              refine roSN (As := [.int (nI lr), .int (nI k)]) hx hb hml hown hts (c_X2_cellOf l D cI cZ cL cO a n pl nw ns ((foldN (lis1 lr sr (σ 5 sr) hd ch) k (σ, κ)).1) ((foldN (lis1 lr sr (σ 5 sr) hd ch) k (σ, κ)).2) G lr k (hB)) ⟨va_cnB 2 hts gX0_listenTo_X2_cellOf_n104 rfl rfl rfl hE.1 g4 (by decide +kernel) ⟨by decide, by decide⟩, g5, trivial⟩ hK hE hP rfl hl.1 rfl (Nat.le_of_ble_eq_true rfl) hS dX0_listenTo_71 ⟨Nat.zero_le _, Nat.zero_le _⟩ (fun locs hS => ?_)
              refine lv_istore (lv' := [(7, .int (nI (6 * lr + k))), (6, .int (nI k)), (5, .int (zI ch)), (4, .int hd), (3, .int (σ 5 sr)), (0, .ref (a 0)), (1, .int (nI sr)), (2, .int (nI lr))]) hx hb dX0_listenTo_74 hl (by decide) rfl (fun ls hl => ?_)
              refine lv_aload_n hx hb dX0_listenTo_76 rfl (lv_at hl 5 rfl) ?_
              refine li_gf0 hx hb hX0 hown hK hP 0 rfl 13 (by decide) f46 rfl dX0_listenTo_77 ?_
              refine lv_iload_n hx hb dX0_listenTo_80 rfl (lv_at hl 6 rfl) ?_
              refine lv_iload hx hb dX0_listenTo_81 (lv_at hl 1 rfl) ?_
              refine roSN (As := [.int (nI sr), .int (nI k)]) hx hb hml hown hts (c_X2_cellOf l D cI cZ cL cO a n pl nw ns ((foldN (lis1 lr sr (σ 5 sr) hd ch) k (σ, κ)).1) ((foldN (lis1 lr sr (σ 5 sr) hd ch) k (σ, κ)).2) G sr k (hB)) ⟨va_cnB 2 hts gX0_listenTo_X2_cellOf_n104 rfl rfl rfl hE.1 g4 (by decide +kernel) ⟨by decide, by decide⟩, g5, trivial⟩ hK hE hP rfl hl.1 rfl (Nat.le_of_ble_eq_true rfl) hS dX0_listenTo_83 ⟨Nat.zero_le _, Nat.zero_le _⟩ (fun locs hS => ?_)
              refine li_ild hx hb hK hP 12 0 rfl rfl (by omega) (by decide) dX0_listenTo_86 ?_
              refine lv_istore (lv' := [(8, .int (((foldN (lis1 lr sr (σ 5 sr) hd ch) k (σ, κ)).2) 1 (6 * sr + k))), (7, .int (nI (6 * lr + k))), (6, .int (nI k)), (5, .int (zI ch)), (4, .int hd), (3, .int (σ 5 sr)), (0, .ref (a 0)), (1, .int (nI sr)), (2, .int (nI lr))]) hx hb dX0_listenTo_87 hl (by decide) rfl (fun ls hl => ?_)
              refine lv_aload_n hx hb dX0_listenTo_89 rfl (lv_at hl 6 rfl) ?_
              refine li_gf0 hx hb hX0 hown hK hP 0 rfl 13 (by decide) f46 rfl dX0_listenTo_90 ?_
              refine lv_iload hx hb dX0_listenTo_93 (lv_at hl 1 rfl) ?_
              refine li_ild hx hb hK hP 12 0 rfl rfl (by omega) (by decide) dX0_listenTo_95 ?_
              refine lv_if_ne (tgt := 162) hx hb dX0_listenTo_96 (by decide) (fun c36 => ?_) (fun c36 => ?_)
              · skip
                refine lv_iinc (v := nI (k + 1)) (lv' := [(6, .int (nI (k + 1))), (8, .int (((foldN (lis1 lr sr (σ 5 sr) hd ch) k (σ, κ)).2) 1 (6 * sr + k))), (7, .int (nI (6 * lr + k))), (5, .int (zI ch)), (4, .int hd), (3, .int (σ 5 sr)), (0, .ref (a 0)), (1, .int (nI sr)), (2, .int (nI lr))]) hx hb dX0_listenTo_162 hl (k := 2) rfl (nI_inc _ _) (by decide) rfl (fun ls hl => ?_)
                refine lv_goto (tgt := 56) hx hb dX0_listenTo_165 (by decide) ?_
                have hw9 : (foldN (lis1 lr sr (σ 5 sr) hd ch) k (σ, κ)).1 = (foldN (lis1 lr sr (σ 5 sr) hd ch) (k + 1) (σ, κ)).1 := by first | exact (congrArg Prod.fst (lis1_a (by assumption))).symm | exact (congrArg Prod.fst (lis1_b (by assumption))).symm | exact (congrArg Prod.fst (lis1_c (by assumption))).symm | exact (congrArg Prod.fst (lis1_d (by assumption) (by assumption) (by assumption) (by assumption))).symm | exact (congrArg Prod.fst (lis1_e (by assumption) (by assumption) (by assumption) (by assumption) (by assumption))).symm | exact (congrArg Prod.fst (lis1_f (by assumption) (by assumption) (by assumption) (by assumption) (by assumption))).symm
                have hP : va_P D vwCl (wP cI cZ a n pl nw ns ((foldN (lis1 lr sr (σ 5 sr) hd ch) (k + 1) (σ, κ)).1) ((foldN (lis1 lr sr (σ 5 sr) hd ch) k (σ, κ)).2)) G := Eq.mp (congrArg (fun z9 => va_P D vwCl (wP cI cZ a n pl nw ns z9 ((foldN (lis1 lr sr (σ 5 sr) hd ch) k (σ, κ)).2)) G) hw9) hP
                clear hw9
                have hw9 : (foldN (lis1 lr sr (σ 5 sr) hd ch) k (σ, κ)).2 = (foldN (lis1 lr sr (σ 5 sr) hd ch) (k + 1) (σ, κ)).2 := by first | exact (congrArg Prod.snd (lis1_a (by assumption))).symm | exact (congrArg Prod.snd (lis1_b (by assumption))).symm | exact (congrArg Prod.snd (lis1_c (by assumption))).symm | exact (congrArg Prod.snd (lis1_d (by assumption) (by assumption) (by assumption) (by assumption))).symm | exact (congrArg Prod.snd (lis1_e (by assumption) (by assumption) (by assumption) (by assumption) (by assumption))).symm | exact (congrArg Prod.snd (lis1_f (by assumption) (by assumption) (by assumption) (by assumption) (by assumption))).symm
                have hP : va_P D vwCl (wP cI cZ a n pl nw ns ((foldN (lis1 lr sr (σ 5 sr) hd ch) (k + 1) (σ, κ)).1) ((foldN (lis1 lr sr (σ 5 sr) hd ch) (k + 1) (σ, κ)).2)) G := Eq.mp (congrArg (fun z9 => va_P D vwCl (wP cI cZ a n pl nw ns ((foldN (lis1 lr sr (σ 5 sr) hd ch) (k + 1) (σ, κ)).1) z9) G) hw9) hP
                clear hw9
                have hl9 : lv_has ls 9 [(6, .int (nI (k + 1))), (5, .int (zI ch)), (4, .int hd), (3, .int (σ 5 sr)), (0, .ref (a 0)), (1, .int (nI sr)), (2, .int (nI lr))] := lv_sub hl [0, 3, 4, 5, 6, 7, 8] rfl
                exact ih56 (k + 1) hd ch (by omega) (by omega) (by omega) (by omega) G locs hP hS ls hl9
              · skip
                refine lv_iload hx hb dX0_listenTo_99 (lv_at hl 0 rfl) ?_
                refine lv_if_eq (tgt := 162) hx hb dX0_listenTo_101 (by decide) (fun c37 => ?_) (fun c37 => ?_)
                · skip
                  refine lv_iinc (v := nI (k + 1)) (lv' := [(6, .int (nI (k + 1))), (8, .int (((foldN (lis1 lr sr (σ 5 sr) hd ch) k (σ, κ)).2) 1 (6 * sr + k))), (7, .int (nI (6 * lr + k))), (5, .int (zI ch)), (4, .int hd), (3, .int (σ 5 sr)), (0, .ref (a 0)), (1, .int (nI sr)), (2, .int (nI lr))]) hx hb dX0_listenTo_162 hl (k := 2) rfl (nI_inc _ _) (by decide) rfl (fun ls hl => ?_)
                  refine lv_goto (tgt := 56) hx hb dX0_listenTo_165 (by decide) ?_
                  have hw9 : (foldN (lis1 lr sr (σ 5 sr) hd ch) k (σ, κ)).1 = (foldN (lis1 lr sr (σ 5 sr) hd ch) (k + 1) (σ, κ)).1 := by first | exact (congrArg Prod.fst (lis1_a (by assumption))).symm | exact (congrArg Prod.fst (lis1_b (by assumption))).symm | exact (congrArg Prod.fst (lis1_c (by assumption))).symm | exact (congrArg Prod.fst (lis1_d (by assumption) (by assumption) (by assumption) (by assumption))).symm | exact (congrArg Prod.fst (lis1_e (by assumption) (by assumption) (by assumption) (by assumption) (by assumption))).symm | exact (congrArg Prod.fst (lis1_f (by assumption) (by assumption) (by assumption) (by assumption) (by assumption))).symm
                  have hP : va_P D vwCl (wP cI cZ a n pl nw ns ((foldN (lis1 lr sr (σ 5 sr) hd ch) (k + 1) (σ, κ)).1) ((foldN (lis1 lr sr (σ 5 sr) hd ch) k (σ, κ)).2)) G := Eq.mp (congrArg (fun z9 => va_P D vwCl (wP cI cZ a n pl nw ns z9 ((foldN (lis1 lr sr (σ 5 sr) hd ch) k (σ, κ)).2)) G) hw9) hP
                  clear hw9
                  have hw9 : (foldN (lis1 lr sr (σ 5 sr) hd ch) k (σ, κ)).2 = (foldN (lis1 lr sr (σ 5 sr) hd ch) (k + 1) (σ, κ)).2 := by first | exact (congrArg Prod.snd (lis1_a (by assumption))).symm | exact (congrArg Prod.snd (lis1_b (by assumption))).symm | exact (congrArg Prod.snd (lis1_c (by assumption))).symm | exact (congrArg Prod.snd (lis1_d (by assumption) (by assumption) (by assumption) (by assumption))).symm | exact (congrArg Prod.snd (lis1_e (by assumption) (by assumption) (by assumption) (by assumption) (by assumption))).symm | exact (congrArg Prod.snd (lis1_f (by assumption) (by assumption) (by assumption) (by assumption) (by assumption))).symm
                  have hP : va_P D vwCl (wP cI cZ a n pl nw ns ((foldN (lis1 lr sr (σ 5 sr) hd ch) (k + 1) (σ, κ)).1) ((foldN (lis1 lr sr (σ 5 sr) hd ch) (k + 1) (σ, κ)).2)) G := Eq.mp (congrArg (fun z9 => va_P D vwCl (wP cI cZ a n pl nw ns ((foldN (lis1 lr sr (σ 5 sr) hd ch) (k + 1) (σ, κ)).1) z9) G) hw9) hP
                  clear hw9
                  have hl9 : lv_has ls 9 [(6, .int (nI (k + 1))), (5, .int (zI ch)), (4, .int hd), (3, .int (σ 5 sr)), (0, .ref (a 0)), (1, .int (nI sr)), (2, .int (nI lr))] := lv_sub hl [0, 3, 4, 5, 6, 7, 8] rfl
                  exact ih56 (k + 1) hd ch (by omega) (by omega) (by omega) (by omega) G locs hP hS ls hl9
                · skip
                  refine lv_iload_n hx hb dX0_listenTo_104 rfl (lv_at hl 5 rfl) ?_
                  refine lv_aload_n hx hb dX0_listenTo_105 rfl (lv_at hl 6 rfl) ?_
                  refine li_gf0 hx hb hX0 hown hK hP 0 rfl 14 (by decide) f49 rfl dX0_listenTo_106 ?_
                  refine lv_iload hx hb dX0_listenTo_109 (lv_at hl 2 rfl) ?_
                  refine li_ild hx hb hK hP 13 0 rfl rfl (by omega) (by decide) dX0_listenTo_111 ?_
                  refine lv_icmp_le (tgt := 162) hx hb dX0_listenTo_112 (by decide) (fun c38 => ?_) (fun c38 => ?_)
                  · skip
                    refine lv_iinc (v := nI (k + 1)) (lv' := [(6, .int (nI (k + 1))), (8, .int (((foldN (lis1 lr sr (σ 5 sr) hd ch) k (σ, κ)).2) 1 (6 * sr + k))), (7, .int (nI (6 * lr + k))), (5, .int (zI ch)), (4, .int hd), (3, .int (σ 5 sr)), (0, .ref (a 0)), (1, .int (nI sr)), (2, .int (nI lr))]) hx hb dX0_listenTo_162 hl (k := 2) rfl (nI_inc _ _) (by decide) rfl (fun ls hl => ?_)
                    refine lv_goto (tgt := 56) hx hb dX0_listenTo_165 (by decide) ?_
                    have hw9 : (foldN (lis1 lr sr (σ 5 sr) hd ch) k (σ, κ)).1 = (foldN (lis1 lr sr (σ 5 sr) hd ch) (k + 1) (σ, κ)).1 := by first | exact (congrArg Prod.fst (lis1_a (by assumption))).symm | exact (congrArg Prod.fst (lis1_b (by assumption))).symm | exact (congrArg Prod.fst (lis1_c (by assumption))).symm | exact (congrArg Prod.fst (lis1_d (by assumption) (by assumption) (by assumption) (by assumption))).symm | exact (congrArg Prod.fst (lis1_e (by assumption) (by assumption) (by assumption) (by assumption) (by assumption))).symm | exact (congrArg Prod.fst (lis1_f (by assumption) (by assumption) (by assumption) (by assumption) (by assumption))).symm
                    have hP : va_P D vwCl (wP cI cZ a n pl nw ns ((foldN (lis1 lr sr (σ 5 sr) hd ch) (k + 1) (σ, κ)).1) ((foldN (lis1 lr sr (σ 5 sr) hd ch) k (σ, κ)).2)) G := Eq.mp (congrArg (fun z9 => va_P D vwCl (wP cI cZ a n pl nw ns z9 ((foldN (lis1 lr sr (σ 5 sr) hd ch) k (σ, κ)).2)) G) hw9) hP
                    clear hw9
                    have hw9 : (foldN (lis1 lr sr (σ 5 sr) hd ch) k (σ, κ)).2 = (foldN (lis1 lr sr (σ 5 sr) hd ch) (k + 1) (σ, κ)).2 := by first | exact (congrArg Prod.snd (lis1_a (by assumption))).symm | exact (congrArg Prod.snd (lis1_b (by assumption))).symm | exact (congrArg Prod.snd (lis1_c (by assumption))).symm | exact (congrArg Prod.snd (lis1_d (by assumption) (by assumption) (by assumption) (by assumption))).symm | exact (congrArg Prod.snd (lis1_e (by assumption) (by assumption) (by assumption) (by assumption) (by assumption))).symm | exact (congrArg Prod.snd (lis1_f (by assumption) (by assumption) (by assumption) (by assumption) (by assumption))).symm
                    have hP : va_P D vwCl (wP cI cZ a n pl nw ns ((foldN (lis1 lr sr (σ 5 sr) hd ch) (k + 1) (σ, κ)).1) ((foldN (lis1 lr sr (σ 5 sr) hd ch) (k + 1) (σ, κ)).2)) G := Eq.mp (congrArg (fun z9 => va_P D vwCl (wP cI cZ a n pl nw ns ((foldN (lis1 lr sr (σ 5 sr) hd ch) (k + 1) (σ, κ)).1) z9) G) hw9) hP
                    clear hw9
                    have hl9 : lv_has ls 9 [(6, .int (nI (k + 1))), (5, .int (zI ch)), (4, .int hd), (3, .int (σ 5 sr)), (0, .ref (a 0)), (1, .int (nI sr)), (2, .int (nI lr))] := lv_sub hl [0, 3, 4, 5, 6, 7, 8] rfl
                    exact ih56 (k + 1) hd ch (by omega) (by omega) (by omega) (by omega) G locs hP hS ls hl9
                  · skip
                    refine lv_aload_n hx hb dX0_listenTo_115 rfl (lv_at hl 6 rfl) ?_
                    refine li_gf0 hx hb hX0 hown hK hP 0 rfl 14 (by decide) f49 rfl dX0_listenTo_116 ?_
                    refine lv_iload hx hb dX0_listenTo_119 (lv_at hl 2 rfl) ?_
                    refine lv_iload_n hx hb dX0_listenTo_121 rfl (lv_at hl 5 rfl) ?_
                    refine li_ist hx hb hK hP hA.D hS 13 0 rfl rfl (by omega) (by decide) stK_2 dX0_listenTo_122 (fun G locs hP hS => ?_)
                    refine lv_iload hx hb dX0_listenTo_123 (lv_at hl 4 rfl) ?_
                    refine lv_aload_n hx hb dX0_listenTo_125 rfl (lv_at hl 6 rfl) ?_
                    refine li_gf0 hx hb hX0 hown hK hP 0 rfl 0 (by decide) f58 rfl dX0_listenTo_126 ?_
                    refine li_gf1 hx hb hX1 hown hK hP 16 rfl 10 (by decide) f175 rfl dX0_listenTo_129 ?_
                    refine lv_iload hx hb dX0_listenTo_132 (lv_at hl 2 rfl) ?_
                    refine li_ild hx hb hK hP 23 0 rfl rfl (by omega) (by decide) dX0_listenTo_134 ?_
                    refine lv_icmp_lt (tgt := 162) hx hb dX0_listenTo_135 (by decide) (fun c39 => ?_) (fun c39 => ?_)
                    · skip
                      refine lv_iinc (v := nI (k + 1)) (lv' := [(6, .int (nI (k + 1))), (8, .int (((foldN (lis1 lr sr (σ 5 sr) hd ch) k (σ, κ)).2) 1 (6 * sr + k))), (7, .int (nI (6 * lr + k))), (5, .int (zI ch)), (4, .int hd), (3, .int (σ 5 sr)), (0, .ref (a 0)), (1, .int (nI sr)), (2, .int (nI lr))]) hx hb dX0_listenTo_162 hl (k := 2) rfl (nI_inc _ _) (by decide) rfl (fun ls hl => ?_)
                      refine lv_goto (tgt := 56) hx hb dX0_listenTo_165 (by decide) ?_
                      have hw9 : (foldN (lis1 lr sr (σ 5 sr) hd ch) k (σ, κ)).1 = (foldN (lis1 lr sr (σ 5 sr) hd ch) (k + 1) (σ, κ)).1 := by first | exact (congrArg Prod.fst (lis1_a (by assumption))).symm | exact (congrArg Prod.fst (lis1_b (by assumption))).symm | exact (congrArg Prod.fst (lis1_c (by assumption))).symm | exact (congrArg Prod.fst (lis1_d (by assumption) (by assumption) (by assumption) (by assumption))).symm | exact (congrArg Prod.fst (lis1_e (by assumption) (by assumption) (by assumption) (by assumption) (by assumption))).symm | exact (congrArg Prod.fst (lis1_f (by assumption) (by assumption) (by assumption) (by assumption) (by assumption))).symm
                      have hP : va_P D vwCl (wP cI cZ a n pl nw ns ((foldN (lis1 lr sr (σ 5 sr) hd ch) (k + 1) (σ, κ)).1) (up2 ((foldN (lis1 lr sr (σ 5 sr) hd ch) k (σ, κ)).2) 2 k (σ 5 sr))) G := Eq.mp (congrArg (fun z9 => va_P D vwCl (wP cI cZ a n pl nw ns z9 (up2 ((foldN (lis1 lr sr (σ 5 sr) hd ch) k (σ, κ)).2) 2 k (σ 5 sr))) G) hw9) hP
                      clear hw9
                      have hw9 : up2 ((foldN (lis1 lr sr (σ 5 sr) hd ch) k (σ, κ)).2) 2 k (σ 5 sr) = (foldN (lis1 lr sr (σ 5 sr) hd ch) (k + 1) (σ, κ)).2 := by first | exact (congrArg Prod.snd (lis1_a (by assumption))).symm | exact (congrArg Prod.snd (lis1_b (by assumption))).symm | exact (congrArg Prod.snd (lis1_c (by assumption))).symm | exact (congrArg Prod.snd (lis1_d (by assumption) (by assumption) (by assumption) (by assumption))).symm | exact (congrArg Prod.snd (lis1_e (by assumption) (by assumption) (by assumption) (by assumption) (by assumption))).symm | exact (congrArg Prod.snd (lis1_f (by assumption) (by assumption) (by assumption) (by assumption) (by assumption))).symm
                      have hP : va_P D vwCl (wP cI cZ a n pl nw ns ((foldN (lis1 lr sr (σ 5 sr) hd ch) (k + 1) (σ, κ)).1) ((foldN (lis1 lr sr (σ 5 sr) hd ch) (k + 1) (σ, κ)).2)) G := Eq.mp (congrArg (fun z9 => va_P D vwCl (wP cI cZ a n pl nw ns ((foldN (lis1 lr sr (σ 5 sr) hd ch) (k + 1) (σ, κ)).1) z9) G) hw9) hP
                      clear hw9
                      have hl9 : lv_has ls 9 [(6, .int (nI (k + 1))), (5, .int (zI ch)), (4, .int hd), (3, .int (σ 5 sr)), (0, .ref (a 0)), (1, .int (nI sr)), (2, .int (nI lr))] := lv_sub hl [0, 3, 4, 5, 6, 7, 8] rfl
                      exact ih56 (k + 1) hd ch (by omega) (by omega) (by omega) (by omega) G locs hP hS ls hl9
                    · skip
                      refine lv_aload_n hx hb dX0_listenTo_138 rfl (lv_at hl 6 rfl) ?_
                      refine li_gf0 hx hb hX0 hown hK hP 0 rfl 11 (by decide) f40 rfl dX0_listenTo_139 ?_
                      refine lv_iload hx hb dX0_listenTo_142 (lv_at hl 1 rfl) ?_
                      refine lv_iload hx hb dX0_listenTo_144 (lv_at hl 3 rfl) ?_
                      refine li_zeq (tgt := 159) hx hb dX0_listenTo_146 (by decide) (fun c40 => ?_) (fun c40 => ?_)
                      · skip
                        refine lv_iload hx hb dX0_listenTo_159 (lv_at hl 0 rfl) ?_
                        refine li_ist hx hb hK hP hA.D hS 10 0 rfl rfl (by omega) (by decide) stP_16 dX0_listenTo_161 (fun G locs hP hS => ?_)
                        refine lv_iinc (v := nI (k + 1)) (lv' := [(6, .int (nI (k + 1))), (8, .int (((foldN (lis1 lr sr (σ 5 sr) hd ch) k (σ, κ)).2) 1 (6 * sr + k))), (7, .int (nI (6 * lr + k))), (5, .int (zI ch)), (4, .int hd), (3, .int (σ 5 sr)), (0, .ref (a 0)), (1, .int (nI sr)), (2, .int (nI lr))]) hx hb dX0_listenTo_162 hl (k := 2) rfl (nI_inc _ _) (by decide) rfl (fun ls hl => ?_)
                        refine lv_goto (tgt := 56) hx hb dX0_listenTo_165 (by decide) ?_
                        have hw9 : up2 ((foldN (lis1 lr sr (σ 5 sr) hd ch) k (σ, κ)).1) 16 (6 * lr + k) (((foldN (lis1 lr sr (σ 5 sr) hd ch) k (σ, κ)).2) 1 (6 * sr + k)) = (foldN (lis1 lr sr (σ 5 sr) hd ch) (k + 1) (σ, κ)).1 := by first | exact (congrArg Prod.fst (lis1_a (by assumption))).symm | exact (congrArg Prod.fst (lis1_b (by assumption))).symm | exact (congrArg Prod.fst (lis1_c (by assumption))).symm | exact (congrArg Prod.fst (lis1_d (by assumption) (by assumption) (by assumption) (by assumption))).symm | exact (congrArg Prod.fst (lis1_e (by assumption) (by assumption) (by assumption) (by assumption) (by assumption))).symm | exact (congrArg Prod.fst (lis1_f (by assumption) (by assumption) (by assumption) (by assumption) (by assumption))).symm
                        have hP : va_P D vwCl (wP cI cZ a n pl nw ns ((foldN (lis1 lr sr (σ 5 sr) hd ch) (k + 1) (σ, κ)).1) (up2 ((foldN (lis1 lr sr (σ 5 sr) hd ch) k (σ, κ)).2) 2 k (σ 5 sr))) G := Eq.mp (congrArg (fun z9 => va_P D vwCl (wP cI cZ a n pl nw ns z9 (up2 ((foldN (lis1 lr sr (σ 5 sr) hd ch) k (σ, κ)).2) 2 k (σ 5 sr))) G) hw9) hP
                        clear hw9
                        have hw9 : up2 ((foldN (lis1 lr sr (σ 5 sr) hd ch) k (σ, κ)).2) 2 k (σ 5 sr) = (foldN (lis1 lr sr (σ 5 sr) hd ch) (k + 1) (σ, κ)).2 := by first | exact (congrArg Prod.snd (lis1_a (by assumption))).symm | exact (congrArg Prod.snd (lis1_b (by assumption))).symm | exact (congrArg Prod.snd (lis1_c (by assumption))).symm | exact (congrArg Prod.snd (lis1_d (by assumption) (by assumption) (by assumption) (by assumption))).symm | exact (congrArg Prod.snd (lis1_e (by assumption) (by assumption) (by assumption) (by assumption) (by assumption))).symm | exact (congrArg Prod.snd (lis1_f (by assumption) (by assumption) (by assumption) (by assumption) (by assumption))).symm
                        have hP : va_P D vwCl (wP cI cZ a n pl nw ns ((foldN (lis1 lr sr (σ 5 sr) hd ch) (k + 1) (σ, κ)).1) ((foldN (lis1 lr sr (σ 5 sr) hd ch) (k + 1) (σ, κ)).2)) G := Eq.mp (congrArg (fun z9 => va_P D vwCl (wP cI cZ a n pl nw ns ((foldN (lis1 lr sr (σ 5 sr) hd ch) (k + 1) (σ, κ)).1) z9) G) hw9) hP
                        clear hw9
                        have hl9 : lv_has ls 9 [(6, .int (nI (k + 1))), (5, .int (zI ch)), (4, .int hd), (3, .int (σ 5 sr)), (0, .ref (a 0)), (1, .int (nI sr)), (2, .int (nI lr))] := lv_sub hl [0, 3, 4, 5, 6, 7, 8] rfl
                        exact ih56 (k + 1) hd ch (by omega) (by omega) (by omega) (by omega) G locs hP hS ls hl9
                      · skip
                        refine lv_iload hx hb dX0_listenTo_149 (lv_at hl 0 rfl) ?_
                        refine lv_bipush (v := nI 99) hx hb dX0_listenTo_151 rfl ?_
                        refine lv_irem hx hb dX0_listenTo_153 (by decide) ?_
                        refine li_topi (show (((foldN (lis1 lr sr (σ 5 sr) hd ch) k (σ, κ)).2) 1 (6 * sr + k)) - (((foldN (lis1 lr sr (σ 5 sr) hd ch) k (σ, κ)).2) 1 (6 * sr + k)) / (nI 99) * (nI 99) = rem99 ((((foldN (lis1 lr sr (σ 5 sr) hd ch) k (σ, κ)).2) 1 (6 * sr + k))) from rfl) ?_
                        refine lv_iconst (v := nI 1) hx hb dX0_listenTo_154 rfl ?_
                        refine lv_iadd hx hb dX0_listenTo_155 ?_
                        refine lv_goto (tgt := 161) hx hb dX0_listenTo_156 (by decide) ?_
                        refine li_ist hx hb hK hP hA.D hS 10 0 rfl rfl (by omega) (by decide) stP_16 dX0_listenTo_161 (fun G locs hP hS => ?_)
                        refine lv_iinc (v := nI (k + 1)) (lv' := [(6, .int (nI (k + 1))), (8, .int (((foldN (lis1 lr sr (σ 5 sr) hd ch) k (σ, κ)).2) 1 (6 * sr + k))), (7, .int (nI (6 * lr + k))), (5, .int (zI ch)), (4, .int hd), (3, .int (σ 5 sr)), (0, .ref (a 0)), (1, .int (nI sr)), (2, .int (nI lr))]) hx hb dX0_listenTo_162 hl (k := 2) rfl (nI_inc _ _) (by decide) rfl (fun ls hl => ?_)
                        refine lv_goto (tgt := 56) hx hb dX0_listenTo_165 (by decide) ?_
                        have hw9 : up2 ((foldN (lis1 lr sr (σ 5 sr) hd ch) k (σ, κ)).1) 16 (6 * lr + k) ((rem99 ((((foldN (lis1 lr sr (σ 5 sr) hd ch) k (σ, κ)).2) 1 (6 * sr + k)))) + (nI 1)) = (foldN (lis1 lr sr (σ 5 sr) hd ch) (k + 1) (σ, κ)).1 := by first | exact (congrArg Prod.fst (lis1_a (by assumption))).symm | exact (congrArg Prod.fst (lis1_b (by assumption))).symm | exact (congrArg Prod.fst (lis1_c (by assumption))).symm | exact (congrArg Prod.fst (lis1_d (by assumption) (by assumption) (by assumption) (by assumption))).symm | exact (congrArg Prod.fst (lis1_e (by assumption) (by assumption) (by assumption) (by assumption) (by assumption))).symm | exact (congrArg Prod.fst (lis1_f (by assumption) (by assumption) (by assumption) (by assumption) (by assumption))).symm
                        have hP : va_P D vwCl (wP cI cZ a n pl nw ns ((foldN (lis1 lr sr (σ 5 sr) hd ch) (k + 1) (σ, κ)).1) (up2 ((foldN (lis1 lr sr (σ 5 sr) hd ch) k (σ, κ)).2) 2 k (σ 5 sr))) G := Eq.mp (congrArg (fun z9 => va_P D vwCl (wP cI cZ a n pl nw ns z9 (up2 ((foldN (lis1 lr sr (σ 5 sr) hd ch) k (σ, κ)).2) 2 k (σ 5 sr))) G) hw9) hP
                        clear hw9
                        have hw9 : up2 ((foldN (lis1 lr sr (σ 5 sr) hd ch) k (σ, κ)).2) 2 k (σ 5 sr) = (foldN (lis1 lr sr (σ 5 sr) hd ch) (k + 1) (σ, κ)).2 := by first | exact (congrArg Prod.snd (lis1_a (by assumption))).symm | exact (congrArg Prod.snd (lis1_b (by assumption))).symm | exact (congrArg Prod.snd (lis1_c (by assumption))).symm | exact (congrArg Prod.snd (lis1_d (by assumption) (by assumption) (by assumption) (by assumption))).symm | exact (congrArg Prod.snd (lis1_e (by assumption) (by assumption) (by assumption) (by assumption) (by assumption))).symm | exact (congrArg Prod.snd (lis1_f (by assumption) (by assumption) (by assumption) (by assumption) (by assumption))).symm
                        have hP : va_P D vwCl (wP cI cZ a n pl nw ns ((foldN (lis1 lr sr (σ 5 sr) hd ch) (k + 1) (σ, κ)).1) ((foldN (lis1 lr sr (σ 5 sr) hd ch) (k + 1) (σ, κ)).2)) G := Eq.mp (congrArg (fun z9 => va_P D vwCl (wP cI cZ a n pl nw ns ((foldN (lis1 lr sr (σ 5 sr) hd ch) (k + 1) (σ, κ)).1) z9) G) hw9) hP
                        clear hw9
                        have hl9 : lv_has ls 9 [(6, .int (nI (k + 1))), (5, .int (zI ch)), (4, .int hd), (3, .int (σ 5 sr)), (0, .ref (a 0)), (1, .int (nI sr)), (2, .int (nI lr))] := lv_sub hl [0, 3, 4, 5, 6, 7, 8] rfl
                        exact ih56 (k + 1) hd ch (by omega) (by omega) (by omega) (by omega) G locs hP hS ls hl9
        have hw9 : σ = (foldN (lis1 lr sr (σ 5 sr) (σ 5 sr) false) 0 (σ, κ)).1 := rfl
        have hP : va_P D vwCl (wP cI cZ a n pl nw ns ((foldN (lis1 lr sr (σ 5 sr) (σ 5 sr) false) 0 (σ, κ)).1) κ) H := Eq.mp (congrArg (fun z9 => va_P D vwCl (wP cI cZ a n pl nw ns z9 κ) H) hw9) hP
        clear hw9
        have hw9 : κ = (foldN (lis1 lr sr (σ 5 sr) (σ 5 sr) false) 0 (σ, κ)).2 := rfl
        have hP : va_P D vwCl (wP cI cZ a n pl nw ns ((foldN (lis1 lr sr (σ 5 sr) (σ 5 sr) false) 0 (σ, κ)).1) ((foldN (lis1 lr sr (σ 5 sr) (σ 5 sr) false) 0 (σ, κ)).2)) H := Eq.mp (congrArg (fun z9 => va_P D vwCl (wP cI cZ a n pl nw ns ((foldN (lis1 lr sr (σ 5 sr) (σ 5 sr) false) 0 (σ, κ)).1) z9) H) hw9) hP
        clear hw9
        have hl9 : lv_has ls 9 [(6, .int (nI 0)), (5, .int (nI 0)), (4, .int (σ 5 sr)), (3, .int (σ 5 sr)), (0, .ref (a 0)), (1, .int (nI sr)), (2, .int (nI lr))] := lv_sub hl [0, 1, 2, 3, 4, 5, 6] rfl
        have hl9 : lv_has ls 9 [(6, .int (nI 0)), (5, .int (zI false)), (4, .int (σ 5 sr)), (3, .int (σ 5 sr)), (0, .ref (a 0)), (1, .int (nI sr)), (2, .int (nI lr))] := lv_re hl9 1 rfl (show nI 0 = zI false from rfl)
        have hl9 : lv_has ls 9 [(6, .int (nI 0)), (5, .int (zI false)), (4, .int (σ 5 sr)), (3, .int (σ 5 sr)), (0, .ref (a 0)), (1, .int (nI sr)), (2, .int (nI lr))] := lv_re hl9 2 rfl (show σ 5 sr = (σ 5 sr) from by simp [c1, c25, c33])
        exact L56_34 ((ns - 0) + 1) 0 (σ 5 sr) false (Nat.lt_succ_self _) (by omega) (by first | exact (hrd_t (by assumption)).symm | exact (hrd_f (by assumption)).symm) (by first | exact (chg_c (by assumption) (by assumption)).symm | exact (chg_a (by assumption)).symm | exact (chg_b (by assumption)).symm) H locs hP hS ls hl9
      · skip
        refine lv_iconst (v := nI 1) hx hb dX0_listenTo_46 rfl ?_
        refine lv_goto (tgt := 51) hx hb dX0_listenTo_47 (by decide) ?_
        refine lv_istore (lv' := [(5, .int (nI 1)), (4, .int (σ 5 sr)), (3, .int (σ 5 sr)), (0, .ref (a 0)), (1, .int (nI sr)), (2, .int (nI lr))]) hx hb dX0_listenTo_51 hl (by decide) rfl (fun ls hl => ?_)
        refine lv_iconst (v := nI 0) hx hb dX0_listenTo_53 rfl ?_
        refine lv_istore (lv' := [(6, .int (nI 0)), (5, .int (nI 1)), (4, .int (σ 5 sr)), (3, .int (σ 5 sr)), (0, .ref (a 0)), (1, .int (nI sr)), (2, .int (nI lr))]) hx hb dX0_listenTo_54 hl (by decide) rfl (fun ls hl => ?_)
        have L56_41 : ∀ (fuel : Nat) (k : Nat) (hd : Int32) (ch : Bool), (ns - k) < fuel → (k ≤ ns) → (hd = hrd σ lr sr) → (ch = chg σ lr sr) → ∀ (G : Heap) (locs : List Loc), va_P D vwCl (wP cI cZ a n pl nw ns ((foldN (lis1 lr sr (σ 5 sr) hd ch) k (σ, κ)).1) ((foldN (lis1 lr sr (σ 5 sr) hd ch) k (σ, κ)).2)) G → va_S A H G locs → ∀ (ls : Array Slot), lv_has ls 9 [(6, .int (nI k)), (5, .int (zI ch)), (4, .int hd), (3, .int (σ 5 sr)), (0, .ref (a 0)), (1, .int (nI sr)), (2, .int (nI lr))] → W p l e ({ frames := 1, cells := 0, slots := 0, locals := 21 } : Room) s m args below meth c G locs 0 0 Q (F0 m 56 ls []) := by
          intro fuel
          induction fuel with
          | zero =>
            intro k hd ch hfuel
            exact absurd hfuel (Nat.not_lt_zero _)
          | succ fuel ih56 =>
            intro k hd ch hfuel56 hk hhd hch G locs hP hS ls hl
            refine lv_iload hx hb dX0_listenTo_56 (lv_at hl 0 rfl) ?_
            refine lv_aload_n hx hb dX0_listenTo_58 rfl (lv_at hl 4 rfl) ?_
            refine li_gf0 hx hb hX0 hown hK hP 0 rfl 0 (by decide) f58 rfl dX0_listenTo_59 ?_
            refine li_gf1 hx hb hX1 hown hK hP 16 rfl 9 (by decide) f97 rfl dX0_listenTo_62 ?_
            refine li_ge (tgt := 168) hx hb dX0_listenTo_65 (by decide) (by omega) (by omega) (fun c42 => ?_) (fun c42 => ?_)
            · skip
              have hw9 : (foldN (lis1 lr sr (σ 5 sr) hd ch) k (σ, κ)).1 = (lisF lr sr ns (σ, κ)).1 := by rw [show k = ns by omega, hhd, hch]; rfl
              have hP : va_P D vwCl (wP cI cZ a n pl nw ns ((lisF lr sr ns (σ, κ)).1) ((foldN (lis1 lr sr (σ 5 sr) hd ch) k (σ, κ)).2)) G := Eq.mp (congrArg (fun z9 => va_P D vwCl (wP cI cZ a n pl nw ns z9 ((foldN (lis1 lr sr (σ 5 sr) hd ch) k (σ, κ)).2)) G) hw9) hP
              clear hw9
              have hw9 : (foldN (lis1 lr sr (σ 5 sr) hd ch) k (σ, κ)).2 = (lisF lr sr ns (σ, κ)).2 := by rw [show k = ns by omega, hhd, hch]; rfl
              have hP : va_P D vwCl (wP cI cZ a n pl nw ns ((lisF lr sr ns (σ, κ)).1) ((lisF lr sr ns (σ, κ)).2)) G := Eq.mp (congrArg (fun z9 => va_P D vwCl (wP cI cZ a n pl nw ns ((lisF lr sr ns (σ, κ)).1) z9) G) hw9) hP
              clear hw9
              exact hEnd 168 ls G locs dX0_listenTo_168 hP hS
            · skip
              refine lv_iload_n hx hb dX0_listenTo_68 rfl (lv_at hl 6 rfl) ?_
              refine lv_iload hx hb dX0_listenTo_69 (lv_at hl 0 rfl) ?_
              refine roSN (As := [.int (nI lr), .int (nI k)]) hx hb hml hown hts (c_X2_cellOf l D cI cZ cL cO a n pl nw ns ((foldN (lis1 lr sr (σ 5 sr) hd ch) k (σ, κ)).1) ((foldN (lis1 lr sr (σ 5 sr) hd ch) k (σ, κ)).2) G lr k (hB)) ⟨va_cnB 2 hts gX0_listenTo_X2_cellOf_n104 rfl rfl rfl hE.1 g4 (by decide +kernel) ⟨by decide, by decide⟩, g5, trivial⟩ hK hE hP rfl hl.1 rfl (Nat.le_of_ble_eq_true rfl) hS dX0_listenTo_71 ⟨Nat.zero_le _, Nat.zero_le _⟩ (fun locs hS => ?_)
              refine lv_istore (lv' := [(7, .int (nI (6 * lr + k))), (6, .int (nI k)), (5, .int (zI ch)), (4, .int hd), (3, .int (σ 5 sr)), (0, .ref (a 0)), (1, .int (nI sr)), (2, .int (nI lr))]) hx hb dX0_listenTo_74 hl (by decide) rfl (fun ls hl => ?_)
              refine lv_aload_n hx hb dX0_listenTo_76 rfl (lv_at hl 5 rfl) ?_
              refine li_gf0 hx hb hX0 hown hK hP 0 rfl 13 (by decide) f46 rfl dX0_listenTo_77 ?_
              refine lv_iload_n hx hb dX0_listenTo_80 rfl (lv_at hl 6 rfl) ?_
              refine lv_iload hx hb dX0_listenTo_81 (lv_at hl 1 rfl) ?_
              refine roSN (As := [.int (nI sr), .int (nI k)]) hx hb hml hown hts (c_X2_cellOf l D cI cZ cL cO a n pl nw ns ((foldN (lis1 lr sr (σ 5 sr) hd ch) k (σ, κ)).1) ((foldN (lis1 lr sr (σ 5 sr) hd ch) k (σ, κ)).2) G sr k (hB)) ⟨va_cnB 2 hts gX0_listenTo_X2_cellOf_n104 rfl rfl rfl hE.1 g4 (by decide +kernel) ⟨by decide, by decide⟩, g5, trivial⟩ hK hE hP rfl hl.1 rfl (Nat.le_of_ble_eq_true rfl) hS dX0_listenTo_83 ⟨Nat.zero_le _, Nat.zero_le _⟩ (fun locs hS => ?_)
              refine li_ild hx hb hK hP 12 0 rfl rfl (by omega) (by decide) dX0_listenTo_86 ?_
              refine lv_istore (lv' := [(8, .int (((foldN (lis1 lr sr (σ 5 sr) hd ch) k (σ, κ)).2) 1 (6 * sr + k))), (7, .int (nI (6 * lr + k))), (6, .int (nI k)), (5, .int (zI ch)), (4, .int hd), (3, .int (σ 5 sr)), (0, .ref (a 0)), (1, .int (nI sr)), (2, .int (nI lr))]) hx hb dX0_listenTo_87 hl (by decide) rfl (fun ls hl => ?_)
              refine lv_aload_n hx hb dX0_listenTo_89 rfl (lv_at hl 6 rfl) ?_
              refine li_gf0 hx hb hX0 hown hK hP 0 rfl 13 (by decide) f46 rfl dX0_listenTo_90 ?_
              refine lv_iload hx hb dX0_listenTo_93 (lv_at hl 1 rfl) ?_
              refine li_ild hx hb hK hP 12 0 rfl rfl (by omega) (by decide) dX0_listenTo_95 ?_
              refine lv_if_ne (tgt := 162) hx hb dX0_listenTo_96 (by decide) (fun c43 => ?_) (fun c43 => ?_)
              · skip
                refine lv_iinc (v := nI (k + 1)) (lv' := [(6, .int (nI (k + 1))), (8, .int (((foldN (lis1 lr sr (σ 5 sr) hd ch) k (σ, κ)).2) 1 (6 * sr + k))), (7, .int (nI (6 * lr + k))), (5, .int (zI ch)), (4, .int hd), (3, .int (σ 5 sr)), (0, .ref (a 0)), (1, .int (nI sr)), (2, .int (nI lr))]) hx hb dX0_listenTo_162 hl (k := 2) rfl (nI_inc _ _) (by decide) rfl (fun ls hl => ?_)
                refine lv_goto (tgt := 56) hx hb dX0_listenTo_165 (by decide) ?_
                have hw9 : (foldN (lis1 lr sr (σ 5 sr) hd ch) k (σ, κ)).1 = (foldN (lis1 lr sr (σ 5 sr) hd ch) (k + 1) (σ, κ)).1 := by first | exact (congrArg Prod.fst (lis1_a (by assumption))).symm | exact (congrArg Prod.fst (lis1_b (by assumption))).symm | exact (congrArg Prod.fst (lis1_c (by assumption))).symm | exact (congrArg Prod.fst (lis1_d (by assumption) (by assumption) (by assumption) (by assumption))).symm | exact (congrArg Prod.fst (lis1_e (by assumption) (by assumption) (by assumption) (by assumption) (by assumption))).symm | exact (congrArg Prod.fst (lis1_f (by assumption) (by assumption) (by assumption) (by assumption) (by assumption))).symm
                have hP : va_P D vwCl (wP cI cZ a n pl nw ns ((foldN (lis1 lr sr (σ 5 sr) hd ch) (k + 1) (σ, κ)).1) ((foldN (lis1 lr sr (σ 5 sr) hd ch) k (σ, κ)).2)) G := Eq.mp (congrArg (fun z9 => va_P D vwCl (wP cI cZ a n pl nw ns z9 ((foldN (lis1 lr sr (σ 5 sr) hd ch) k (σ, κ)).2)) G) hw9) hP
                clear hw9
                have hw9 : (foldN (lis1 lr sr (σ 5 sr) hd ch) k (σ, κ)).2 = (foldN (lis1 lr sr (σ 5 sr) hd ch) (k + 1) (σ, κ)).2 := by first | exact (congrArg Prod.snd (lis1_a (by assumption))).symm | exact (congrArg Prod.snd (lis1_b (by assumption))).symm | exact (congrArg Prod.snd (lis1_c (by assumption))).symm | exact (congrArg Prod.snd (lis1_d (by assumption) (by assumption) (by assumption) (by assumption))).symm | exact (congrArg Prod.snd (lis1_e (by assumption) (by assumption) (by assumption) (by assumption) (by assumption))).symm | exact (congrArg Prod.snd (lis1_f (by assumption) (by assumption) (by assumption) (by assumption) (by assumption))).symm
                have hP : va_P D vwCl (wP cI cZ a n pl nw ns ((foldN (lis1 lr sr (σ 5 sr) hd ch) (k + 1) (σ, κ)).1) ((foldN (lis1 lr sr (σ 5 sr) hd ch) (k + 1) (σ, κ)).2)) G := Eq.mp (congrArg (fun z9 => va_P D vwCl (wP cI cZ a n pl nw ns ((foldN (lis1 lr sr (σ 5 sr) hd ch) (k + 1) (σ, κ)).1) z9) G) hw9) hP
                clear hw9
                have hl9 : lv_has ls 9 [(6, .int (nI (k + 1))), (5, .int (zI ch)), (4, .int hd), (3, .int (σ 5 sr)), (0, .ref (a 0)), (1, .int (nI sr)), (2, .int (nI lr))] := lv_sub hl [0, 3, 4, 5, 6, 7, 8] rfl
                exact ih56 (k + 1) hd ch (by omega) (by omega) (by omega) (by omega) G locs hP hS ls hl9
              · skip
                refine lv_iload hx hb dX0_listenTo_99 (lv_at hl 0 rfl) ?_
                refine lv_if_eq (tgt := 162) hx hb dX0_listenTo_101 (by decide) (fun c44 => ?_) (fun c44 => ?_)
                · skip
                  refine lv_iinc (v := nI (k + 1)) (lv' := [(6, .int (nI (k + 1))), (8, .int (((foldN (lis1 lr sr (σ 5 sr) hd ch) k (σ, κ)).2) 1 (6 * sr + k))), (7, .int (nI (6 * lr + k))), (5, .int (zI ch)), (4, .int hd), (3, .int (σ 5 sr)), (0, .ref (a 0)), (1, .int (nI sr)), (2, .int (nI lr))]) hx hb dX0_listenTo_162 hl (k := 2) rfl (nI_inc _ _) (by decide) rfl (fun ls hl => ?_)
                  refine lv_goto (tgt := 56) hx hb dX0_listenTo_165 (by decide) ?_
                  have hw9 : (foldN (lis1 lr sr (σ 5 sr) hd ch) k (σ, κ)).1 = (foldN (lis1 lr sr (σ 5 sr) hd ch) (k + 1) (σ, κ)).1 := by first | exact (congrArg Prod.fst (lis1_a (by assumption))).symm | exact (congrArg Prod.fst (lis1_b (by assumption))).symm | exact (congrArg Prod.fst (lis1_c (by assumption))).symm | exact (congrArg Prod.fst (lis1_d (by assumption) (by assumption) (by assumption) (by assumption))).symm | exact (congrArg Prod.fst (lis1_e (by assumption) (by assumption) (by assumption) (by assumption) (by assumption))).symm | exact (congrArg Prod.fst (lis1_f (by assumption) (by assumption) (by assumption) (by assumption) (by assumption))).symm
                  have hP : va_P D vwCl (wP cI cZ a n pl nw ns ((foldN (lis1 lr sr (σ 5 sr) hd ch) (k + 1) (σ, κ)).1) ((foldN (lis1 lr sr (σ 5 sr) hd ch) k (σ, κ)).2)) G := Eq.mp (congrArg (fun z9 => va_P D vwCl (wP cI cZ a n pl nw ns z9 ((foldN (lis1 lr sr (σ 5 sr) hd ch) k (σ, κ)).2)) G) hw9) hP
                  clear hw9
                  have hw9 : (foldN (lis1 lr sr (σ 5 sr) hd ch) k (σ, κ)).2 = (foldN (lis1 lr sr (σ 5 sr) hd ch) (k + 1) (σ, κ)).2 := by first | exact (congrArg Prod.snd (lis1_a (by assumption))).symm | exact (congrArg Prod.snd (lis1_b (by assumption))).symm | exact (congrArg Prod.snd (lis1_c (by assumption))).symm | exact (congrArg Prod.snd (lis1_d (by assumption) (by assumption) (by assumption) (by assumption))).symm | exact (congrArg Prod.snd (lis1_e (by assumption) (by assumption) (by assumption) (by assumption) (by assumption))).symm | exact (congrArg Prod.snd (lis1_f (by assumption) (by assumption) (by assumption) (by assumption) (by assumption))).symm
                  have hP : va_P D vwCl (wP cI cZ a n pl nw ns ((foldN (lis1 lr sr (σ 5 sr) hd ch) (k + 1) (σ, κ)).1) ((foldN (lis1 lr sr (σ 5 sr) hd ch) (k + 1) (σ, κ)).2)) G := Eq.mp (congrArg (fun z9 => va_P D vwCl (wP cI cZ a n pl nw ns ((foldN (lis1 lr sr (σ 5 sr) hd ch) (k + 1) (σ, κ)).1) z9) G) hw9) hP
                  clear hw9
                  have hl9 : lv_has ls 9 [(6, .int (nI (k + 1))), (5, .int (zI ch)), (4, .int hd), (3, .int (σ 5 sr)), (0, .ref (a 0)), (1, .int (nI sr)), (2, .int (nI lr))] := lv_sub hl [0, 3, 4, 5, 6, 7, 8] rfl
                  exact ih56 (k + 1) hd ch (by omega) (by omega) (by omega) (by omega) G locs hP hS ls hl9
                · skip
                  refine lv_iload_n hx hb dX0_listenTo_104 rfl (lv_at hl 5 rfl) ?_
                  refine lv_aload_n hx hb dX0_listenTo_105 rfl (lv_at hl 6 rfl) ?_
                  refine li_gf0 hx hb hX0 hown hK hP 0 rfl 14 (by decide) f49 rfl dX0_listenTo_106 ?_
                  refine lv_iload hx hb dX0_listenTo_109 (lv_at hl 2 rfl) ?_
                  refine li_ild hx hb hK hP 13 0 rfl rfl (by omega) (by decide) dX0_listenTo_111 ?_
                  refine lv_icmp_le (tgt := 162) hx hb dX0_listenTo_112 (by decide) (fun c45 => ?_) (fun c45 => ?_)
                  · skip
                    refine lv_iinc (v := nI (k + 1)) (lv' := [(6, .int (nI (k + 1))), (8, .int (((foldN (lis1 lr sr (σ 5 sr) hd ch) k (σ, κ)).2) 1 (6 * sr + k))), (7, .int (nI (6 * lr + k))), (5, .int (zI ch)), (4, .int hd), (3, .int (σ 5 sr)), (0, .ref (a 0)), (1, .int (nI sr)), (2, .int (nI lr))]) hx hb dX0_listenTo_162 hl (k := 2) rfl (nI_inc _ _) (by decide) rfl (fun ls hl => ?_)
                    refine lv_goto (tgt := 56) hx hb dX0_listenTo_165 (by decide) ?_
                    have hw9 : (foldN (lis1 lr sr (σ 5 sr) hd ch) k (σ, κ)).1 = (foldN (lis1 lr sr (σ 5 sr) hd ch) (k + 1) (σ, κ)).1 := by first | exact (congrArg Prod.fst (lis1_a (by assumption))).symm | exact (congrArg Prod.fst (lis1_b (by assumption))).symm | exact (congrArg Prod.fst (lis1_c (by assumption))).symm | exact (congrArg Prod.fst (lis1_d (by assumption) (by assumption) (by assumption) (by assumption))).symm | exact (congrArg Prod.fst (lis1_e (by assumption) (by assumption) (by assumption) (by assumption) (by assumption))).symm | exact (congrArg Prod.fst (lis1_f (by assumption) (by assumption) (by assumption) (by assumption) (by assumption))).symm
                    have hP : va_P D vwCl (wP cI cZ a n pl nw ns ((foldN (lis1 lr sr (σ 5 sr) hd ch) (k + 1) (σ, κ)).1) ((foldN (lis1 lr sr (σ 5 sr) hd ch) k (σ, κ)).2)) G := Eq.mp (congrArg (fun z9 => va_P D vwCl (wP cI cZ a n pl nw ns z9 ((foldN (lis1 lr sr (σ 5 sr) hd ch) k (σ, κ)).2)) G) hw9) hP
                    clear hw9
                    have hw9 : (foldN (lis1 lr sr (σ 5 sr) hd ch) k (σ, κ)).2 = (foldN (lis1 lr sr (σ 5 sr) hd ch) (k + 1) (σ, κ)).2 := by first | exact (congrArg Prod.snd (lis1_a (by assumption))).symm | exact (congrArg Prod.snd (lis1_b (by assumption))).symm | exact (congrArg Prod.snd (lis1_c (by assumption))).symm | exact (congrArg Prod.snd (lis1_d (by assumption) (by assumption) (by assumption) (by assumption))).symm | exact (congrArg Prod.snd (lis1_e (by assumption) (by assumption) (by assumption) (by assumption) (by assumption))).symm | exact (congrArg Prod.snd (lis1_f (by assumption) (by assumption) (by assumption) (by assumption) (by assumption))).symm
                    have hP : va_P D vwCl (wP cI cZ a n pl nw ns ((foldN (lis1 lr sr (σ 5 sr) hd ch) (k + 1) (σ, κ)).1) ((foldN (lis1 lr sr (σ 5 sr) hd ch) (k + 1) (σ, κ)).2)) G := Eq.mp (congrArg (fun z9 => va_P D vwCl (wP cI cZ a n pl nw ns ((foldN (lis1 lr sr (σ 5 sr) hd ch) (k + 1) (σ, κ)).1) z9) G) hw9) hP
                    clear hw9
                    have hl9 : lv_has ls 9 [(6, .int (nI (k + 1))), (5, .int (zI ch)), (4, .int hd), (3, .int (σ 5 sr)), (0, .ref (a 0)), (1, .int (nI sr)), (2, .int (nI lr))] := lv_sub hl [0, 3, 4, 5, 6, 7, 8] rfl
                    exact ih56 (k + 1) hd ch (by omega) (by omega) (by omega) (by omega) G locs hP hS ls hl9
                  · skip
                    refine lv_aload_n hx hb dX0_listenTo_115 rfl (lv_at hl 6 rfl) ?_
                    refine li_gf0 hx hb hX0 hown hK hP 0 rfl 14 (by decide) f49 rfl dX0_listenTo_116 ?_
                    refine lv_iload hx hb dX0_listenTo_119 (lv_at hl 2 rfl) ?_
                    refine lv_iload_n hx hb dX0_listenTo_121 rfl (lv_at hl 5 rfl) ?_
                    refine li_ist hx hb hK hP hA.D hS 13 0 rfl rfl (by omega) (by decide) stK_2 dX0_listenTo_122 (fun G locs hP hS => ?_)
                    refine lv_iload hx hb dX0_listenTo_123 (lv_at hl 4 rfl) ?_
                    refine lv_aload_n hx hb dX0_listenTo_125 rfl (lv_at hl 6 rfl) ?_
                    refine li_gf0 hx hb hX0 hown hK hP 0 rfl 0 (by decide) f58 rfl dX0_listenTo_126 ?_
                    refine li_gf1 hx hb hX1 hown hK hP 16 rfl 10 (by decide) f175 rfl dX0_listenTo_129 ?_
                    refine lv_iload hx hb dX0_listenTo_132 (lv_at hl 2 rfl) ?_
                    refine li_ild hx hb hK hP 23 0 rfl rfl (by omega) (by decide) dX0_listenTo_134 ?_
                    refine lv_icmp_lt (tgt := 162) hx hb dX0_listenTo_135 (by decide) (fun c46 => ?_) (fun c46 => ?_)
                    · skip
                      refine lv_iinc (v := nI (k + 1)) (lv' := [(6, .int (nI (k + 1))), (8, .int (((foldN (lis1 lr sr (σ 5 sr) hd ch) k (σ, κ)).2) 1 (6 * sr + k))), (7, .int (nI (6 * lr + k))), (5, .int (zI ch)), (4, .int hd), (3, .int (σ 5 sr)), (0, .ref (a 0)), (1, .int (nI sr)), (2, .int (nI lr))]) hx hb dX0_listenTo_162 hl (k := 2) rfl (nI_inc _ _) (by decide) rfl (fun ls hl => ?_)
                      refine lv_goto (tgt := 56) hx hb dX0_listenTo_165 (by decide) ?_
                      have hw9 : (foldN (lis1 lr sr (σ 5 sr) hd ch) k (σ, κ)).1 = (foldN (lis1 lr sr (σ 5 sr) hd ch) (k + 1) (σ, κ)).1 := by first | exact (congrArg Prod.fst (lis1_a (by assumption))).symm | exact (congrArg Prod.fst (lis1_b (by assumption))).symm | exact (congrArg Prod.fst (lis1_c (by assumption))).symm | exact (congrArg Prod.fst (lis1_d (by assumption) (by assumption) (by assumption) (by assumption))).symm | exact (congrArg Prod.fst (lis1_e (by assumption) (by assumption) (by assumption) (by assumption) (by assumption))).symm | exact (congrArg Prod.fst (lis1_f (by assumption) (by assumption) (by assumption) (by assumption) (by assumption))).symm
                      have hP : va_P D vwCl (wP cI cZ a n pl nw ns ((foldN (lis1 lr sr (σ 5 sr) hd ch) (k + 1) (σ, κ)).1) (up2 ((foldN (lis1 lr sr (σ 5 sr) hd ch) k (σ, κ)).2) 2 k (σ 5 sr))) G := Eq.mp (congrArg (fun z9 => va_P D vwCl (wP cI cZ a n pl nw ns z9 (up2 ((foldN (lis1 lr sr (σ 5 sr) hd ch) k (σ, κ)).2) 2 k (σ 5 sr))) G) hw9) hP
                      clear hw9
                      have hw9 : up2 ((foldN (lis1 lr sr (σ 5 sr) hd ch) k (σ, κ)).2) 2 k (σ 5 sr) = (foldN (lis1 lr sr (σ 5 sr) hd ch) (k + 1) (σ, κ)).2 := by first | exact (congrArg Prod.snd (lis1_a (by assumption))).symm | exact (congrArg Prod.snd (lis1_b (by assumption))).symm | exact (congrArg Prod.snd (lis1_c (by assumption))).symm | exact (congrArg Prod.snd (lis1_d (by assumption) (by assumption) (by assumption) (by assumption))).symm | exact (congrArg Prod.snd (lis1_e (by assumption) (by assumption) (by assumption) (by assumption) (by assumption))).symm | exact (congrArg Prod.snd (lis1_f (by assumption) (by assumption) (by assumption) (by assumption) (by assumption))).symm
                      have hP : va_P D vwCl (wP cI cZ a n pl nw ns ((foldN (lis1 lr sr (σ 5 sr) hd ch) (k + 1) (σ, κ)).1) ((foldN (lis1 lr sr (σ 5 sr) hd ch) (k + 1) (σ, κ)).2)) G := Eq.mp (congrArg (fun z9 => va_P D vwCl (wP cI cZ a n pl nw ns ((foldN (lis1 lr sr (σ 5 sr) hd ch) (k + 1) (σ, κ)).1) z9) G) hw9) hP
                      clear hw9
                      have hl9 : lv_has ls 9 [(6, .int (nI (k + 1))), (5, .int (zI ch)), (4, .int hd), (3, .int (σ 5 sr)), (0, .ref (a 0)), (1, .int (nI sr)), (2, .int (nI lr))] := lv_sub hl [0, 3, 4, 5, 6, 7, 8] rfl
                      exact ih56 (k + 1) hd ch (by omega) (by omega) (by omega) (by omega) G locs hP hS ls hl9
                    · skip
                      refine lv_aload_n hx hb dX0_listenTo_138 rfl (lv_at hl 6 rfl) ?_
                      refine li_gf0 hx hb hX0 hown hK hP 0 rfl 11 (by decide) f40 rfl dX0_listenTo_139 ?_
                      refine lv_iload hx hb dX0_listenTo_142 (lv_at hl 1 rfl) ?_
                      refine lv_iload hx hb dX0_listenTo_144 (lv_at hl 3 rfl) ?_
                      refine li_zeq (tgt := 159) hx hb dX0_listenTo_146 (by decide) (fun c47 => ?_) (fun c47 => ?_)
                      · skip
                        refine lv_iload hx hb dX0_listenTo_159 (lv_at hl 0 rfl) ?_
                        refine li_ist hx hb hK hP hA.D hS 10 0 rfl rfl (by omega) (by decide) stP_16 dX0_listenTo_161 (fun G locs hP hS => ?_)
                        refine lv_iinc (v := nI (k + 1)) (lv' := [(6, .int (nI (k + 1))), (8, .int (((foldN (lis1 lr sr (σ 5 sr) hd ch) k (σ, κ)).2) 1 (6 * sr + k))), (7, .int (nI (6 * lr + k))), (5, .int (zI ch)), (4, .int hd), (3, .int (σ 5 sr)), (0, .ref (a 0)), (1, .int (nI sr)), (2, .int (nI lr))]) hx hb dX0_listenTo_162 hl (k := 2) rfl (nI_inc _ _) (by decide) rfl (fun ls hl => ?_)
                        refine lv_goto (tgt := 56) hx hb dX0_listenTo_165 (by decide) ?_
                        have hw9 : up2 ((foldN (lis1 lr sr (σ 5 sr) hd ch) k (σ, κ)).1) 16 (6 * lr + k) (((foldN (lis1 lr sr (σ 5 sr) hd ch) k (σ, κ)).2) 1 (6 * sr + k)) = (foldN (lis1 lr sr (σ 5 sr) hd ch) (k + 1) (σ, κ)).1 := by first | exact (congrArg Prod.fst (lis1_a (by assumption))).symm | exact (congrArg Prod.fst (lis1_b (by assumption))).symm | exact (congrArg Prod.fst (lis1_c (by assumption))).symm | exact (congrArg Prod.fst (lis1_d (by assumption) (by assumption) (by assumption) (by assumption))).symm | exact (congrArg Prod.fst (lis1_e (by assumption) (by assumption) (by assumption) (by assumption) (by assumption))).symm | exact (congrArg Prod.fst (lis1_f (by assumption) (by assumption) (by assumption) (by assumption) (by assumption))).symm
                        have hP : va_P D vwCl (wP cI cZ a n pl nw ns ((foldN (lis1 lr sr (σ 5 sr) hd ch) (k + 1) (σ, κ)).1) (up2 ((foldN (lis1 lr sr (σ 5 sr) hd ch) k (σ, κ)).2) 2 k (σ 5 sr))) G := Eq.mp (congrArg (fun z9 => va_P D vwCl (wP cI cZ a n pl nw ns z9 (up2 ((foldN (lis1 lr sr (σ 5 sr) hd ch) k (σ, κ)).2) 2 k (σ 5 sr))) G) hw9) hP
                        clear hw9
                        have hw9 : up2 ((foldN (lis1 lr sr (σ 5 sr) hd ch) k (σ, κ)).2) 2 k (σ 5 sr) = (foldN (lis1 lr sr (σ 5 sr) hd ch) (k + 1) (σ, κ)).2 := by first | exact (congrArg Prod.snd (lis1_a (by assumption))).symm | exact (congrArg Prod.snd (lis1_b (by assumption))).symm | exact (congrArg Prod.snd (lis1_c (by assumption))).symm | exact (congrArg Prod.snd (lis1_d (by assumption) (by assumption) (by assumption) (by assumption))).symm | exact (congrArg Prod.snd (lis1_e (by assumption) (by assumption) (by assumption) (by assumption) (by assumption))).symm | exact (congrArg Prod.snd (lis1_f (by assumption) (by assumption) (by assumption) (by assumption) (by assumption))).symm
                        have hP : va_P D vwCl (wP cI cZ a n pl nw ns ((foldN (lis1 lr sr (σ 5 sr) hd ch) (k + 1) (σ, κ)).1) ((foldN (lis1 lr sr (σ 5 sr) hd ch) (k + 1) (σ, κ)).2)) G := Eq.mp (congrArg (fun z9 => va_P D vwCl (wP cI cZ a n pl nw ns ((foldN (lis1 lr sr (σ 5 sr) hd ch) (k + 1) (σ, κ)).1) z9) G) hw9) hP
                        clear hw9
                        have hl9 : lv_has ls 9 [(6, .int (nI (k + 1))), (5, .int (zI ch)), (4, .int hd), (3, .int (σ 5 sr)), (0, .ref (a 0)), (1, .int (nI sr)), (2, .int (nI lr))] := lv_sub hl [0, 3, 4, 5, 6, 7, 8] rfl
                        exact ih56 (k + 1) hd ch (by omega) (by omega) (by omega) (by omega) G locs hP hS ls hl9
                      · skip
                        refine lv_iload hx hb dX0_listenTo_149 (lv_at hl 0 rfl) ?_
                        refine lv_bipush (v := nI 99) hx hb dX0_listenTo_151 rfl ?_
                        refine lv_irem hx hb dX0_listenTo_153 (by decide) ?_
                        refine li_topi (show (((foldN (lis1 lr sr (σ 5 sr) hd ch) k (σ, κ)).2) 1 (6 * sr + k)) - (((foldN (lis1 lr sr (σ 5 sr) hd ch) k (σ, κ)).2) 1 (6 * sr + k)) / (nI 99) * (nI 99) = rem99 ((((foldN (lis1 lr sr (σ 5 sr) hd ch) k (σ, κ)).2) 1 (6 * sr + k))) from rfl) ?_
                        refine lv_iconst (v := nI 1) hx hb dX0_listenTo_154 rfl ?_
                        refine lv_iadd hx hb dX0_listenTo_155 ?_
                        refine lv_goto (tgt := 161) hx hb dX0_listenTo_156 (by decide) ?_
                        refine li_ist hx hb hK hP hA.D hS 10 0 rfl rfl (by omega) (by decide) stP_16 dX0_listenTo_161 (fun G locs hP hS => ?_)
                        refine lv_iinc (v := nI (k + 1)) (lv' := [(6, .int (nI (k + 1))), (8, .int (((foldN (lis1 lr sr (σ 5 sr) hd ch) k (σ, κ)).2) 1 (6 * sr + k))), (7, .int (nI (6 * lr + k))), (5, .int (zI ch)), (4, .int hd), (3, .int (σ 5 sr)), (0, .ref (a 0)), (1, .int (nI sr)), (2, .int (nI lr))]) hx hb dX0_listenTo_162 hl (k := 2) rfl (nI_inc _ _) (by decide) rfl (fun ls hl => ?_)
                        refine lv_goto (tgt := 56) hx hb dX0_listenTo_165 (by decide) ?_
                        have hw9 : up2 ((foldN (lis1 lr sr (σ 5 sr) hd ch) k (σ, κ)).1) 16 (6 * lr + k) ((rem99 ((((foldN (lis1 lr sr (σ 5 sr) hd ch) k (σ, κ)).2) 1 (6 * sr + k)))) + (nI 1)) = (foldN (lis1 lr sr (σ 5 sr) hd ch) (k + 1) (σ, κ)).1 := by first | exact (congrArg Prod.fst (lis1_a (by assumption))).symm | exact (congrArg Prod.fst (lis1_b (by assumption))).symm | exact (congrArg Prod.fst (lis1_c (by assumption))).symm | exact (congrArg Prod.fst (lis1_d (by assumption) (by assumption) (by assumption) (by assumption))).symm | exact (congrArg Prod.fst (lis1_e (by assumption) (by assumption) (by assumption) (by assumption) (by assumption))).symm | exact (congrArg Prod.fst (lis1_f (by assumption) (by assumption) (by assumption) (by assumption) (by assumption))).symm
                        have hP : va_P D vwCl (wP cI cZ a n pl nw ns ((foldN (lis1 lr sr (σ 5 sr) hd ch) (k + 1) (σ, κ)).1) (up2 ((foldN (lis1 lr sr (σ 5 sr) hd ch) k (σ, κ)).2) 2 k (σ 5 sr))) G := Eq.mp (congrArg (fun z9 => va_P D vwCl (wP cI cZ a n pl nw ns z9 (up2 ((foldN (lis1 lr sr (σ 5 sr) hd ch) k (σ, κ)).2) 2 k (σ 5 sr))) G) hw9) hP
                        clear hw9
                        have hw9 : up2 ((foldN (lis1 lr sr (σ 5 sr) hd ch) k (σ, κ)).2) 2 k (σ 5 sr) = (foldN (lis1 lr sr (σ 5 sr) hd ch) (k + 1) (σ, κ)).2 := by first | exact (congrArg Prod.snd (lis1_a (by assumption))).symm | exact (congrArg Prod.snd (lis1_b (by assumption))).symm | exact (congrArg Prod.snd (lis1_c (by assumption))).symm | exact (congrArg Prod.snd (lis1_d (by assumption) (by assumption) (by assumption) (by assumption))).symm | exact (congrArg Prod.snd (lis1_e (by assumption) (by assumption) (by assumption) (by assumption) (by assumption))).symm | exact (congrArg Prod.snd (lis1_f (by assumption) (by assumption) (by assumption) (by assumption) (by assumption))).symm
                        have hP : va_P D vwCl (wP cI cZ a n pl nw ns ((foldN (lis1 lr sr (σ 5 sr) hd ch) (k + 1) (σ, κ)).1) ((foldN (lis1 lr sr (σ 5 sr) hd ch) (k + 1) (σ, κ)).2)) G := Eq.mp (congrArg (fun z9 => va_P D vwCl (wP cI cZ a n pl nw ns ((foldN (lis1 lr sr (σ 5 sr) hd ch) (k + 1) (σ, κ)).1) z9) G) hw9) hP
                        clear hw9
                        have hl9 : lv_has ls 9 [(6, .int (nI (k + 1))), (5, .int (zI ch)), (4, .int hd), (3, .int (σ 5 sr)), (0, .ref (a 0)), (1, .int (nI sr)), (2, .int (nI lr))] := lv_sub hl [0, 3, 4, 5, 6, 7, 8] rfl
                        exact ih56 (k + 1) hd ch (by omega) (by omega) (by omega) (by omega) G locs hP hS ls hl9
        have hw9 : σ = (foldN (lis1 lr sr (σ 5 sr) (σ 5 sr) true) 0 (σ, κ)).1 := rfl
        have hP : va_P D vwCl (wP cI cZ a n pl nw ns ((foldN (lis1 lr sr (σ 5 sr) (σ 5 sr) true) 0 (σ, κ)).1) κ) H := Eq.mp (congrArg (fun z9 => va_P D vwCl (wP cI cZ a n pl nw ns z9 κ) H) hw9) hP
        clear hw9
        have hw9 : κ = (foldN (lis1 lr sr (σ 5 sr) (σ 5 sr) true) 0 (σ, κ)).2 := rfl
        have hP : va_P D vwCl (wP cI cZ a n pl nw ns ((foldN (lis1 lr sr (σ 5 sr) (σ 5 sr) true) 0 (σ, κ)).1) ((foldN (lis1 lr sr (σ 5 sr) (σ 5 sr) true) 0 (σ, κ)).2)) H := Eq.mp (congrArg (fun z9 => va_P D vwCl (wP cI cZ a n pl nw ns ((foldN (lis1 lr sr (σ 5 sr) (σ 5 sr) true) 0 (σ, κ)).1) z9) H) hw9) hP
        clear hw9
        have hl9 : lv_has ls 9 [(6, .int (nI 0)), (5, .int (nI 1)), (4, .int (σ 5 sr)), (3, .int (σ 5 sr)), (0, .ref (a 0)), (1, .int (nI sr)), (2, .int (nI lr))] := lv_sub hl [0, 1, 2, 3, 4, 5, 6] rfl
        have hl9 : lv_has ls 9 [(6, .int (nI 0)), (5, .int (zI true)), (4, .int (σ 5 sr)), (3, .int (σ 5 sr)), (0, .ref (a 0)), (1, .int (nI sr)), (2, .int (nI lr))] := lv_re hl9 1 rfl (show nI 1 = zI true from rfl)
        have hl9 : lv_has ls 9 [(6, .int (nI 0)), (5, .int (zI true)), (4, .int (σ 5 sr)), (3, .int (σ 5 sr)), (0, .ref (a 0)), (1, .int (nI sr)), (2, .int (nI lr))] := lv_re hl9 2 rfl (show σ 5 sr = (σ 5 sr) from by simp [c1, c25, c33])
        exact L56_41 ((ns - 0) + 1) 0 (σ 5 sr) true (Nat.lt_succ_self _) (by omega) (by first | exact (hrd_t (by assumption)).symm | exact (hrd_f (by assumption)).symm) (by first | exact (chg_c (by assumption) (by assumption)).symm | exact (chg_a (by assumption)).symm | exact (chg_b (by assumption)).symm) H locs hP hS ls hl9
