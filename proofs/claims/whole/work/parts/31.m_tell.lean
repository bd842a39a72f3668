/-! the model: what it tells -/
set_option maxHeartbeats 4000000 in
set_option maxRecDepth 100000 in
theorem c_X3_stretchTold (l : Launch) (D : va_G) (cI cZ cL cO : ClassId) (a : Nat → Nat) (th : Int32) (n nw ns : Nat) (σ η : Sg) (H : Heap) (sx : Nat) (q : Nat) (hB : n ≤ 10 ∧ nw ≤ 20 ∧ ns ≤ 6) (pl : Nat) (hpl : pl ≤ 200) (hsx : sx < n) (hq : q < 6) (hRF : RF n pl σ) (hPB : PB pl nw σ) : Met l yX3_stretchTold wsX3_stretchTold ({ frames := 2, cells := 0, slots := 0, locals := 44 } : Room) (ro_P D (T4 cI cZ cL cO) (wM cI cZ a th n nw ns σ η) H [.ref (a 0), .int (nI sx), .int (nI q)]) (ro_Q (stT n nw σ sx q) H) 0 0 (fun _ => False) := by
  refine ro_of (cc := cX3_stretchTold) (maxL := 5) (by decide) rfl (Nat.le_of_ble_eq_true rfl) rfl ?_
  intro p e s m args below meth c Q ls locs hx hb hml hown hts hK hE hP hl hS hEnd
  have hl : lv_has ls 5 [(0, .ref (a 0)), (1, .int (nI sx)), (2, .int (nI q))] := hl
  have hX3 : ∀ w ∈ wsX30, w.before args s = true := fun w h => hts w (List.mem_cons_of_mem _ (List.mem_append_right _ (h)))
  have f58 : (Cond.fieldLink RX3 58 "LanternWalkModel" "walkers" "I").before args s = true := hts _ (List.mem_of_getElem? (i := 1) rfl)
  refine lv_iconst (v := nI 0) hx hb dX3_stretchTold_0 rfl ?_
  refine lv_istore_n (lv' := [(3, .int (nI 0)), (0, .ref (a 0)), (1, .int (nI sx)), (2, .int (nI q))]) hx hb dX3_stretchTold_1 rfl hl (by decide) rfl (fun ls hl => ?_)
  refine lv_iload_n hx hb dX3_stretchTold_2 rfl (lv_at hl 3 rfl) ?_
  rcases (show q = 0 ∨ q = 1 ∨ q = 2 ∨ q = 3 ∨ q = 4 ∨ q = 5 from by omega) with rfl | rfl | rfl | rfl | rfl | rfl
  · refine lv_tableIn (off := 29) (tgt := 32) hx hb dX3_stretchTold_3 (by decide) (by decide) rfl (by decide) ?_
    refine lv_aload_n hx hb dX3_stretchTold_32 rfl (lv_at hl 1 rfl) ?_
    refine lv_iload_n hx hb dX3_stretchTold_33 rfl (lv_at hl 2 rfl) ?_
    refine lv_iconst (v := nI 0) hx hb dX3_stretchTold_34 rfl ?_
    refine roV (As := [.int (nI sx), .int (nI 0)]) (q0 := 0) (ci := 3) hx hb hml hown hts (c_X3_ro l D cI cZ cL cO a th n nw ns σ η H sx 0 (hB) (by omega) (by omega)) (cwV 2 hts gX3_stretchTold_X3_ro rfl rfl rfl (by decide +kernel) ⟨by decide, by decide⟩) hK hE hP rfl rfl rfl rfl hl.1 rfl (Nat.le_of_ble_eq_true rfl) hS dX3_stretchTold_35 ⟨Nat.zero_le _, Nat.zero_le _⟩ (fun locs hS => ?_)
    refine li_topi (show σ (rid 0) sx = σ 0 sx from rfl) ?_
    refine li_topi (show σ 0 sx = stT n nw σ sx 0 from by first | rfl | (rw [show k = nw by omega]; rfl)) ?_
    exact hEnd 38 ls locs dX3_stretchTold_38 hS
  · refine lv_tableIn (off := 36) (tgt := 39) hx hb dX3_stretchTold_3 (by decide) (by decide) rfl (by decide) ?_
    refine lv_aload_n hx hb dX3_stretchTold_39 rfl (lv_at hl 1 rfl) ?_
    refine lv_iload_n hx hb dX3_stretchTold_40 rfl (lv_at hl 2 rfl) ?_
    refine roV (As := [.int (nI sx)]) (q0 := 0) (ci := 3) hx hb hml hown hts (c_X3_lets l D cI cZ cL cO a th n nw ns σ η H sx (hB) (by omega)) (cwV 1 hts gX3_stretchTold_X3_lets rfl rfl rfl (by decide +kernel) ⟨by decide, by decide⟩) hK hE hP rfl rfl rfl rfl hl.1 rfl (Nat.le_of_ble_eq_true rfl) hS dX3_stretchTold_41 ⟨Nat.zero_le _, Nat.zero_le _⟩ (fun locs hS => ?_)
    refine li_topi (show lt_ σ sx 2 = stT n nw σ sx 1 from by first | rfl | (rw [show k = nw by omega]; rfl)) ?_
    exact hEnd 44 ls locs dX3_stretchTold_44 hS
  · refine lv_tableIn (off := 42) (tgt := 45) hx hb dX3_stretchTold_3 (by decide) (by decide) rfl (by decide) ?_
    refine lv_aload_n hx hb dX3_stretchTold_45 rfl (lv_at hl 1 rfl) ?_
    refine lv_iload_n hx hb dX3_stretchTold_46 rfl (lv_at hl 2 rfl) ?_
    refine lv_iconst (v := nI 2) hx hb dX3_stretchTold_47 rfl ?_
    refine roV (As := [.int (nI sx), .int (nI 2)]) (q0 := 0) (ci := 3) hx hb hml hown hts (c_X3_ro l D cI cZ cL cO a th n nw ns σ η H sx 2 (hB) (by omega) (by omega)) (cwV 2 hts gX3_stretchTold_X3_ro rfl rfl rfl (by decide +kernel) ⟨by decide, by decide⟩) hK hE hP rfl rfl rfl rfl hl.1 rfl (Nat.le_of_ble_eq_true rfl) hS dX3_stretchTold_48 ⟨Nat.zero_le _, Nat.zero_le _⟩ (fun locs hS => ?_)
    refine li_topi (show σ (rid 2) sx = σ 2 sx from rfl) ?_
    refine li_topi (show σ 2 sx = stT n nw σ sx 2 from by first | rfl | (rw [show k = nw by omega]; rfl)) ?_
    exact hEnd 51 ls locs dX3_stretchTold_51 hS
  · refine lv_tableIn (off := 49) (tgt := 52) hx hb dX3_stretchTold_3 (by decide) (by decide) rfl (by decide) ?_
    refine lv_iconst (v := nI 0) hx hb dX3_stretchTold_52 rfl ?_
    refine lv_istore (lv' := [(4, .int (nI 0)), (3, .int (nI 0)), (0, .ref (a 0)), (1, .int (nI sx)), (2, .int (nI 3))]) hx hb dX3_stretchTold_53 hl (by decide) rfl (fun ls hl => ?_)
    have L55_1 : ∀ (fuel : Nat) (k : Nat), (nw - k) < fuel → (k ≤ nw) → ∀ (locs : List Loc), va_S (fun _ => False) H H locs → ∀ (ls : Array Slot), lv_has ls 5 [(4, .int (nI k)), (3, .int (nI (cnt (onS σ sx) k))), (0, .ref (a 0)), (1, .int (nI sx)), (2, .int (nI 3))] → W p l e ({ frames := 2, cells := 0, slots := 0, locals := 44 } : Room) s m args below meth c H locs 0 0 Q (F0 m 55 ls []) := by
      intro fuel
      induction fuel with
      | zero =>
        intro k hfuel
        exact absurd hfuel (Nat.not_lt_zero _)
      | succ fuel ih55 =>
        intro k hfuel55 hk locs hS ls hl
        refine lv_iload hx hb dX3_stretchTold_55 (lv_at hl 0 rfl) ?_
        refine lv_aload_n hx hb dX3_stretchTold_57 rfl (lv_at hl 2 rfl) ?_
        refine li_gf3 hx hb hX3 hown hK hP 0 rfl 5 (by decide) f58 rfl dX3_stretchTold_58 ?_
        refine li_ge (tgt := 102) hx hb dX3_stretchTold_61 (by decide) (by omega) (by omega) (fun c2 => ?_) (fun c2 => ?_)
        · skip
          refine lv_iload_n hx hb dX3_stretchTold_102 rfl (lv_at hl 1 rfl) ?_
          refine li_topi (show nI (cnt (onS σ sx) k) = stT n nw σ sx 3 from by first | rfl | (rw [show k = nw by omega]; rfl)) ?_
          exact hEnd 103 ls locs dX3_stretchTold_103 hS
        · skip
          refine lv_iload_n hx hb dX3_stretchTold_64 rfl (lv_at hl 1 rfl) ?_
          refine lv_aload_n hx hb dX3_stretchTold_65 rfl (lv_at hl 2 rfl) ?_
          refine lv_iload hx hb dX3_stretchTold_66 (lv_at hl 0 rfl) ?_
          refine roV (As := [.int (nI k)]) (q0 := 0) (ci := 3) hx hb hml hown hts (c_X3_walks l D cI cZ cL cO a th n nw ns σ η H k (hB) (by omega)) (cwV 1 hts gX3_stretchTold_X3_walks rfl rfl rfl (by decide +kernel) ⟨by decide, by decide⟩) hK hE hP rfl rfl rfl rfl hl.1 rfl (Nat.le_of_ble_eq_true rfl) hS dX3_stretchTold_68 ⟨Nat.zero_le _, Nat.zero_le _⟩ (fun locs hS => ?_)
          refine li_zeq (tgt := 93) hx hb dX3_stretchTold_71 (by decide) (fun c3 => ?_) (fun c3 => ?_)
          · skip
            replace c3 := of_decide_eq_false c3
            refine lv_iconst (v := nI 0) hx hb dX3_stretchTold_93 rfl ?_
            refine lv_iadd hx hb dX3_stretchTold_94 ?_
            refine li_topi (nI_add _ _) ?_
            refine lv_istore_n (lv' := [(3, .int (nI ((cnt (onS σ sx) k) + 0))), (4, .int (nI k)), (0, .ref (a 0)), (1, .int (nI sx)), (2, .int (nI 3))]) hx hb dX3_stretchTold_95 rfl hl (by decide) rfl (fun ls hl => ?_)
            refine lv_iinc (v := nI (k + 1)) (lv' := [(4, .int (nI (k + 1))), (3, .int (nI ((cnt (onS σ sx) k) + 0))), (0, .ref (a 0)), (1, .int (nI sx)), (2, .int (nI 3))]) hx hb dX3_stretchTold_96 hl (k := 1) rfl (nI_inc _ _) (by decide) rfl (fun ls hl => ?_)
            refine lv_goto (tgt := 55) hx hb dX3_stretchTold_99 (by decide) ?_
            have hl9 : lv_has ls 5 [(4, .int (nI (k + 1))), (3, .int (nI ((cnt (onS σ sx) k) + 0))), (0, .ref (a 0)), (1, .int (nI sx)), (2, .int (nI 3))] := lv_sub hl [0, 1, 2, 3, 4] rfl
            have hl9 : lv_has ls 5 [(4, .int (nI (k + 1))), (3, .int (nI (cnt (onS σ sx) (k + 1)))), (0, .ref (a 0)), (1, .int (nI sx)), (2, .int (nI 3))] := lv_re hl9 1 rfl (show nI ((cnt (onS σ sx) k) + 0) = nI (cnt (onS σ sx) (k + 1)) from by first | exact cnt_f (onS_no c3) | exact cnt_t (by rw [onS_at hRF hpl hsx hj0 c9 hz hjz ha7 hb7]; exact decide_eq_true (show j0 = sx by omega)) | exact cnt_f (by rw [onS_at hRF hpl hsx hj0 c9 hz hjz ha7 hb7]; exact decide_eq_false (show ¬ j0 = sx by omega)))
            exact ih55 (k + 1) (by omega) (by omega) locs hS ls hl9
          · skip
            replace c3 := of_decide_eq_true c3
            refine lv_aload_n hx hb dX3_stretchTold_74 rfl (lv_at hl 2 rfl) ?_
            refine lv_aload_n hx hb dX3_stretchTold_75 rfl (lv_at hl 2 rfl) ?_
            refine lv_iload hx hb dX3_stretchTold_76 (lv_at hl 0 rfl) ?_
            refine lv_iconst (v := nI 5) hx hb dX3_stretchTold_78 rfl ?_
            refine roV (As := [.int (nI k), .int (nI 5)]) (q0 := 0) (ci := 3) hx hb hml hown hts (c_X3_pe l D cI cZ cL cO a th n nw ns σ η H k 5 (hB) (by omega) (by omega)) (cwV 2 hts gX3_stretchTold_X3_pe rfl rfl rfl (by decide +kernel) ⟨by decide, by decide⟩) hK hE hP rfl rfl rfl rfl hl.1 rfl (Nat.le_of_ble_eq_true rfl) hS dX3_stretchTold_79 ⟨Nat.zero_le _, Nat.zero_le _⟩ (fun locs hS => ?_)
            refine li_topi (show σ (pid 5) k = σ 13 k from rfl) ?_
            have c9 := c3
            obtain ⟨jz, hjz, hz⟩ := hPB k (by omega) c9
            obtain ⟨j0, hj0, hso, ha7, hb7⟩ := RF_on hRF hpl hjz
            rw [← hz] at hso
            refine roV (As := [.int (σ 13 k)]) (q0 := 0) (ci := 3) hx hb hml hown hts (c_X3_stretchOf l D cI cZ cL cO a th n nw ns σ η H (σ 13 k) (hB) (j0) (hso)) (cwV 1 hts gX3_stretchTold_X3_stretchOf rfl rfl rfl (by decide +kernel) ⟨by decide, by decide⟩) hK hE hP rfl rfl rfl rfl hl.1 rfl (Nat.le_of_ble_eq_true rfl) hS dX3_stretchTold_82 ⟨Nat.zero_le _, Nat.zero_le _⟩ (fun locs hS => ?_)
            refine lv_iload_n hx hb dX3_stretchTold_85 rfl (lv_at hl 3 rfl) ?_
            refine li_ne (tgt := 93) hx hb dX3_stretchTold_86 (by decide) (by omega) (by omega) (fun c4 => ?_) (fun c4 => ?_)
            · skip
              refine lv_iconst (v := nI 0) hx hb dX3_stretchTold_93 rfl ?_
              refine lv_iadd hx hb dX3_stretchTold_94 ?_
              refine li_topi (nI_add _ _) ?_
              refine lv_istore_n (lv' := [(3, .int (nI ((cnt (onS σ sx) k) + 0))), (4, .int (nI k)), (0, .ref (a 0)), (1, .int (nI sx)), (2, .int (nI 3))]) hx hb dX3_stretchTold_95 rfl hl (by decide) rfl (fun ls hl => ?_)
              refine lv_iinc (v := nI (k + 1)) (lv' := [(4, .int (nI (k + 1))), (3, .int (nI ((cnt (onS σ sx) k) + 0))), (0, .ref (a 0)), (1, .int (nI sx)), (2, .int (nI 3))]) hx hb dX3_stretchTold_96 hl (k := 1) rfl (nI_inc _ _) (by decide) rfl (fun ls hl => ?_)
              refine lv_goto (tgt := 55) hx hb dX3_stretchTold_99 (by decide) ?_
              have hl9 : lv_has ls 5 [(4, .int (nI (k + 1))), (3, .int (nI ((cnt (onS σ sx) k) + 0))), (0, .ref (a 0)), (1, .int (nI sx)), (2, .int (nI 3))] := lv_sub hl [0, 1, 2, 3, 4] rfl
              have hl9 : lv_has ls 5 [(4, .int (nI (k + 1))), (3, .int (nI (cnt (onS σ sx) (k + 1)))), (0, .ref (a 0)), (1, .int (nI sx)), (2, .int (nI 3))] := lv_re hl9 1 rfl (show nI ((cnt (onS σ sx) k) + 0) = nI (cnt (onS σ sx) (k + 1)) from by first | exact cnt_f (onS_no c4) | exact cnt_t (by rw [onS_at hRF hpl hsx hj0 c9 hz hjz ha7 hb7]; exact decide_eq_true (show j0 = sx by omega)) | exact cnt_f (by rw [onS_at hRF hpl hsx hj0 c9 hz hjz ha7 hb7]; exact decide_eq_false (show ¬ j0 = sx by omega)))
              exact ih55 (k + 1) (by omega) (by omega) locs hS ls hl9
            · skip
              refine lv_iconst (v := nI 1) hx hb dX3_stretchTold_89 rfl ?_
              refine lv_goto (tgt := 94) hx hb dX3_stretchTold_90 (by decide) ?_
              refine lv_iadd hx hb dX3_stretchTold_94 ?_
              refine li_topi (nI_add _ _) ?_
              refine lv_istore_n (lv' := [(3, .int (nI ((cnt (onS σ sx) k) + 1))), (4, .int (nI k)), (0, .ref (a 0)), (1, .int (nI sx)), (2, .int (nI 3))]) hx hb dX3_stretchTold_95 rfl hl (by decide) rfl (fun ls hl => ?_)
              refine lv_iinc (v := nI (k + 1)) (lv' := [(4, .int (nI (k + 1))), (3, .int (nI ((cnt (onS σ sx) k) + 1))), (0, .ref (a 0)), (1, .int (nI sx)), (2, .int (nI 3))]) hx hb dX3_stretchTold_96 hl (k := 1) rfl (nI_inc _ _) (by decide) rfl (fun ls hl => ?_)
              refine lv_goto (tgt := 55) hx hb dX3_stretchTold_99 (by decide) ?_
              have hl9 : lv_has ls 5 [(4, .int (nI (k + 1))), (3, .int (nI ((cnt (onS σ sx) k) + 1))), (0, .ref (a 0)), (1, .int (nI sx)), (2, .int (nI 3))] := lv_sub hl [0, 1, 2, 3, 4] rfl
              have hl9 : lv_has ls 5 [(4, .int (nI (k + 1))), (3, .int (nI (cnt (onS σ sx) (k + 1)))), (0, .ref (a 0)), (1, .int (nI sx)), (2, .int (nI 3))] := lv_re hl9 1 rfl (show nI ((cnt (onS σ sx) k) + 1) = nI (cnt (onS σ sx) (k + 1)) from by first | exact cnt_f (onS_no c4) | exact cnt_t (by rw [onS_at hRF hpl hsx hj0 c9 hz hjz ha7 hb7]; exact decide_eq_true (show j0 = sx by omega)) | exact cnt_f (by rw [onS_at hRF hpl hsx hj0 c9 hz hjz ha7 hb7]; exact decide_eq_false (show ¬ j0 = sx by omega)))
              exact ih55 (k + 1) (by omega) (by omega) locs hS ls hl9
    have hl9 : lv_has ls 5 [(4, .int (nI 0)), (3, .int (nI 0)), (0, .ref (a 0)), (1, .int (nI sx)), (2, .int (nI 3))] := lv_sub hl [0, 1, 2, 3, 4] rfl
    have hl9 : lv_has ls 5 [(4, .int (nI 0)), (3, .int (nI (cnt (onS σ sx) 0))), (0, .ref (a 0)), (1, .int (nI sx)), (2, .int (nI 3))] := lv_re hl9 1 rfl (show nI 0 = nI (cnt (onS σ sx) 0) from rfl)
    exact L55_1 ((nw - 0) + 1) 0 (Nat.lt_succ_self _) (by omega) locs hS ls hl9
  · refine lv_tableOut (tgt := 104) hx hb dX3_stretchTold_3 (by decide) (by decide) ?_
    refine lv_aload_n hx hb dX3_stretchTold_104 rfl (lv_at hl 1 rfl) ?_
    refine lv_iload_n hx hb dX3_stretchTold_105 rfl (lv_at hl 2 rfl) ?_
    refine lv_iload_n hx hb dX3_stretchTold_106 rfl (lv_at hl 3 rfl) ?_
    refine lv_iconst (v := nI 1) hx hb dX3_stretchTold_107 rfl ?_
    refine lv_isub hx hb dX3_stretchTold_108 ?_
    refine li_topi (show nI 4 - nI 1 = nI 3 from by decide) ?_
    refine roV (As := [.int (nI sx), .int (nI 3)]) (q0 := 0) (ci := 3) hx hb hml hown hts (c_X3_ro l D cI cZ cL cO a th n nw ns σ η H sx 3 (hB) (by omega) (by omega)) (cwV 2 hts gX3_stretchTold_X3_ro rfl rfl rfl (by decide +kernel) ⟨by decide, by decide⟩) hK hE hP rfl rfl rfl rfl hl.1 rfl (Nat.le_of_ble_eq_true rfl) hS dX3_stretchTold_109 ⟨Nat.zero_le _, Nat.zero_le _⟩ (fun locs hS => ?_)
    refine li_topi (show σ (rid 3) sx = σ 8 sx from rfl) ?_
    refine li_topi (show σ 8 sx = stT n nw σ sx 4 from by first | rfl | (rw [show k = nw by omega]; rfl)) ?_
    exact hEnd 112 ls locs dX3_stretchTold_112 hS
  · refine lv_tableOut (tgt := 104) hx hb dX3_stretchTold_3 (by decide) (by decide) ?_
    refine lv_aload_n hx hb dX3_stretchTold_104 rfl (lv_at hl 1 rfl) ?_
    refine lv_iload_n hx hb dX3_stretchTold_105 rfl (lv_at hl 2 rfl) ?_
    refine lv_iload_n hx hb dX3_stretchTold_106 rfl (lv_at hl 3 rfl) ?_
    refine lv_iconst (v := nI 1) hx hb dX3_stretchTold_107 rfl ?_
    refine lv_isub hx hb dX3_stretchTold_108 ?_
    refine li_topi (show nI 5 - nI 1 = nI 4 from by decide) ?_
    refine roV (As := [.int (nI sx), .int (nI 4)]) (q0 := 0) (ci := 3) hx hb hml hown hts (c_X3_ro l D cI cZ cL cO a th n nw ns σ η H sx 4 (hB) (by omega) (by omega)) (cwV 2 hts gX3_stretchTold_X3_ro rfl rfl rfl (by decide +kernel) ⟨by decide, by decide⟩) hK hE hP rfl rfl rfl rfl hl.1 rfl (Nat.le_of_ble_eq_true rfl) hS dX3_stretchTold_109 ⟨Nat.zero_le _, Nat.zero_le _⟩ (fun locs hS => ?_)
    refine li_topi (show σ (rid 4) sx = σ 9 sx from rfl) ?_
    refine li_topi (show σ 9 sx = stT n nw σ sx 5 from by first | rfl | (rw [show k = nw by omega]; rfl)) ?_
    exact hEnd 112 ls locs dX3_stretchTold_112 hS
set_option maxHeartbeats 4000000 in
set_option maxRecDepth 100000 in
theorem c_X3_walkerTold (l : Launch) (D : va_G) (cI cZ cL cO : ClassId) (a : Nat → Nat) (th : Int32) (n nw ns : Nat) (σ η : Sg) (H : Heap) (w : Nat) (q : Nat) (hB : n ≤ 10 ∧ nw ≤ 20 ∧ ns ≤ 6) (hw : w < nw) (hq : q < 9) : Met l yX3_walkerTold wsX3_walkerTold ({ frames := 4, cells := 0, slots := 0, locals := 88 } : Room) (ro_P D (T4 cI cZ cL cO) (wM cI cZ a th n nw ns σ η) H [.ref (a 0), .int (nI w), .int (nI q)]) (ro_Q (waT nw σ w q) H) 0 0 (fun _ => False) := by
  refine ro_of (cc := cX3_walkerTold) (maxL := 3) (by decide) rfl (Nat.le_of_ble_eq_true rfl) rfl ?_
  intro p e s m args below meth c Q ls locs hx hb hml hown hts hK hE hP hl hS hEnd
  have hl : lv_has ls 3 [(0, .ref (a 0)), (1, .int (nI w)), (2, .int (nI q))] := hl
  refine lv_iload_n hx hb dX3_walkerTold_0 rfl (lv_at hl 2 rfl) ?_
  refine lv_bipush (v := nI 6) hx hb dX3_walkerTold_1 rfl ?_
  refine li_ge (tgt := 15) hx hb dX3_walkerTold_3 (by decide) (by omega) (by omega) (fun c1 => ?_) (fun c1 => ?_)
  · skip
    refine lv_iload_n hx hb dX3_walkerTold_15 rfl (lv_at hl 2 rfl) ?_
    refine lv_bipush (v := nI 6) hx hb dX3_walkerTold_16 rfl ?_
    refine li_ne (tgt := 29) hx hb dX3_walkerTold_18 (by decide) (by omega) (by omega) (fun c2 => ?_) (fun c2 => ?_)
    · skip
      refine lv_aload_n hx hb dX3_walkerTold_29 rfl (lv_at hl 0 rfl) ?_
      refine lv_iload_n hx hb dX3_walkerTold_30 rfl (lv_at hl 1 rfl) ?_
      refine lv_iload_n hx hb dX3_walkerTold_31 rfl (lv_at hl 2 rfl) ?_
      refine lv_iconst (v := nI 1) hx hb dX3_walkerTold_32 rfl ?_
      refine lv_isub hx hb dX3_walkerTold_33 ?_
      refine li_topi (show (nI q) - (nI 1) = nI (q - 1) from pk_sub (by omega)) ?_
      refine roV (As := [.int (nI w), .int (nI (q - 1))]) (q0 := 0) (ci := 3) hx hb hml hown hts (c_X3_pe l D cI cZ cL cO a th n nw ns σ η H w (q - 1) (hB) (by omega) (by omega)) (cwV 2 hts gX3_walkerTold_X3_pe rfl rfl rfl (by decide +kernel) ⟨by decide, by decide⟩) hK hE hP rfl rfl rfl rfl hl.1 rfl (Nat.le_of_ble_eq_true rfl) hS dX3_walkerTold_34 ⟨Nat.zero_le _, Nat.zero_le _⟩ (fun locs hS => ?_)
      skip
      refine li_topi (show σ (pid (q - 1)) w = waT nw σ w q from by first | (rcases (show q = 0 ∨ q = 1 ∨ q = 2 ∨ q = 3 ∨ q = 4 ∨ q = 5 by omega) with rfl | rfl | rfl | rfl | rfl | rfl <;> rfl) | (rcases (show q = 7 ∨ q = 8 by omega) with rfl | rfl <;> rfl) | (rw [show q = 6 by omega]; rfl)) ?_
      exact hEnd 37 ls locs dX3_walkerTold_37 hS
    · skip
      refine lv_aload_n hx hb dX3_walkerTold_21 rfl (lv_at hl 0 rfl) ?_
      refine lv_iload_n hx hb dX3_walkerTold_22 rfl (lv_at hl 1 rfl) ?_
      refine roV (As := [.int (nI w)]) (q0 := 0) (ci := 3) hx hb hml hown hts (c_X3_neighbours l D cI cZ cL cO a th n nw ns σ η H w (hB) (by omega)) (cwV 1 hts gX3_walkerTold_X3_neighbours rfl rfl rfl (by decide +kernel) ⟨by decide, by decide⟩) hK hE hP rfl rfl rfl rfl hl.1 rfl (Nat.le_of_ble_eq_true rfl) hS dX3_walkerTold_23 ⟨Nat.zero_le _, Nat.zero_le _⟩ (fun locs hS => ?_)
      refine lv_goto (tgt := 37) hx hb dX3_walkerTold_26 (by decide) ?_
      skip
      refine li_topi (show nI (nb σ nw w) = waT nw σ w q from by first | (rcases (show q = 0 ∨ q = 1 ∨ q = 2 ∨ q = 3 ∨ q = 4 ∨ q = 5 by omega) with rfl | rfl | rfl | rfl | rfl | rfl <;> rfl) | (rcases (show q = 7 ∨ q = 8 by omega) with rfl | rfl <;> rfl) | (rw [show q = 6 by omega]; rfl)) ?_
      exact hEnd 37 ls locs dX3_walkerTold_37 hS
  · skip
    refine lv_aload_n hx hb dX3_walkerTold_6 rfl (lv_at hl 0 rfl) ?_
    refine lv_iload_n hx hb dX3_walkerTold_7 rfl (lv_at hl 1 rfl) ?_
    refine lv_iload_n hx hb dX3_walkerTold_8 rfl (lv_at hl 2 rfl) ?_
    refine roV (As := [.int (nI w), .int (nI q)]) (q0 := 0) (ci := 3) hx hb hml hown hts (c_X3_pe l D cI cZ cL cO a th n nw ns σ η H w q (hB) (by omega) (by omega)) (cwV 2 hts gX3_walkerTold_X3_pe rfl rfl rfl (by decide +kernel) ⟨by decide, by decide⟩) hK hE hP rfl rfl rfl rfl hl.1 rfl (Nat.le_of_ble_eq_true rfl) hS dX3_walkerTold_9 ⟨Nat.zero_le _, Nat.zero_le _⟩ (fun locs hS => ?_)
    refine lv_goto (tgt := 37) hx hb dX3_walkerTold_12 (by decide) ?_
    skip
    refine li_topi (show σ (pid q) w = waT nw σ w q from by first | (rcases (show q = 0 ∨ q = 1 ∨ q = 2 ∨ q = 3 ∨ q = 4 ∨ q = 5 by omega) with rfl | rfl | rfl | rfl | rfl | rfl <;> rfl) | (rcases (show q = 7 ∨ q = 8 by omega) with rfl | rfl <;> rfl) | (rw [show q = 6 by omega]; rfl)) ?_
    exact hEnd 37 ls locs dX3_walkerTold_37 hS
set_option maxHeartbeats 4000000 in
set_option maxRecDepth 100000 in
theorem c_X3_songTold (l : Launch) (D : va_G) (cI cZ cL cO : ClassId) (a : Nat → Nat) (th : Int32) (n nw ns : Nat) (σ η : Sg) (H : Heap) (sg : Nat) (q : Nat) (hB : n ≤ 10 ∧ nw ≤ 20 ∧ ns ≤ 6) (hsg : sg < 6) (hq : q < 4) : Met l yX3_songTold wsX3_songTold ({ frames := 1, cells := 0, slots := 0, locals := 24 } : Room) (ro_P D (T4 cI cZ cL cO) (wM cI cZ a th n nw ns σ η) H [.ref (a 0), .int (nI sg), .int (nI q)]) (ro_Q (soT nw σ sg q) H) 0 0 (fun _ => False) := by
  refine ro_of (cc := cX3_songTold) (maxL := 7) (by decide) rfl (Nat.le_of_ble_eq_true rfl) rfl ?_
  intro p e s m args below meth c Q ls locs hx hb hml hown hts hK hE hP hl hS hEnd
  have hl : lv_has ls 7 [(0, .ref (a 0)), (1, .int (nI sg)), (2, .int (nI q))] := hl
  have hX3 : ∀ w ∈ wsX30, w.before args s = true := fun w h => hts w (List.mem_cons_of_mem _ (List.mem_append_right _ (h)))
  have f58 : (Cond.fieldLink RX3 58 "LanternWalkModel" "walkers" "I").before args s = true := hts _ (List.mem_of_getElem? (i := 2) rfl)
  have f22 : (Cond.fieldLink RX3 22 "LanternWalkModel" "lengths" "[I").before args s = true := hts _ (List.mem_of_getElem? (i := 1) rfl)
  refine lv_iconst (v := nI 0) hx hb dX3_songTold_0 rfl ?_
  refine lv_istore_n (lv' := [(3, .int (nI 0)), (0, .ref (a 0)), (1, .int (nI sg)), (2, .int (nI q))]) hx hb dX3_songTold_1 rfl hl (by decide) rfl (fun ls hl => ?_)
  refine lv_iconst (v := nI 0) hx hb dX3_songTold_2 rfl ?_
  refine lv_istore (lv' := [(4, .int (nI 0)), (3, .int (nI 0)), (0, .ref (a 0)), (1, .int (nI sg)), (2, .int (nI q))]) hx hb dX3_songTold_3 hl (by decide) rfl (fun ls hl => ?_)
  refine lv_iconst (v := nI 1) hx hb dX3_songTold_5 rfl ?_
  refine lv_istore (lv' := [(5, .int (nI 1)), (4, .int (nI 0)), (3, .int (nI 0)), (0, .ref (a 0)), (1, .int (nI sg)), (2, .int (nI q))]) hx hb dX3_songTold_6 hl (by decide) rfl (fun ls hl => ?_)
  have L8_1 : ∀ (fuel : Nat) (k : Nat), (99 - k) < fuel → (k ≤ 99) → ((cm σ nw sg k).1 ≤ 99) → ∀ (locs : List Loc), va_S (fun _ => False) H H locs → ∀ (ls : Array Slot), lv_has ls 7 [(5, .int (nI (k + 1))), (4, .int (nI ((cm σ nw sg k).1))), (3, .int (nI (cnt (vsS σ nw sg) k))), (0, .ref (a 0)), (1, .int (nI sg)), (2, .int (nI q))] → W p l e ({ frames := 1, cells := 0, slots := 0, locals := 24 } : Room) s m args below meth c H locs 0 0 Q (F0 m 8 ls []) := by
    intro fuel
    induction fuel with
    | zero =>
      intro k hfuel
      exact absurd hfuel (Nat.not_lt_zero _)
    | succ fuel ih8 =>
      intro k hfuel8 hk hm locs hS ls hl
      have hkv : kv σ nw sg (nI (k + 1)) ≤ nw := cnt_le _ _
      have hk2 : kv σ nw sg (nI (cm σ nw sg k).1) ≤ nw := cnt_le _ _
      refine lv_iload hx hb dX3_songTold_8 (lv_at hl 0 rfl) ?_
      refine lv_bipush (v := nI 100) hx hb dX3_songTold_10 rfl ?_
      refine li_ge (tgt := 68) hx hb dX3_songTold_12 (by decide) (by omega) (by omega) (fun c2 => ?_) (fun c2 => ?_)
      · skip
        refine lv_iload_n hx hb dX3_songTold_68 rfl (lv_at hl 5 rfl) ?_
        refine li_ne0 (tgt := 81) hx hb dX3_songTold_69 (by decide) (by omega) (fun c3 => ?_) (fun c3 => ?_)
        · skip
          refine lv_iload_n hx hb dX3_songTold_81 rfl (lv_at hl 5 rfl) ?_
          refine lv_iconst (v := nI 1) hx hb dX3_songTold_82 rfl ?_
          refine li_ne (tgt := 100) hx hb dX3_songTold_83 (by decide) (by omega) (by omega) (fun c4 => ?_) (fun c4 => ?_)
          · skip
            refine lv_iload_n hx hb dX3_songTold_100 rfl (lv_at hl 5 rfl) ?_
            refine lv_iconst (v := nI 2) hx hb dX3_songTold_101 rfl ?_
            refine li_ne (tgt := 109) hx hb dX3_songTold_102 (by decide) (by omega) (by omega) (fun c5 => ?_) (fun c5 => ?_)
            · skip
              refine lv_iload hx hb dX3_songTold_109 (lv_at hl 1 rfl) ?_
              refine li_topi (show nI ((cm σ nw sg k).1) = soT nw σ sg q from by have hk9 : k = 99 := (by omega); subst hk9; first | (rw [show q = 0 by omega]; rfl) | (rw [show q = 1 by omega]; rfl) | (rw [show q = 2 by omega]; rfl) | (rw [show q = 3 by omega]; rfl)) ?_
              exact hEnd 111 ls locs dX3_songTold_111 hS
            · skip
              refine lv_iload_n hx hb dX3_songTold_105 rfl (lv_at hl 2 rfl) ?_
              refine lv_goto (tgt := 111) hx hb dX3_songTold_106 (by decide) ?_
              refine li_topi (show nI (cnt (vsS σ nw sg) k) = soT nw σ sg q from by have hk9 : k = 99 := (by omega); subst hk9; first | (rw [show q = 0 by omega]; rfl) | (rw [show q = 1 by omega]; rfl) | (rw [show q = 2 by omega]; rfl) | (rw [show q = 3 by omega]; rfl)) ?_
              exact hEnd 111 ls locs dX3_songTold_111 hS
          · skip
            refine lv_aload_n hx hb dX3_songTold_86 rfl (lv_at hl 3 rfl) ?_
            refine li_gf3 hx hb hX3 hown hK hP 0 rfl 5 (by decide) f58 rfl dX3_songTold_87 ?_
            refine lv_aload_n hx hb dX3_songTold_90 rfl (lv_at hl 3 rfl) ?_
            refine lv_iload_n hx hb dX3_songTold_91 rfl (lv_at hl 4 rfl) ?_
            refine lv_iconst (v := nI 0) hx hb dX3_songTold_92 rfl ?_
            refine roV (As := [.int (nI sg), .int (nI 0)]) (q0 := 0) (ci := 3) hx hb hml hown hts (c_X3_with l D cI cZ cL cO a th n nw ns σ η H sg (nI 0) (hB) (by omega)) (cwV 2 hts gX3_songTold_X3_with rfl rfl rfl (by decide +kernel) ⟨by decide, by decide⟩) hK hE hP rfl rfl rfl rfl hl.1 rfl (Nat.le_of_ble_eq_true rfl) hS dX3_songTold_93 ⟨Nat.zero_le _, Nat.zero_le _⟩ (fun locs hS => ?_)
            refine lv_isub hx hb dX3_songTold_96 ?_
            refine li_topi (show (nI nw) - (nI (kv σ nw sg (nI 0))) = nI (kn σ nw sg) from by rw [pk_sub (show kv σ nw sg (nI 0) ≤ nw from cnt_le _ _)]; congr 1; have := kn_kv (σ := σ) (nw := nw) (s := sg); omega) ?_
            refine lv_goto (tgt := 111) hx hb dX3_songTold_97 (by decide) ?_
            refine li_topi (show nI (kn σ nw sg) = soT nw σ sg q from by have hk9 : k = 99 := (by omega); subst hk9; first | (rw [show q = 0 by omega]; rfl) | (rw [show q = 1 by omega]; rfl) | (rw [show q = 2 by omega]; rfl) | (rw [show q = 3 by omega]; rfl)) ?_
            exact hEnd 111 ls locs dX3_songTold_111 hS
        · skip
          refine lv_aload_n hx hb dX3_songTold_72 rfl (lv_at hl 3 rfl) ?_
          refine li_gf3 hx hb hX3 hown hK hP 0 rfl 8 (by decide) f22 rfl dX3_songTold_73 ?_
          refine lv_iload_n hx hb dX3_songTold_76 rfl (lv_at hl 4 rfl) ?_
          refine li_ild hx hb hK hP 5 0 rfl rfl (by omega) (by decide) dX3_songTold_77 ?_
          refine lv_goto (tgt := 111) hx hb dX3_songTold_78 (by decide) ?_
          refine li_topi (show σ 6 sg = soT nw σ sg q from by have hk9 : k = 99 := (by omega); subst hk9; first | (rw [show q = 0 by omega]; rfl) | (rw [show q = 1 by omega]; rfl) | (rw [show q = 2 by omega]; rfl) | (rw [show q = 3 by omega]; rfl)) ?_
          exact hEnd 111 ls locs dX3_songTold_111 hS
      · skip
        refine lv_aload_n hx hb dX3_songTold_15 rfl (lv_at hl 3 rfl) ?_
        refine lv_iload_n hx hb dX3_songTold_16 rfl (lv_at hl 4 rfl) ?_
        refine lv_iload hx hb dX3_songTold_17 (lv_at hl 0 rfl) ?_
        refine roV (As := [.int (nI sg), .int (nI (k + 1))]) (q0 := 0) (ci := 3) hx hb hml hown hts (c_X3_with l D cI cZ cL cO a th n nw ns σ η H sg (nI (k + 1)) (hB) (by omega)) (cwV 2 hts gX3_songTold_X3_with rfl rfl rfl (by decide +kernel) ⟨by decide, by decide⟩) hK hE hP rfl rfl rfl rfl hl.1 rfl (Nat.le_of_ble_eq_true rfl) hS dX3_songTold_19 ⟨Nat.zero_le _, Nat.zero_le _⟩ (fun locs hS => ?_)
        refine lv_istore (lv' := [(6, .int (nI (kv σ nw sg (nI (k + 1))))), (5, .int (nI (k + 1))), (4, .int (nI ((cm σ nw sg k).1))), (3, .int (nI (cnt (vsS σ nw sg) k))), (0, .ref (a 0)), (1, .int (nI sg)), (2, .int (nI q))]) hx hb dX3_songTold_22 hl (by decide) rfl (fun ls hl => ?_)
        refine lv_iload_n hx hb dX3_songTold_24 rfl (lv_at hl 3 rfl) ?_
        refine lv_iload hx hb dX3_songTold_25 (lv_at hl 0 rfl) ?_
        refine li_le0 (tgt := 34) hx hb dX3_songTold_27 (by decide) (by omega) (fun c6 => ?_) (fun c6 => ?_)
        · skip
          refine lv_iconst (v := nI 0) hx hb dX3_songTold_34 rfl ?_
          refine lv_iadd hx hb dX3_songTold_35 ?_
          refine li_topi (nI_add _ _) ?_
          refine lv_istore_n (lv' := [(3, .int (nI ((cnt (vsS σ nw sg) k) + 0))), (6, .int (nI (kv σ nw sg (nI (k + 1))))), (5, .int (nI (k + 1))), (4, .int (nI ((cm σ nw sg k).1))), (0, .ref (a 0)), (1, .int (nI sg)), (2, .int (nI q))]) hx hb dX3_songTold_36 rfl hl (by decide) rfl (fun ls hl => ?_)
          refine lv_iload hx hb dX3_songTold_37 (lv_at hl 1 rfl) ?_
          refine lv_iload hx hb dX3_songTold_39 (lv_at hl 3 rfl) ?_
          refine li_ne0 (tgt := 48) hx hb dX3_songTold_41 (by decide) (by omega) (fun c7 => ?_) (fun c7 => ?_)
          · skip
            refine lv_aload_n hx hb dX3_songTold_48 rfl (lv_at hl 4 rfl) ?_
            refine lv_iload_n hx hb dX3_songTold_49 rfl (lv_at hl 5 rfl) ?_
            refine lv_iload hx hb dX3_songTold_50 (lv_at hl 3 rfl) ?_
            refine roV (As := [.int (nI sg), .int (nI ((cm σ nw sg k).1))]) (q0 := 0) (ci := 3) hx hb hml hown hts (c_X3_with l D cI cZ cL cO a th n nw ns σ η H sg (nI ((cm σ nw sg k).1)) (hB) (by omega)) (cwV 2 hts gX3_songTold_X3_with rfl rfl rfl (by decide +kernel) ⟨by decide, by decide⟩) hK hE hP rfl rfl rfl rfl hl.1 rfl (Nat.le_of_ble_eq_true rfl) hS dX3_songTold_52 ⟨Nat.zero_le _, Nat.zero_le _⟩ (fun locs hS => ?_)
            refine li_le (tgt := 62) hx hb dX3_songTold_55 (by decide) (by omega) (by omega) (fun c8 => ?_) (fun c8 => ?_)
            · skip
              refine lv_iinc (v := nI (k + 1 + 1)) (lv' := [(5, .int (nI (k + 1 + 1))), (3, .int (nI ((cnt (vsS σ nw sg) k) + 0))), (6, .int (nI (kv σ nw sg (nI (k + 1))))), (4, .int (nI ((cm σ nw sg k).1))), (0, .ref (a 0)), (1, .int (nI sg)), (2, .int (nI q))]) hx hb dX3_songTold_62 hl (k := 2) rfl (nI_inc _ _) (by decide) rfl (fun ls hl => ?_)
              refine lv_goto (tgt := 8) hx hb dX3_songTold_65 (by decide) ?_
              have hl9 : lv_has ls 7 [(5, .int (nI (k + 1 + 1))), (4, .int (nI ((cm σ nw sg k).1))), (3, .int (nI ((cnt (vsS σ nw sg) k) + 0))), (0, .ref (a 0)), (1, .int (nI sg)), (2, .int (nI q))] := lv_sub hl [0, 3, 1, 4, 5, 6] rfl
              have hl9 : lv_has ls 7 [(5, .int (nI ((k + 1) + 1))), (4, .int (nI ((cm σ nw sg k).1))), (3, .int (nI ((cnt (vsS σ nw sg) k) + 0))), (0, .ref (a 0)), (1, .int (nI sg)), (2, .int (nI q))] := lv_re hl9 0 rfl (show nI (k + 1 + 1) = nI ((k + 1) + 1) from by simp [c2, c6, c7, c8])
              have hl9 : lv_has ls 7 [(5, .int (nI ((k + 1) + 1))), (4, .int (nI ((cm σ nw sg (k + 1)).1))), (3, .int (nI ((cnt (vsS σ nw sg) k) + 0))), (0, .ref (a 0)), (1, .int (nI sg)), (2, .int (nI q))] := lv_re hl9 1 rfl (show nI ((cm σ nw sg k).1) = nI ((cm σ nw sg (k + 1)).1) from by first | (rw [cm_a (by first | (rw [cm_z (by assumption)]; omega) | (rw [cm_nz (by assumption)]; omega))]; done) | (rw [cm_b (by first | (rw [cm_z (by assumption)]; omega) | (rw [cm_nz (by assumption)]; omega))]; done))
              have hl9 : lv_has ls 7 [(5, .int (nI ((k + 1) + 1))), (4, .int (nI ((cm σ nw sg (k + 1)).1))), (3, .int (nI (cnt (vsS σ nw sg) (k + 1)))), (0, .ref (a 0)), (1, .int (nI sg)), (2, .int (nI q))] := lv_re hl9 2 rfl (show nI ((cnt (vsS σ nw sg) k) + 0) = nI (cnt (vsS σ nw sg) (k + 1)) from by first | exact cnt_t (by simp [vsS, c2, c6, c7, c8]) | exact cnt_f (by simp [vsS, c2, c6, c7, c8]))
              exact ih8 (k + 1) (by omega) (by omega) (by have h8 := (cm_2 (σ := σ) (nw := nw) (s := sg) (k + 1)).2; omega) locs hS ls hl9
            · skip
              refine lv_iload hx hb dX3_songTold_58 (lv_at hl 2 rfl) ?_
              refine lv_istore (lv' := [(4, .int (nI (k + 1))), (3, .int (nI ((cnt (vsS σ nw sg) k) + 0))), (6, .int (nI (kv σ nw sg (nI (k + 1))))), (5, .int (nI (k + 1))), (0, .ref (a 0)), (1, .int (nI sg)), (2, .int (nI q))]) hx hb dX3_songTold_60 hl (by decide) rfl (fun ls hl => ?_)
              refine lv_iinc (v := nI (k + 1 + 1)) (lv' := [(5, .int (nI (k + 1 + 1))), (4, .int (nI (k + 1))), (3, .int (nI ((cnt (vsS σ nw sg) k) + 0))), (6, .int (nI (kv σ nw sg (nI (k + 1))))), (0, .ref (a 0)), (1, .int (nI sg)), (2, .int (nI q))]) hx hb dX3_songTold_62 hl (k := 3) rfl (nI_inc _ _) (by decide) rfl (fun ls hl => ?_)
              refine lv_goto (tgt := 8) hx hb dX3_songTold_65 (by decide) ?_
              have hl9 : lv_has ls 7 [(5, .int (nI (k + 1 + 1))), (4, .int (nI (k + 1))), (3, .int (nI ((cnt (vsS σ nw sg) k) + 0))), (0, .ref (a 0)), (1, .int (nI sg)), (2, .int (nI q))] := lv_sub hl [0, 1, 2, 4, 5, 6] rfl
              have hl9 : lv_has ls 7 [(5, .int (nI ((k + 1) + 1))), (4, .int (nI (k + 1))), (3, .int (nI ((cnt (vsS σ nw sg) k) + 0))), (0, .ref (a 0)), (1, .int (nI sg)), (2, .int (nI q))] := lv_re hl9 0 rfl (show nI (k + 1 + 1) = nI ((k + 1) + 1) from by simp [c2, c6, c7, c8])
              have hl9 : lv_has ls 7 [(5, .int (nI ((k + 1) + 1))), (4, .int (nI ((cm σ nw sg (k + 1)).1))), (3, .int (nI ((cnt (vsS σ nw sg) k) + 0))), (0, .ref (a 0)), (1, .int (nI sg)), (2, .int (nI q))] := lv_re hl9 1 rfl (show nI (k + 1) = nI ((cm σ nw sg (k + 1)).1) from by first | (rw [cm_a (by first | (rw [cm_z (by assumption)]; omega) | (rw [cm_nz (by assumption)]; omega))]; done) | (rw [cm_b (by first | (rw [cm_z (by assumption)]; omega) | (rw [cm_nz (by assumption)]; omega))]; done))
              have hl9 : lv_has ls 7 [(5, .int (nI ((k + 1) + 1))), (4, .int (nI ((cm σ nw sg (k + 1)).1))), (3, .int (nI (cnt (vsS σ nw sg) (k + 1)))), (0, .ref (a 0)), (1, .int (nI sg)), (2, .int (nI q))] := lv_re hl9 2 rfl (show nI ((cnt (vsS σ nw sg) k) + 0) = nI (cnt (vsS σ nw sg) (k + 1)) from by first | exact cnt_t (by simp [vsS, c2, c6, c7, c8]) | exact cnt_f (by simp [vsS, c2, c6, c7, c8]))
              exact ih8 (k + 1) (by omega) (by omega) (by have h8 := (cm_2 (σ := σ) (nw := nw) (s := sg) (k + 1)).2; omega) locs hS ls hl9
          · skip
            refine lv_iconst (v := nI 0) hx hb dX3_songTold_44 rfl ?_
            refine lv_goto (tgt := 55) hx hb dX3_songTold_45 (by decide) ?_
            refine li_le (tgt := 62) hx hb dX3_songTold_55 (by decide) (by omega) (by omega) (fun c9 => ?_) (fun c9 => ?_)
            · skip
              refine lv_iinc (v := nI (k + 1 + 1)) (lv' := [(5, .int (nI (k + 1 + 1))), (3, .int (nI ((cnt (vsS σ nw sg) k) + 0))), (6, .int (nI (kv σ nw sg (nI (k + 1))))), (4, .int (nI ((cm σ nw sg k).1))), (0, .ref (a 0)), (1, .int (nI sg)), (2, .int (nI q))]) hx hb dX3_songTold_62 hl (k := 2) rfl (nI_inc _ _) (by decide) rfl (fun ls hl => ?_)
              refine lv_goto (tgt := 8) hx hb dX3_songTold_65 (by decide) ?_
              have hl9 : lv_has ls 7 [(5, .int (nI (k + 1 + 1))), (4, .int (nI ((cm σ nw sg k).1))), (3, .int (nI ((cnt (vsS σ nw sg) k) + 0))), (0, .ref (a 0)), (1, .int (nI sg)), (2, .int (nI q))] := lv_sub hl [0, 3, 1, 4, 5, 6] rfl
              have hl9 : lv_has ls 7 [(5, .int (nI ((k + 1) + 1))), (4, .int (nI ((cm σ nw sg k).1))), (3, .int (nI ((cnt (vsS σ nw sg) k) + 0))), (0, .ref (a 0)), (1, .int (nI sg)), (2, .int (nI q))] := lv_re hl9 0 rfl (show nI (k + 1 + 1) = nI ((k + 1) + 1) from by simp [c2, c6, c7, c9])
              have hl9 : lv_has ls 7 [(5, .int (nI ((k + 1) + 1))), (4, .int (nI ((cm σ nw sg (k + 1)).1))), (3, .int (nI ((cnt (vsS σ nw sg) k) + 0))), (0, .ref (a 0)), (1, .int (nI sg)), (2, .int (nI q))] := lv_re hl9 1 rfl (show nI ((cm σ nw sg k).1) = nI ((cm σ nw sg (k + 1)).1) from by first | (rw [cm_a (by first | (rw [cm_z (by assumption)]; omega) | (rw [cm_nz (by assumption)]; omega))]; done) | (rw [cm_b (by first | (rw [cm_z (by assumption)]; omega) | (rw [cm_nz (by assumption)]; omega))]; done))
              have hl9 : lv_has ls 7 [(5, .int (nI ((k + 1) + 1))), (4, .int (nI ((cm σ nw sg (k + 1)).1))), (3, .int (nI (cnt (vsS σ nw sg) (k + 1)))), (0, .ref (a 0)), (1, .int (nI sg)), (2, .int (nI q))] := lv_re hl9 2 rfl (show nI ((cnt (vsS σ nw sg) k) + 0) = nI (cnt (vsS σ nw sg) (k + 1)) from by first | exact cnt_t (by simp [vsS, c2, c6, c7, c9]) | exact cnt_f (by simp [vsS, c2, c6, c7, c9]))
              exact ih8 (k + 1) (by omega) (by omega) (by have h8 := (cm_2 (σ := σ) (nw := nw) (s := sg) (k + 1)).2; omega) locs hS ls hl9
            · skip
              refine lv_iload hx hb dX3_songTold_58 (lv_at hl 2 rfl) ?_
              refine lv_istore (lv' := [(4, .int (nI (k + 1))), (3, .int (nI ((cnt (vsS σ nw sg) k) + 0))), (6, .int (nI (kv σ nw sg (nI (k + 1))))), (5, .int (nI (k + 1))), (0, .ref (a 0)), (1, .int (nI sg)), (2, .int (nI q))]) hx hb dX3_songTold_60 hl (by decide) rfl (fun ls hl => ?_)
              refine lv_iinc (v := nI (k + 1 + 1)) (lv' := [(5, .int (nI (k + 1 + 1))), (4, .int (nI (k + 1))), (3, .int (nI ((cnt (vsS σ nw sg) k) + 0))), (6, .int (nI (kv σ nw sg (nI (k + 1))))), (0, .ref (a 0)), (1, .int (nI sg)), (2, .int (nI q))]) hx hb dX3_songTold_62 hl (k := 3) rfl (nI_inc _ _) (by decide) rfl (fun ls hl => ?_)
              refine lv_goto (tgt := 8) hx hb dX3_songTold_65 (by decide) ?_
              have hl9 : lv_has ls 7 [(5, .int (nI (k + 1 + 1))), (4, .int (nI (k + 1))), (3, .int (nI ((cnt (vsS σ nw sg) k) + 0))), (0, .ref (a 0)), (1, .int (nI sg)), (2, .int (nI q))] := lv_sub hl [0, 1, 2, 4, 5, 6] rfl
              have hl9 : lv_has ls 7 [(5, .int (nI ((k + 1) + 1))), (4, .int (nI (k + 1))), (3, .int (nI ((cnt (vsS σ nw sg) k) + 0))), (0, .ref (a 0)), (1, .int (nI sg)), (2, .int (nI q))] := lv_re hl9 0 rfl (show nI (k + 1 + 1) = nI ((k + 1) + 1) from by simp [c2, c6, c7, c9])
              have hl9 : lv_has ls 7 [(5, .int (nI ((k + 1) + 1))), (4, .int (nI ((cm σ nw sg (k + 1)).1))), (3, .int (nI ((cnt (vsS σ nw sg) k) + 0))), (0, .ref (a 0)), (1, .int (nI sg)), (2, .int (nI q))] := lv_re hl9 1 rfl (show nI (k + 1) = nI ((cm σ nw sg (k + 1)).1) from by first | (rw [cm_a (by first | (rw [cm_z (by assumption)]; omega) | (rw [cm_nz (by assumption)]; omega))]; done) | (rw [cm_b (by first | (rw [cm_z (by assumption)]; omega) | (rw [cm_nz (by assumption)]; omega))]; done))
              have hl9 : lv_has ls 7 [(5, .int (nI ((k + 1) + 1))), (4, .int (nI ((cm σ nw sg (k + 1)).1))), (3, .int (nI (cnt (vsS σ nw sg) (k + 1)))), (0, .ref (a 0)), (1, .int (nI sg)), (2, .int (nI q))] := lv_re hl9 2 rfl (show nI ((cnt (vsS σ nw sg) k) + 0) = nI (cnt (vsS σ nw sg) (k + 1)) from by first | exact cnt_t (by simp [vsS, c2, c6, c7, c9]) | exact cnt_f (by simp [vsS, c2, c6, c7, c9]))
              exact ih8 (k + 1) (by omega) (by omega) (by have h8 := (cm_2 (σ := σ) (nw := nw) (s := sg) (k + 1)).2; omega) locs hS ls hl9
        · skip
          refine lv_iconst (v := nI 1) hx hb dX3_songTold_30 rfl ?_
          refine lv_goto (tgt := 35) hx hb dX3_songTold_31 (by decide) ?_
          refine lv_iadd hx hb dX3_songTold_35 ?_
          refine li_topi (nI_add _ _) ?_
          refine lv_istore_n (lv' := [(3, .int (nI ((cnt (vsS σ nw sg) k) + 1))), (6, .int (nI (kv σ nw sg (nI (k + 1))))), (5, .int (nI (k + 1))), (4, .int (nI ((cm σ nw sg k).1))), (0, .ref (a 0)), (1, .int (nI sg)), (2, .int (nI q))]) hx hb dX3_songTold_36 rfl hl (by decide) rfl (fun ls hl => ?_)
          refine lv_iload hx hb dX3_songTold_37 (lv_at hl 1 rfl) ?_
          refine lv_iload hx hb dX3_songTold_39 (lv_at hl 3 rfl) ?_
          refine li_ne0 (tgt := 48) hx hb dX3_songTold_41 (by decide) (by omega) (fun c10 => ?_) (fun c10 => ?_)
          · skip
            refine lv_aload_n hx hb dX3_songTold_48 rfl (lv_at hl 4 rfl) ?_
            refine lv_iload_n hx hb dX3_songTold_49 rfl (lv_at hl 5 rfl) ?_
            refine lv_iload hx hb dX3_songTold_50 (lv_at hl 3 rfl) ?_
            refine roV (As := [.int (nI sg), .int (nI ((cm σ nw sg k).1))]) (q0 := 0) (ci := 3) hx hb hml hown hts (c_X3_with l D cI cZ cL cO a th n nw ns σ η H sg (nI ((cm σ nw sg k).1)) (hB) (by omega)) (cwV 2 hts gX3_songTold_X3_with rfl rfl rfl (by decide +kernel) ⟨by decide, by decide⟩) hK hE hP rfl rfl rfl rfl hl.1 rfl (Nat.le_of_ble_eq_true rfl) hS dX3_songTold_52 ⟨Nat.zero_le _, Nat.zero_le _⟩ (fun locs hS => ?_)
            refine li_le (tgt := 62) hx hb dX3_songTold_55 (by decide) (by omega) (by omega) (fun c11 => ?_) (fun c11 => ?_)
            · skip
              refine lv_iinc (v := nI (k + 1 + 1)) (lv' := [(5, .int (nI (k + 1 + 1))), (3, .int (nI ((cnt (vsS σ nw sg) k) + 1))), (6, .int (nI (kv σ nw sg (nI (k + 1))))), (4, .int (nI ((cm σ nw sg k).1))), (0, .ref (a 0)), (1, .int (nI sg)), (2, .int (nI q))]) hx hb dX3_songTold_62 hl (k := 2) rfl (nI_inc _ _) (by decide) rfl (fun ls hl => ?_)
              refine lv_goto (tgt := 8) hx hb dX3_songTold_65 (by decide) ?_
              have hl9 : lv_has ls 7 [(5, .int (nI (k + 1 + 1))), (4, .int (nI ((cm σ nw sg k).1))), (3, .int (nI ((cnt (vsS σ nw sg) k) + 1))), (0, .ref (a 0)), (1, .int (nI sg)), (2, .int (nI q))] := lv_sub hl [0, 3, 1, 4, 5, 6] rfl
              have hl9 : lv_has ls 7 [(5, .int (nI ((k + 1) + 1))), (4, .int (nI ((cm σ nw sg k).1))), (3, .int (nI ((cnt (vsS σ nw sg) k) + 1))), (0, .ref (a 0)), (1, .int (nI sg)), (2, .int (nI q))] := lv_re hl9 0 rfl (show nI (k + 1 + 1) = nI ((k + 1) + 1) from by simp [c2, c6, c10, c11])
              have hl9 : lv_has ls 7 [(5, .int (nI ((k + 1) + 1))), (4, .int (nI ((cm σ nw sg (k + 1)).1))), (3, .int (nI ((cnt (vsS σ nw sg) k) + 1))), (0, .ref (a 0)), (1, .int (nI sg)), (2, .int (nI q))] := lv_re hl9 1 rfl (show nI ((cm σ nw sg k).1) = nI ((cm σ nw sg (k + 1)).1) from by first | (rw [cm_a (by first | (rw [cm_z (by assumption)]; omega) | (rw [cm_nz (by assumption)]; omega))]; done) | (rw [cm_b (by first | (rw [cm_z (by assumption)]; omega) | (rw [cm_nz (by assumption)]; omega))]; done))
              have hl9 : lv_has ls 7 [(5, .int (nI ((k + 1) + 1))), (4, .int (nI ((cm σ nw sg (k + 1)).1))), (3, .int (nI (cnt (vsS σ nw sg) (k + 1)))), (0, .ref (a 0)), (1, .int (nI sg)), (2, .int (nI q))] := lv_re hl9 2 rfl (show nI ((cnt (vsS σ nw sg) k) + 1) = nI (cnt (vsS σ nw sg) (k + 1)) from by first | exact cnt_t (by simp [vsS, c2, c6, c10, c11]) | exact cnt_f (by simp [vsS, c2, c6, c10, c11]))
              exact ih8 (k + 1) (by omega) (by omega) (by have h8 := (cm_2 (σ := σ) (nw := nw) (s := sg) (k + 1)).2; omega) locs hS ls hl9
            · skip
              refine lv_iload hx hb dX3_songTold_58 (lv_at hl 2 rfl) ?_
              refine lv_istore (lv' := [(4, .int (nI (k + 1))), (3, .int (nI ((cnt (vsS σ nw sg) k) + 1))), (6, .int (nI (kv σ nw sg (nI (k + 1))))), (5, .int (nI (k + 1))), (0, .ref (a 0)), (1, .int (nI sg)), (2, .int (nI q))]) hx hb dX3_songTold_60 hl (by decide) rfl (fun ls hl => ?_)
              refine lv_iinc (v := nI (k + 1 + 1)) (lv' := [(5, .int (nI (k + 1 + 1))), (4, .int (nI (k + 1))), (3, .int (nI ((cnt (vsS σ nw sg) k) + 1))), (6, .int (nI (kv σ nw sg (nI (k + 1))))), (0, .ref (a 0)), (1, .int (nI sg)), (2, .int (nI q))]) hx hb dX3_songTold_62 hl (k := 3) rfl (nI_inc _ _) (by decide) rfl (fun ls hl => ?_)
              refine lv_goto (tgt := 8) hx hb dX3_songTold_65 (by decide) ?_
              have hl9 : lv_has ls 7 [(5, .int (nI (k + 1 + 1))), (4, .int (nI (k + 1))), (3, .int (nI ((cnt (vsS σ nw sg) k) + 1))), (0, .ref (a 0)), (1, .int (nI sg)), (2, .int (nI q))] := lv_sub hl [0, 1, 2, 4, 5, 6] rfl
              have hl9 : lv_has ls 7 [(5, .int (nI ((k + 1) + 1))), (4, .int (nI (k + 1))), (3, .int (nI ((cnt (vsS σ nw sg) k) + 1))), (0, .ref (a 0)), (1, .int (nI sg)), (2, .int (nI q))] := lv_re hl9 0 rfl (show nI (k + 1 + 1) = nI ((k + 1) + 1) from by simp [c2, c6, c10, c11])
              have hl9 : lv_has ls 7 [(5, .int (nI ((k + 1) + 1))), (4, .int (nI ((cm σ nw sg (k + 1)).1))), (3, .int (nI ((cnt (vsS σ nw sg) k) + 1))), (0, .ref (a 0)), (1, .int (nI sg)), (2, .int (nI q))] := lv_re hl9 1 rfl (show nI (k + 1) = nI ((cm σ nw sg (k + 1)).1) from by first | (rw [cm_a (by first | (rw [cm_z (by assumption)]; omega) | (rw [cm_nz (by assumption)]; omega))]; done) | (rw [cm_b (by first | (rw [cm_z (by assumption)]; omega) | (rw [cm_nz (by assumption)]; omega))]; done))
              have hl9 : lv_has ls 7 [(5, .int (nI ((k + 1) + 1))), (4, .int (nI ((cm σ nw sg (k + 1)).1))), (3, .int (nI (cnt (vsS σ nw sg) (k + 1)))), (0, .ref (a 0)), (1, .int (nI sg)), (2, .int (nI q))] := lv_re hl9 2 rfl (show nI ((cnt (vsS σ nw sg) k) + 1) = nI (cnt (vsS σ nw sg) (k + 1)) from by first | exact cnt_t (by simp [vsS, c2, c6, c10, c11]) | exact cnt_f (by simp [vsS, c2, c6, c10, c11]))
              exact ih8 (k + 1) (by omega) (by omega) (by have h8 := (cm_2 (σ := σ) (nw := nw) (s := sg) (k + 1)).2; omega) locs hS ls hl9
          · skip
            refine lv_iconst (v := nI 0) hx hb dX3_songTold_44 rfl ?_
            refine lv_goto (tgt := 55) hx hb dX3_songTold_45 (by decide) ?_
            refine li_le (tgt := 62) hx hb dX3_songTold_55 (by decide) (by omega) (by omega) (fun c12 => ?_) (fun c12 => ?_)
            · skip
              refine lv_iinc (v := nI (k + 1 + 1)) (lv' := [(5, .int (nI (k + 1 + 1))), (3, .int (nI ((cnt (vsS σ nw sg) k) + 1))), (6, .int (nI (kv σ nw sg (nI (k + 1))))), (4, .int (nI ((cm σ nw sg k).1))), (0, .ref (a 0)), (1, .int (nI sg)), (2, .int (nI q))]) hx hb dX3_songTold_62 hl (k := 2) rfl (nI_inc _ _) (by decide) rfl (fun ls hl => ?_)
              refine lv_goto (tgt := 8) hx hb dX3_songTold_65 (by decide) ?_
              have hl9 : lv_has ls 7 [(5, .int (nI (k + 1 + 1))), (4, .int (nI ((cm σ nw sg k).1))), (3, .int (nI ((cnt (vsS σ nw sg) k) + 1))), (0, .ref (a 0)), (1, .int (nI sg)), (2, .int (nI q))] := lv_sub hl [0, 3, 1, 4, 5, 6] rfl
              have hl9 : lv_has ls 7 [(5, .int (nI ((k + 1) + 1))), (4, .int (nI ((cm σ nw sg k).1))), (3, .int (nI ((cnt (vsS σ nw sg) k) + 1))), (0, .ref (a 0)), (1, .int (nI sg)), (2, .int (nI q))] := lv_re hl9 0 rfl (show nI (k + 1 + 1) = nI ((k + 1) + 1) from by simp [c2, c6, c10, c12])
              have hl9 : lv_has ls 7 [(5, .int (nI ((k + 1) + 1))), (4, .int (nI ((cm σ nw sg (k + 1)).1))), (3, .int (nI ((cnt (vsS σ nw sg) k) + 1))), (0, .ref (a 0)), (1, .int (nI sg)), (2, .int (nI q))] := lv_re hl9 1 rfl (show nI ((cm σ nw sg k).1) = nI ((cm σ nw sg (k + 1)).1) from by first | (rw [cm_a (by first | (rw [cm_z (by assumption)]; omega) | (rw [cm_nz (by assumption)]; omega))]; done) | (rw [cm_b (by first | (rw [cm_z (by assumption)]; omega) | (rw [cm_nz (by assumption)]; omega))]; done))
              have hl9 : lv_has ls 7 [(5, .int (nI ((k + 1) + 1))), (4, .int (nI ((cm σ nw sg (k + 1)).1))), (3, .int (nI (cnt (vsS σ nw sg) (k + 1)))), (0, .ref (a 0)), (1, .int (nI sg)), (2, .int (nI q))] := lv_re hl9 2 rfl (show nI ((cnt (vsS σ nw sg) k) + 1) = nI (cnt (vsS σ nw sg) (k + 1)) from by first | exact cnt_t (by simp [vsS, c2, c6, c10, c12]) | exact cnt_f (by simp [vsS, c2, c6, c10, c12]))
              exact ih8 (k + 1) (by omega) (by omega) (by have h8 := (cm_2 (σ := σ) (nw := nw) (s := sg) (k + 1)).2; omega) locs hS ls hl9
            · skip
              refine lv_iload hx hb dX3_songTold_58 (lv_at hl 2 rfl) ?_
              refine lv_istore (lv' := [(4, .int (nI (k + 1))), (3, .int (nI ((cnt (vsS σ nw sg) k) + 1))), (6, .int (nI (kv σ nw sg (nI (k + 1))))), (5, .int (nI (k + 1))), (0, .ref (a 0)), (1, .int (nI sg)), (2, .int (nI q))]) hx hb dX3_songTold_60 hl (by decide) rfl (fun ls hl => ?_)
              refine lv_iinc (v := nI (k + 1 + 1)) (lv' := [(5, .int (nI (k + 1 + 1))), (4, .int (nI (k + 1))), (3, .int (nI ((cnt (vsS σ nw sg) k) + 1))), (6, .int (nI (kv σ nw sg (nI (k + 1))))), (0, .ref (a 0)), (1, .int (nI sg)), (2, .int (nI q))]) hx hb dX3_songTold_62 hl (k := 3) rfl (nI_inc _ _) (by decide) rfl (fun ls hl => ?_)
              refine lv_goto (tgt := 8) hx hb dX3_songTold_65 (by decide) ?_
              have hl9 : lv_has ls 7 [(5, .int (nI (k + 1 + 1))), (4, .int (nI (k + 1))), (3, .int (nI ((cnt (vsS σ nw sg) k) + 1))), (0, .ref (a 0)), (1, .int (nI sg)), (2, .int (nI q))] := lv_sub hl [0, 1, 2, 4, 5, 6] rfl
              have hl9 : lv_has ls 7 [(5, .int (nI ((k + 1) + 1))), (4, .int (nI (k + 1))), (3, .int (nI ((cnt (vsS σ nw sg) k) + 1))), (0, .ref (a 0)), (1, .int (nI sg)), (2, .int (nI q))] := lv_re hl9 0 rfl (show nI (k + 1 + 1) = nI ((k + 1) + 1) from by simp [c2, c6, c10, c12])
              have hl9 : lv_has ls 7 [(5, .int (nI ((k + 1) + 1))), (4, .int (nI ((cm σ nw sg (k + 1)).1))), (3, .int (nI ((cnt (vsS σ nw sg) k) + 1))), (0, .ref (a 0)), (1, .int (nI sg)), (2, .int (nI q))] := lv_re hl9 1 rfl (show nI (k + 1) = nI ((cm σ nw sg (k + 1)).1) from by first | (rw [cm_a (by first | (rw [cm_z (by assumption)]; omega) | (rw [cm_nz (by assumption)]; omega))]; done) | (rw [cm_b (by first | (rw [cm_z (by assumption)]; omega) | (rw [cm_nz (by assumption)]; omega))]; done))
              have hl9 : lv_has ls 7 [(5, .int (nI ((k + 1) + 1))), (4, .int (nI ((cm σ nw sg (k + 1)).1))), (3, .int (nI (cnt (vsS σ nw sg) (k + 1)))), (0, .ref (a 0)), (1, .int (nI sg)), (2, .int (nI q))] := lv_re hl9 2 rfl (show nI ((cnt (vsS σ nw sg) k) + 1) = nI (cnt (vsS σ nw sg) (k + 1)) from by first | exact cnt_t (by simp [vsS, c2, c6, c10, c12]) | exact cnt_f (by simp [vsS, c2, c6, c10, c12]))
              exact ih8 (k + 1) (by omega) (by omega) (by have h8 := (cm_2 (σ := σ) (nw := nw) (s := sg) (k + 1)).2; omega) locs hS ls hl9
  have hl9 : lv_has ls 7 [(5, .int (nI 1)), (4, .int (nI 0)), (3, .int (nI 0)), (0, .ref (a 0)), (1, .int (nI sg)), (2, .int (nI q))] := lv_sub hl [0, 1, 2, 3, 4, 5] rfl
  have hl9 : lv_has ls 7 [(5, .int (nI (0 + 1))), (4, .int (nI 0)), (3, .int (nI 0)), (0, .ref (a 0)), (1, .int (nI sg)), (2, .int (nI q))] := lv_re hl9 0 rfl (show nI 1 = nI (0 + 1) from by simp [])
  have hl9 : lv_has ls 7 [(5, .int (nI (0 + 1))), (4, .int (nI ((cm σ nw sg 0).1))), (3, .int (nI 0)), (0, .ref (a 0)), (1, .int (nI sg)), (2, .int (nI q))] := lv_re hl9 1 rfl (show nI 0 = nI ((cm σ nw sg 0).1) from rfl)
  have hl9 : lv_has ls 7 [(5, .int (nI (0 + 1))), (4, .int (nI ((cm σ nw sg 0).1))), (3, .int (nI (cnt (vsS σ nw sg) 0))), (0, .ref (a 0)), (1, .int (nI sg)), (2, .int (nI q))] := lv_re hl9 2 rfl (show nI 0 = nI (cnt (vsS σ nw sg) 0) from rfl)
  exact L8_1 ((99 - 0) + 1) 0 (Nat.lt_succ_self _) (by omega) (by exact Nat.zero_le _) locs hS ls hl9
set_option maxHeartbeats 4000000 in
set_option maxRecDepth 100000 in
theorem c_X3_burning (l : Launch) (D : va_G) (cI cZ cL cO : ClassId) (a : Nat → Nat) (th : Int32) (n nw ns : Nat) (σ η : Sg) (H : Heap) (hB : n ≤ 10 ∧ nw ≤ 20 ∧ ns ≤ 6) (hz : bz σ) : Met l yX3_burning wsX3_burning ({ frames := 2, cells := 0, slots := 0, locals := 43 } : Room) (ro_P D (T4 cI cZ cL cO) (wM cI cZ a th n nw ns σ η) H [.ref (a 0)]) (ro_Q (nI (lb σ nw)) H) 0 0 (fun _ => False) := by
  refine ro_of (cc := cX3_burning) (maxL := 3) (by decide) rfl (Nat.le_of_ble_eq_true rfl) rfl ?_
  intro p e s m args below meth c Q ls locs hx hb hml hown hts hK hE hP hl hS hEnd
  have hl : lv_has ls 3 [(0, .ref (a 0))] := hl
  have hX3 : ∀ w ∈ wsX30, w.before args s = true := fun w h => hts w (List.mem_cons_of_mem _ (List.mem_append_right _ (h)))
  have f58 : (Cond.fieldLink RX3 58 "LanternWalkModel" "walkers" "I").before args s = true := hts _ (List.mem_of_getElem? (i := 1) rfl)
  refine lv_iconst (v := nI 0) hx hb dX3_burning_0 rfl ?_
  refine lv_istore_n (lv' := [(1, .int (nI 0)), (0, .ref (a 0))]) hx hb dX3_burning_1 rfl hl (by decide) rfl (fun ls hl => ?_)
  refine lv_iconst (v := nI 0) hx hb dX3_burning_2 rfl ?_
  refine lv_istore_n (lv' := [(2, .int (nI 0)), (1, .int (nI 0)), (0, .ref (a 0))]) hx hb dX3_burning_3 rfl hl (by decide) rfl (fun ls hl => ?_)
  have L4_1 : ∀ (fuel : Nat) (k : Nat), (nw - k) < fuel → (k ≤ nw) → ∀ (locs : List Loc), va_S (fun _ => False) H H locs → ∀ (ls : Array Slot), lv_has ls 3 [(2, .int (nI k)), (1, .int (nI (cnt (lbS σ) k))), (0, .ref (a 0))] → W p l e ({ frames := 2, cells := 0, slots := 0, locals := 43 } : Room) s m args below meth c H locs 0 0 Q (F0 m 4 ls []) := by
    intro fuel
    induction fuel with
    | zero =>
      intro k hfuel
      exact absurd hfuel (Nat.not_lt_zero _)
    | succ fuel ih4 =>
      intro k hfuel4 hk locs hS ls hl
      refine lv_iload_n hx hb dX3_burning_4 rfl (lv_at hl 0 rfl) ?_
      refine lv_aload_n hx hb dX3_burning_5 rfl (lv_at hl 2 rfl) ?_
      refine li_gf3 hx hb hX3 hown hK hP 0 rfl 5 (by decide) f58 rfl dX3_burning_6 ?_
      refine li_ge (tgt := 39) hx hb dX3_burning_9 (by decide) (by omega) (by omega) (fun c2 => ?_) (fun c2 => ?_)
      · skip
        refine lv_iload_n hx hb dX3_burning_39 rfl (lv_at hl 1 rfl) ?_
        refine li_topi (show nI (cnt (lbS σ) k) = nI (lb σ nw) from by rw [show k = nw by omega]; rfl) ?_
        exact hEnd 40 ls locs dX3_burning_40 hS
      · skip
        refine lv_iload_n hx hb dX3_burning_12 rfl (lv_at hl 1 rfl) ?_
        refine lv_aload_n hx hb dX3_burning_13 rfl (lv_at hl 2 rfl) ?_
        refine lv_iload_n hx hb dX3_burning_14 rfl (lv_at hl 0 rfl) ?_
        refine roV (As := [.int (nI k)]) (q0 := 0) (ci := 3) hx hb hml hown hts (c_X3_walks l D cI cZ cL cO a th n nw ns σ η H k (hB) (by omega)) (cwV 1 hts gX3_burning_X3_walks rfl rfl rfl (by decide +kernel) ⟨by decide, by decide⟩) hK hE hP rfl rfl rfl rfl hl.1 rfl (Nat.le_of_ble_eq_true rfl) hS dX3_burning_15 ⟨Nat.zero_le _, Nat.zero_le _⟩ (fun locs hS => ?_)
        refine li_zeq (tgt := 30) hx hb dX3_burning_18 (by decide) (fun c3 => ?_) (fun c3 => ?_)
        · skip
          replace c3 := of_decide_eq_false c3
          refine lv_iconst (v := nI 0) hx hb dX3_burning_30 rfl ?_
          refine lv_iadd hx hb dX3_burning_31 ?_
          refine li_topi (nI_add _ _) ?_
          refine lv_istore_n (lv' := [(1, .int (nI ((cnt (lbS σ) k) + 0))), (2, .int (nI k)), (0, .ref (a 0))]) hx hb dX3_burning_32 rfl hl (by decide) rfl (fun ls hl => ?_)
          refine lv_iinc (v := nI (k + 1)) (lv' := [(2, .int (nI (k + 1))), (1, .int (nI ((cnt (lbS σ) k) + 0))), (0, .ref (a 0))]) hx hb dX3_burning_33 hl (k := 1) rfl (nI_inc _ _) (by decide) rfl (fun ls hl => ?_)
          refine lv_goto (tgt := 4) hx hb dX3_burning_36 (by decide) ?_
          have hl9 : lv_has ls 3 [(2, .int (nI (k + 1))), (1, .int (nI ((cnt (lbS σ) k) + 0))), (0, .ref (a 0))] := lv_sub hl [0, 1, 2] rfl
          have hl9 : lv_has ls 3 [(2, .int (nI (k + 1))), (1, .int (nI (cnt (lbS σ) (k + 1)))), (0, .ref (a 0))] := lv_re hl9 1 rfl (show nI ((cnt (lbS σ) k) + 0) = nI (cnt (lbS σ) (k + 1)) from by first | exact lb_s hz c3 | exact lb_n c3)
          exact ih4 (k + 1) (by omega) (by omega) locs hS ls hl9
        · skip
          replace c3 := of_decide_eq_true c3
          refine lv_aload_n hx hb dX3_burning_21 rfl (lv_at hl 2 rfl) ?_
          refine lv_iload_n hx hb dX3_burning_22 rfl (lv_at hl 0 rfl) ?_
          refine lv_iconst (v := nI 3) hx hb dX3_burning_23 rfl ?_
          refine roV (As := [.int (nI k), .int (nI 3)]) (q0 := 0) (ci := 3) hx hb hml hown hts (c_X3_pe l D cI cZ cL cO a th n nw ns σ η H k 3 (hB) (by omega) (by omega)) (cwV 2 hts gX3_burning_X3_pe rfl rfl rfl (by decide +kernel) ⟨by decide, by decide⟩) hK hE hP rfl rfl rfl rfl hl.1 rfl (Nat.le_of_ble_eq_true rfl) hS dX3_burning_24 ⟨Nat.zero_le _, Nat.zero_le _⟩ (fun locs hS => ?_)
          refine li_topi (show σ (pid 3) k = σ 11 k from rfl) ?_
          refine lv_goto (tgt := 31) hx hb dX3_burning_27 (by decide) ?_
          refine lv_iadd hx hb dX3_burning_31 ?_
          refine lv_istore_n (lv' := [(1, .int ((nI (cnt (lbS σ) k)) + (σ 11 k))), (2, .int (nI k)), (0, .ref (a 0))]) hx hb dX3_burning_32 rfl hl (by decide) rfl (fun ls hl => ?_)
          refine lv_iinc (v := nI (k + 1)) (lv' := [(2, .int (nI (k + 1))), (1, .int ((nI (cnt (lbS σ) k)) + (σ 11 k))), (0, .ref (a 0))]) hx hb dX3_burning_33 hl (k := 1) rfl (nI_inc _ _) (by decide) rfl (fun ls hl => ?_)
          refine lv_goto (tgt := 4) hx hb dX3_burning_36 (by decide) ?_
          have hl9 : lv_has ls 3 [(2, .int (nI (k + 1))), (1, .int ((nI (cnt (lbS σ) k)) + (σ 11 k))), (0, .ref (a 0))] := lv_sub hl [0, 1, 2] rfl
          have hl9 : lv_has ls 3 [(2, .int (nI (k + 1))), (1, .int (nI (cnt (lbS σ) (k + 1)))), (0, .ref (a 0))] := lv_re hl9 1 rfl (show (nI (cnt (lbS σ) k)) + (σ 11 k) = nI (cnt (lbS σ) (k + 1)) from by first | exact lb_s hz c3 | exact lb_n c3)
          exact ih4 (k + 1) (by omega) (by omega) locs hS ls hl9
  have hl9 : lv_has ls 3 [(2, .int (nI 0)), (1, .int (nI 0)), (0, .ref (a 0))] := lv_sub hl [0, 1, 2] rfl
  have hl9 : lv_has ls 3 [(2, .int (nI 0)), (1, .int (nI (cnt (lbS σ) 0))), (0, .ref (a 0))] := lv_re hl9 1 rfl (show nI 0 = nI (cnt (lbS σ) 0) from rfl)
  exact L4_1 ((nw - 0) + 1) 0 (Nat.lt_succ_self _) (by omega) locs hS ls hl9
set_option maxHeartbeats 4000000 in
set_option maxRecDepth 100000 in
theorem c_X3_end (l : Launch) (D : va_G) (cI cZ cL cO : ClassId) (a : Nat → Nat) (th : Int32) (n nw ns : Nat) (σ η : Sg) (H : Heap) (b : Bool) (hB : n ≤ 10 ∧ nw ≤ 20 ∧ ns ≤ 6) : Met l yX3_end wsX3_end ({ frames := 2, cells := 0, slots := 0, locals := 43 } : Room) (ro_P D (T4 cI cZ cL cO) (wM cI cZ a th n nw ns σ η) H [.ref (a 0), .int (zI b)]) (ro_Q (en σ b nw) H) 0 0 (fun _ => False) := by
  refine ro_of (cc := cX3_end) (maxL := 4) (by decide) rfl (Nat.le_of_ble_eq_true rfl) rfl ?_
  intro p e s m args below meth c Q ls locs hx hb hml hown hts hK hE hP hl hS hEnd
  have hl : lv_has ls 4 [(0, .ref (a 0)), (1, .int (zI b))] := hl
  have hX3 : ∀ w ∈ wsX30, w.before args s = true := fun w h => hts w (List.mem_cons_of_mem _ (List.mem_append_right _ (h)))
  have f58 : (Cond.fieldLink RX3 58 "LanternWalkModel" "walkers" "I").before args s = true := hts _ (List.mem_of_getElem? (i := 1) rfl)
  refine lv_iconst (v := (-1)) hx hb dX3_end_0 rfl ?_
  refine lv_istore_n (lv' := [(2, .int (-1)), (0, .ref (a 0)), (1, .int (zI b))]) hx hb dX3_end_1 rfl hl (by decide) rfl (fun ls hl => ?_)
  refine lv_iconst (v := nI 0) hx hb dX3_end_2 rfl ?_
  refine lv_istore_n (lv' := [(3, .int (nI 0)), (2, .int (-1)), (0, .ref (a 0)), (1, .int (zI b))]) hx hb dX3_end_3 rfl hl (by decide) rfl (fun ls hl => ?_)
  have L4_1 : ∀ (fuel : Nat) (k : Nat), (nw - k) < fuel → (k ≤ nw) → ∀ (locs : List Loc), va_S (fun _ => False) H H locs → ∀ (ls : Array Slot), lv_has ls 4 [(3, .int (nI k)), (2, .int (en σ b k)), (0, .ref (a 0)), (1, .int (zI b))] → W p l e ({ frames := 2, cells := 0, slots := 0, locals := 43 } : Room) s m args below meth c H locs 0 0 Q (F0 m 4 ls []) := by
    intro fuel
    induction fuel with
    | zero =>
      intro k hfuel
      exact absurd hfuel (Nat.not_lt_zero _)
    | succ fuel ih4 =>
      intro k hfuel4 hk locs hS ls hl
      refine lv_iload_n hx hb dX3_end_4 rfl (lv_at hl 0 rfl) ?_
      refine lv_aload_n hx hb dX3_end_5 rfl (lv_at hl 2 rfl) ?_
      refine li_gf3 hx hb hX3 hown hK hP 0 rfl 5 (by decide) f58 rfl dX3_end_6 ?_
      refine li_ge (tgt := 57) hx hb dX3_end_9 (by decide) (by omega) (by omega) (fun c2 => ?_) (fun c2 => ?_)
      · skip
        refine lv_iload_n hx hb dX3_end_57 rfl (lv_at hl 1 rfl) ?_
        refine li_topi (show en σ b k = en σ b nw from by rw [show k = nw by omega]) ?_
        exact hEnd 58 ls locs dX3_end_58 hS
      · skip
        refine lv_aload_n hx hb dX3_end_12 rfl (lv_at hl 2 rfl) ?_
        refine lv_iload_n hx hb dX3_end_13 rfl (lv_at hl 0 rfl) ?_
        refine roV (As := [.int (nI k)]) (q0 := 0) (ci := 3) hx hb hml hown hts (c_X3_walks l D cI cZ cL cO a th n nw ns σ η H k (hB) (by omega)) (cwV 1 hts gX3_end_X3_walks rfl rfl rfl (by decide +kernel) ⟨by decide, by decide⟩) hK hE hP rfl rfl rfl rfl hl.1 rfl (Nat.le_of_ble_eq_true rfl) hS dX3_end_14 ⟨Nat.zero_le _, Nat.zero_le _⟩ (fun locs hS => ?_)
        refine li_zeq (tgt := 51) hx hb dX3_end_17 (by decide) (fun c3 => ?_) (fun c3 => ?_)
        · skip
          replace c3 := of_decide_eq_false c3
          refine lv_iinc (v := nI (k + 1)) (lv' := [(3, .int (nI (k + 1))), (2, .int (en σ b k)), (0, .ref (a 0)), (1, .int (zI b))]) hx hb dX3_end_51 hl (k := 0) rfl (nI_inc _ _) (by decide) rfl (fun ls hl => ?_)
          refine lv_goto (tgt := 4) hx hb dX3_end_54 (by decide) ?_
          have hl9 : lv_has ls 4 [(3, .int (nI (k + 1))), (2, .int (en σ b k)), (0, .ref (a 0)), (1, .int (zI b))] := lv_sub hl [0, 1, 2, 3] rfl
          have hl9 : lv_has ls 4 [(3, .int (nI (k + 1))), (2, .int (en σ b (k + 1))), (0, .ref (a 0)), (1, .int (zI b))] := lv_re hl9 1 rfl (show en σ b k = en σ b (k + 1) from by first | exact (en_0 c3).symm | exact (en_a (by assumption) (by assumption)).symm | exact (en_b (by assumption) (by cases b <;> simp_all [zI, Int32.not_lt, show ¬ nI 1 = nI 0 from by decide, show ¬ nI 0 = nI 1 from by decide])).symm | exact (en_c (by assumption) (by cases b <;> simp_all [zI, Int32.not_lt, show ¬ nI 1 = nI 0 from by decide, show ¬ nI 0 = nI 1 from by decide])).symm)
          exact ih4 (k + 1) (by omega) (by omega) locs hS ls hl9
        · skip
          replace c3 := of_decide_eq_true c3
          refine lv_iload_n hx hb dX3_end_20 rfl (lv_at hl 1 rfl) ?_
          refine lv_iconst (v := (-1)) hx hb dX3_end_21 rfl ?_
          refine lv_icmp_eq (tgt := 44) hx hb dX3_end_22 (by decide) (fun c4 => ?_) (fun c4 => ?_)
          · skip
            refine lv_aload_n hx hb dX3_end_44 rfl (lv_at hl 2 rfl) ?_
            refine lv_iload_n hx hb dX3_end_45 rfl (lv_at hl 0 rfl) ?_
            refine lv_iconst (v := nI 5) hx hb dX3_end_46 rfl ?_
            refine roV (As := [.int (nI k), .int (nI 5)]) (q0 := 0) (ci := 3) hx hb hml hown hts (c_X3_pe l D cI cZ cL cO a th n nw ns σ η H k 5 (hB) (by omega) (by omega)) (cwV 2 hts gX3_end_X3_pe rfl rfl rfl (by decide +kernel) ⟨by decide, by decide⟩) hK hE hP rfl rfl rfl rfl hl.1 rfl (Nat.le_of_ble_eq_true rfl) hS dX3_end_47 ⟨Nat.zero_le _, Nat.zero_le _⟩ (fun locs hS => ?_)
            refine li_topi (show σ (pid 5) k = σ 13 k from rfl) ?_
            refine lv_istore_n (lv' := [(2, .int (σ 13 k)), (3, .int (nI k)), (0, .ref (a 0)), (1, .int (zI b))]) hx hb dX3_end_50 rfl hl (by decide) rfl (fun ls hl => ?_)
            refine lv_iinc (v := nI (k + 1)) (lv' := [(3, .int (nI (k + 1))), (2, .int (σ 13 k)), (0, .ref (a 0)), (1, .int (zI b))]) hx hb dX3_end_51 hl (k := 1) rfl (nI_inc _ _) (by decide) rfl (fun ls hl => ?_)
            refine lv_goto (tgt := 4) hx hb dX3_end_54 (by decide) ?_
            have hl9 : lv_has ls 4 [(3, .int (nI (k + 1))), (2, .int (σ 13 k)), (0, .ref (a 0)), (1, .int (zI b))] := lv_sub hl [0, 1, 2, 3] rfl
            have hl9 : lv_has ls 4 [(3, .int (nI (k + 1))), (2, .int (en σ b (k + 1))), (0, .ref (a 0)), (1, .int (zI b))] := lv_re hl9 1 rfl (show σ 13 k = en σ b (k + 1) from by first | exact (en_0 c4).symm | exact (en_a (by assumption) (by assumption)).symm | exact (en_b (by assumption) (by cases b <;> simp_all [zI, Int32.not_lt, show ¬ nI 1 = nI 0 from by decide, show ¬ nI 0 = nI 1 from by decide])).symm | exact (en_c (by assumption) (by cases b <;> simp_all [zI, Int32.not_lt, show ¬ nI 1 = nI 0 from by decide, show ¬ nI 0 = nI 1 from by decide])).symm)
            exact ih4 (k + 1) (by omega) (by omega) locs hS ls hl9
          · skip
            refine lv_iload_n hx hb dX3_end_25 rfl (lv_at hl 3 rfl) ?_
            refine lv_aload_n hx hb dX3_end_26 rfl (lv_at hl 2 rfl) ?_
            refine lv_iload_n hx hb dX3_end_27 rfl (lv_at hl 0 rfl) ?_
            refine lv_iconst (v := nI 5) hx hb dX3_end_28 rfl ?_
            refine roV (As := [.int (nI k), .int (nI 5)]) (q0 := 0) (ci := 3) hx hb hml hown hts (c_X3_pe l D cI cZ cL cO a th n nw ns σ η H k 5 (hB) (by omega) (by omega)) (cwV 2 hts gX3_end_X3_pe rfl rfl rfl (by decide +kernel) ⟨by decide, by decide⟩) hK hE hP rfl rfl rfl rfl hl.1 rfl (Nat.le_of_ble_eq_true rfl) hS dX3_end_29 ⟨Nat.zero_le _, Nat.zero_le _⟩ (fun locs hS => ?_)
            refine li_topi (show σ (pid 5) k = σ 13 k from rfl) ?_
            refine lv_iload_n hx hb dX3_end_32 rfl (lv_at hl 1 rfl) ?_
            refine lv_icmp_le (tgt := 40) hx hb dX3_end_33 (by decide) (fun c5 => ?_) (fun c5 => ?_)
            · skip
              refine lv_iconst (v := nI 0) hx hb dX3_end_40 rfl ?_
              refine lv_icmp_ne (tgt := 51) hx hb dX3_end_41 (by decide) (fun c6 => ?_) (fun c6 => ?_)
              · skip
                refine lv_iinc (v := nI (k + 1)) (lv' := [(3, .int (nI (k + 1))), (2, .int (en σ b k)), (0, .ref (a 0)), (1, .int (zI b))]) hx hb dX3_end_51 hl (k := 0) rfl (nI_inc _ _) (by decide) rfl (fun ls hl => ?_)
                refine lv_goto (tgt := 4) hx hb dX3_end_54 (by decide) ?_
                have hl9 : lv_has ls 4 [(3, .int (nI (k + 1))), (2, .int (en σ b k)), (0, .ref (a 0)), (1, .int (zI b))] := lv_sub hl [0, 1, 2, 3] rfl
                have hl9 : lv_has ls 4 [(3, .int (nI (k + 1))), (2, .int (en σ b (k + 1))), (0, .ref (a 0)), (1, .int (zI b))] := lv_re hl9 1 rfl (show en σ b k = en σ b (k + 1) from by first | exact (en_0 c6).symm | exact (en_a (by assumption) (by assumption)).symm | exact (en_b (by assumption) (by cases b <;> simp_all [zI, Int32.not_lt, show ¬ nI 1 = nI 0 from by decide, show ¬ nI 0 = nI 1 from by decide])).symm | exact (en_c (by assumption) (by cases b <;> simp_all [zI, Int32.not_lt, show ¬ nI 1 = nI 0 from by decide, show ¬ nI 0 = nI 1 from by decide])).symm)
                exact ih4 (k + 1) (by omega) (by omega) locs hS ls hl9
              · skip
                refine lv_aload_n hx hb dX3_end_44 rfl (lv_at hl 2 rfl) ?_
                refine lv_iload_n hx hb dX3_end_45 rfl (lv_at hl 0 rfl) ?_
                refine lv_iconst (v := nI 5) hx hb dX3_end_46 rfl ?_
                refine roV (As := [.int (nI k), .int (nI 5)]) (q0 := 0) (ci := 3) hx hb hml hown hts (c_X3_pe l D cI cZ cL cO a th n nw ns σ η H k 5 (hB) (by omega) (by omega)) (cwV 2 hts gX3_end_X3_pe rfl rfl rfl (by decide +kernel) ⟨by decide, by decide⟩) hK hE hP rfl rfl rfl rfl hl.1 rfl (Nat.le_of_ble_eq_true rfl) hS dX3_end_47 ⟨Nat.zero_le _, Nat.zero_le _⟩ (fun locs hS => ?_)
                refine li_topi (show σ (pid 5) k = σ 13 k from rfl) ?_
                refine lv_istore_n (lv' := [(2, .int (σ 13 k)), (3, .int (nI k)), (0, .ref (a 0)), (1, .int (zI b))]) hx hb dX3_end_50 rfl hl (by decide) rfl (fun ls hl => ?_)
                refine lv_iinc (v := nI (k + 1)) (lv' := [(3, .int (nI (k + 1))), (2, .int (σ 13 k)), (0, .ref (a 0)), (1, .int (zI b))]) hx hb dX3_end_51 hl (k := 1) rfl (nI_inc _ _) (by decide) rfl (fun ls hl => ?_)
                refine lv_goto (tgt := 4) hx hb dX3_end_54 (by decide) ?_
                have hl9 : lv_has ls 4 [(3, .int (nI (k + 1))), (2, .int (σ 13 k)), (0, .ref (a 0)), (1, .int (zI b))] := lv_sub hl [0, 1, 2, 3] rfl
                have hl9 : lv_has ls 4 [(3, .int (nI (k + 1))), (2, .int (en σ b (k + 1))), (0, .ref (a 0)), (1, .int (zI b))] := lv_re hl9 1 rfl (show σ 13 k = en σ b (k + 1) from by first | exact (en_0 c6).symm | exact (en_a (by assumption) (by assumption)).symm | exact (en_b (by assumption) (by cases b <;> simp_all [zI, Int32.not_lt, show ¬ nI 1 = nI 0 from by decide, show ¬ nI 0 = nI 1 from by decide])).symm | exact (en_c (by assumption) (by cases b <;> simp_all [zI, Int32.not_lt, show ¬ nI 1 = nI 0 from by decide, show ¬ nI 0 = nI 1 from by decide])).symm)
                exact ih4 (k + 1) (by omega) (by omega) locs hS ls hl9
            · skip
              refine lv_iconst (v := nI 1) hx hb dX3_end_36 rfl ?_
              refine lv_goto (tgt := 41) hx hb dX3_end_37 (by decide) ?_
              refine lv_icmp_ne (tgt := 51) hx hb dX3_end_41 (by decide) (fun c7 => ?_) (fun c7 => ?_)
              · skip
                refine lv_iinc (v := nI (k + 1)) (lv' := [(3, .int (nI (k + 1))), (2, .int (en σ b k)), (0, .ref (a 0)), (1, .int (zI b))]) hx hb dX3_end_51 hl (k := 0) rfl (nI_inc _ _) (by decide) rfl (fun ls hl => ?_)
                refine lv_goto (tgt := 4) hx hb dX3_end_54 (by decide) ?_
                have hl9 : lv_has ls 4 [(3, .int (nI (k + 1))), (2, .int (en σ b k)), (0, .ref (a 0)), (1, .int (zI b))] := lv_sub hl [0, 1, 2, 3] rfl
                have hl9 : lv_has ls 4 [(3, .int (nI (k + 1))), (2, .int (en σ b (k + 1))), (0, .ref (a 0)), (1, .int (zI b))] := lv_re hl9 1 rfl (show en σ b k = en σ b (k + 1) from by first | exact (en_0 c7).symm | exact (en_a (by assumption) (by assumption)).symm | exact (en_b (by assumption) (by cases b <;> simp_all [zI, Int32.not_lt, show ¬ nI 1 = nI 0 from by decide, show ¬ nI 0 = nI 1 from by decide])).symm | exact (en_c (by assumption) (by cases b <;> simp_all [zI, Int32.not_lt, show ¬ nI 1 = nI 0 from by decide, show ¬ nI 0 = nI 1 from by decide])).symm)
                exact ih4 (k + 1) (by omega) (by omega) locs hS ls hl9
              · skip
                refine lv_aload_n hx hb dX3_end_44 rfl (lv_at hl 2 rfl) ?_
                refine lv_iload_n hx hb dX3_end_45 rfl (lv_at hl 0 rfl) ?_
                refine lv_iconst (v := nI 5) hx hb dX3_end_46 rfl ?_
                refine roV (As := [.int (nI k), .int (nI 5)]) (q0 := 0) (ci := 3) hx hb hml hown hts (c_X3_pe l D cI cZ cL cO a th n nw ns σ η H k 5 (hB) (by omega) (by omega)) (cwV 2 hts gX3_end_X3_pe rfl rfl rfl (by decide +kernel) ⟨by decide, by decide⟩) hK hE hP rfl rfl rfl rfl hl.1 rfl (Nat.le_of_ble_eq_true rfl) hS dX3_end_47 ⟨Nat.zero_le _, Nat.zero_le _⟩ (fun locs hS => ?_)
                refine li_topi (show σ (pid 5) k = σ 13 k from rfl) ?_
                refine lv_istore_n (lv' := [(2, .int (σ 13 k)), (3, .int (nI k)), (0, .ref (a 0)), (1, .int (zI b))]) hx hb dX3_end_50 rfl hl (by decide) rfl (fun ls hl => ?_)
                refine lv_iinc (v := nI (k + 1)) (lv' := [(3, .int (nI (k + 1))), (2, .int (σ 13 k)), (0, .ref (a 0)), (1, .int (zI b))]) hx hb dX3_end_51 hl (k := 1) rfl (nI_inc _ _) (by decide) rfl (fun ls hl => ?_)
                refine lv_goto (tgt := 4) hx hb dX3_end_54 (by decide) ?_
                have hl9 : lv_has ls 4 [(3, .int (nI (k + 1))), (2, .int (σ 13 k)), (0, .ref (a 0)), (1, .int (zI b))] := lv_sub hl [0, 1, 2, 3] rfl
                have hl9 : lv_has ls 4 [(3, .int (nI (k + 1))), (2, .int (en σ b (k + 1))), (0, .ref (a 0)), (1, .int (zI b))] := lv_re hl9 1 rfl (show σ 13 k = en σ b (k + 1) from by first | exact (en_0 c7).symm | exact (en_a (by assumption) (by assumption)).symm | exact (en_b (by assumption) (by cases b <;> simp_all [zI, Int32.not_lt, show ¬ nI 1 = nI 0 from by decide, show ¬ nI 0 = nI 1 from by decide])).symm | exact (en_c (by assumption) (by cases b <;> simp_all [zI, Int32.not_lt, show ¬ nI 1 = nI 0 from by decide, show ¬ nI 0 = nI 1 from by decide])).symm)
                exact ih4 (k + 1) (by omega) (by omega) locs hS ls hl9
  have hl9 : lv_has ls 4 [(3, .int (nI 0)), (2, .int (-1)), (0, .ref (a 0)), (1, .int (zI b))] := lv_sub hl [0, 1, 2, 3] rfl
  have hl9 : lv_has ls 4 [(3, .int (nI 0)), (2, .int (en σ b 0)), (0, .ref (a 0)), (1, .int (zI b))] := lv_re hl9 1 rfl (show (-1) = en σ b 0 from rfl)
  exact L4_1 ((nw - 0) + 1) 0 (Nat.lt_succ_self _) (by omega) locs hS ls hl9
set_option maxHeartbeats 4000000 in
set_option maxRecDepth 100000 in
theorem c_X3_pairs (l : Launch) (D : va_G) (cI cZ cL cO : ClassId) (a : Nat → Nat) (th : Int32) (n nw ns : Nat) (σ η : Sg) (H : Heap) (hB : n ≤ 10 ∧ nw ≤ 20 ∧ ns ≤ 6) : Met l yX3_pairs wsX3_pairs ({ frames := 0, cells := 0, slots := 0, locals := 0 } : Room) (ro_P D (T4 cI cZ cL cO) (wM cI cZ a th n nw ns σ η) H [.ref (a 0)]) (ro_Q (nI (cnt (prS σ) 120)) H) 0 0 (fun _ => False) := by
  refine ro_of (cc := cX3_pairs) (maxL := 6) (by decide) rfl (Nat.le_of_ble_eq_true rfl) rfl ?_
  intro p e s m args below meth c Q ls locs hx hb hml hown hts hK hE hP hl hS hEnd
  have hl : lv_has ls 6 [(0, .ref (a 0))] := hl
  have hX3 : ∀ w ∈ wsX30, w.before args s = true := fun w h => hts w (List.mem_cons_of_mem _ (List.mem_append_right _ (h)))
  have f25 : (Cond.fieldLink RX3 25 "LanternWalkModel" "known" "[I").before args s = true := hts _ (List.mem_of_getElem? (i := 1) rfl)
  refine lv_iconst (v := nI 0) hx hb dX3_pairs_0 rfl ?_
  refine lv_istore_n (lv' := [(1, .int (nI 0)), (0, .ref (a 0))]) hx hb dX3_pairs_1 rfl hl (by decide) rfl (fun ls hl => ?_)
  refine lv_aload_n hx hb dX3_pairs_2 rfl (lv_at hl 1 rfl) ?_
  refine li_gf3 hx hb hX3 hown hK hP 0 rfl 9 (by decide) f25 rfl dX3_pairs_3 ?_
  refine lv_astore_n (lv' := [(2, .ref (a 6)), (1, .int (nI 0)), (0, .ref (a 0))]) hx hb dX3_pairs_6 rfl hl (by decide) rfl (fun ls hl => ?_)
  refine lv_aload_n hx hb dX3_pairs_7 rfl (lv_at hl 0 rfl) ?_
  refine li_alen hx hb hK hP 6 0 rfl rfl dX3_pairs_8 ?_
  refine lv_istore_n (lv' := [(3, .int (nI 120)), (2, .ref (a 6)), (1, .int (nI 0)), (0, .ref (a 0))]) hx hb dX3_pairs_9 rfl hl (by decide) rfl (fun ls hl => ?_)
  refine lv_iconst (v := nI 0) hx hb dX3_pairs_10 rfl ?_
  refine lv_istore (lv' := [(4, .int (nI 0)), (3, .int (nI 120)), (2, .ref (a 6)), (1, .int (nI 0)), (0, .ref (a 0))]) hx hb dX3_pairs_11 hl (by decide) rfl (fun ls hl => ?_)
  have L13_1 : ∀ (fuel : Nat) (k : Nat), (120 - k) < fuel → (k ≤ 120) → ∀ (locs : List Loc), va_S (fun _ => False) H H locs → ∀ (ls : Array Slot), lv_has ls 6 [(4, .int (nI k)), (3, .int (nI 120)), (2, .ref (a 6)), (1, .int (nI (cnt (prS σ) k))), (0, .ref (a 0))] → W p l e ({ frames := 0, cells := 0, slots := 0, locals := 0 } : Room) s m args below meth c H locs 0 0 Q (F0 m 13 ls []) := by
    intro fuel
    induction fuel with
    | zero =>
      intro k hfuel
      exact absurd hfuel (Nat.not_lt_zero _)
    | succ fuel ih13 =>
      intro k hfuel13 hk locs hS ls hl
      refine lv_iload hx hb dX3_pairs_13 (lv_at hl 0 rfl) ?_
      refine lv_iload_n hx hb dX3_pairs_15 rfl (lv_at hl 1 rfl) ?_
      refine li_ge (tgt := 44) hx hb dX3_pairs_16 (by decide) (by omega) (by omega) (fun c2 => ?_) (fun c2 => ?_)
      · skip
        refine lv_iload_n hx hb dX3_pairs_44 rfl (lv_at hl 3 rfl) ?_
        refine li_topi (show nI (cnt (prS σ) k) = nI (cnt (prS σ) 120) from by rw [show k = 120 by omega]) ?_
        exact hEnd 45 ls locs dX3_pairs_45 hS
      · skip
        refine lv_aload_n hx hb dX3_pairs_19 rfl (lv_at hl 2 rfl) ?_
        refine lv_iload hx hb dX3_pairs_20 (lv_at hl 0 rfl) ?_
        refine li_ild hx hb hK hP 6 0 rfl rfl (by omega) (by decide) dX3_pairs_22 ?_
        refine lv_istore (lv' := [(5, .int (σ 16 k)), (4, .int (nI k)), (3, .int (nI 120)), (2, .ref (a 6)), (1, .int (nI (cnt (prS σ) k))), (0, .ref (a 0))]) hx hb dX3_pairs_23 hl (by decide) rfl (fun ls hl => ?_)
        refine lv_iload_n hx hb dX3_pairs_25 rfl (lv_at hl 4 rfl) ?_
        refine lv_iload hx hb dX3_pairs_26 (lv_at hl 0 rfl) ?_
        refine lv_if_le (tgt := 35) hx hb dX3_pairs_28 (by decide) (fun c3 => ?_) (fun c3 => ?_)
        · skip
          refine lv_iconst (v := nI 0) hx hb dX3_pairs_35 rfl ?_
          refine lv_iadd hx hb dX3_pairs_36 ?_
          refine li_topi (nI_add _ _) ?_
          refine lv_istore_n (lv' := [(1, .int (nI ((cnt (prS σ) k) + 0))), (5, .int (σ 16 k)), (4, .int (nI k)), (3, .int (nI 120)), (2, .ref (a 6)), (0, .ref (a 0))]) hx hb dX3_pairs_37 rfl hl (by decide) rfl (fun ls hl => ?_)
          refine lv_iinc (v := nI (k + 1)) (lv' := [(4, .int (nI (k + 1))), (1, .int (nI ((cnt (prS σ) k) + 0))), (5, .int (σ 16 k)), (3, .int (nI 120)), (2, .ref (a 6)), (0, .ref (a 0))]) hx hb dX3_pairs_38 hl (k := 2) rfl (nI_inc _ _) (by decide) rfl (fun ls hl => ?_)
          refine lv_goto (tgt := 13) hx hb dX3_pairs_41 (by decide) ?_
          have hl9 : lv_has ls 6 [(4, .int (nI (k + 1))), (3, .int (nI 120)), (2, .ref (a 6)), (1, .int (nI ((cnt (prS σ) k) + 0))), (0, .ref (a 0))] := lv_sub hl [0, 3, 4, 1, 5] rfl
          have hl9 : lv_has ls 6 [(4, .int (nI (k + 1))), (3, .int (nI 120)), (2, .ref (a 6)), (1, .int (nI (cnt (prS σ) (k + 1)))), (0, .ref (a 0))] := lv_re hl9 3 rfl (show nI ((cnt (prS σ) k) + 0) = nI (cnt (prS σ) (k + 1)) from by first | exact cnt_t (decide_eq_true (Int32.not_le.mp c3)) | exact cnt_f (decide_eq_false (Int32.not_lt.mpr c3)))
          exact ih13 (k + 1) (by omega) (by omega) locs hS ls hl9
        · skip
          refine lv_iconst (v := nI 1) hx hb dX3_pairs_31 rfl ?_
          refine lv_goto (tgt := 36) hx hb dX3_pairs_32 (by decide) ?_
          refine lv_iadd hx hb dX3_pairs_36 ?_
          refine li_topi (nI_add _ _) ?_
          refine lv_istore_n (lv' := [(1, .int (nI ((cnt (prS σ) k) + 1))), (5, .int (σ 16 k)), (4, .int (nI k)), (3, .int (nI 120)), (2, .ref (a 6)), (0, .ref (a 0))]) hx hb dX3_pairs_37 rfl hl (by decide) rfl (fun ls hl => ?_)
          refine lv_iinc (v := nI (k + 1)) (lv' := [(4, .int (nI (k + 1))), (1, .int (nI ((cnt (prS σ) k) + 1))), (5, .int (σ 16 k)), (3, .int (nI 120)), (2, .ref (a 6)), (0, .ref (a 0))]) hx hb dX3_pairs_38 hl (k := 2) rfl (nI_inc _ _) (by decide) rfl (fun ls hl => ?_)
          refine lv_goto (tgt := 13) hx hb dX3_pairs_41 (by decide) ?_
          have hl9 : lv_has ls 6 [(4, .int (nI (k + 1))), (3, .int (nI 120)), (2, .ref (a 6)), (1, .int (nI ((cnt (prS σ) k) + 1))), (0, .ref (a 0))] := lv_sub hl [0, 3, 4, 1, 5] rfl
          have hl9 : lv_has ls 6 [(4, .int (nI (k + 1))), (3, .int (nI 120)), (2, .ref (a 6)), (1, .int (nI (cnt (prS σ) (k + 1)))), (0, .ref (a 0))] := lv_re hl9 3 rfl (show nI ((cnt (prS σ) k) + 1) = nI (cnt (prS σ) (k + 1)) from by first | exact cnt_t (decide_eq_true (Int32.not_le.mp c3)) | exact cnt_f (decide_eq_false (Int32.not_lt.mpr c3)))
          exact ih13 (k + 1) (by omega) (by omega) locs hS ls hl9
  have hl9 : lv_has ls 6 [(4, .int (nI 0)), (3, .int (nI 120)), (2, .ref (a 6)), (1, .int (nI 0)), (0, .ref (a 0))] := lv_sub hl [0, 1, 2, 3, 4] rfl
  have hl9 : lv_has ls 6 [(4, .int (nI 0)), (3, .int (nI 120)), (2, .ref (a 6)), (1, .int (nI (cnt (prS σ) 0))), (0, .ref (a 0))] := lv_re hl9 3 rfl (show nI 0 = nI (cnt (prS σ) 0) from rfl)
  exact L13_1 ((120 - 0) + 1) 0 (Nat.lt_succ_self _) (by omega) locs hS ls hl9
