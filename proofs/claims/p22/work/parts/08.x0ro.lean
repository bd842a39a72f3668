/-! the parade: questions that change nothing -/
set_option maxHeartbeats 4000000 in
set_option maxRecDepth 100000 in
theorem c_X2_cellOf (l : Launch) (D : va_G) (cI cZ cL cO : ClassId) (a : Nat → Nat) (n pl nw ns : Nat) (σ κ : Nat → Nat → Int32) (H : Heap) (w : Nat) (sg : Nat) (hB : n ≤ 10 ∧ pl ≤ 200 ∧ nw ≤ 20 ∧ ns ≤ 6) : Met l yX2_cellOf wsX2_cellOf ({ frames := 0, cells := 0, slots := 0, locals := 0 } : Room) (ro_P D (T4 cI cZ cL cO) (wP cI cZ a n pl nw ns σ κ) H [.int (nI w), .int (nI sg)]) (ro_Q (nI (6 * w + sg)) H) 0 0 (fun _ => False) := by
  refine ro_of (cc := cX2_cellOf) (maxL := 2) (by decide) rfl (Nat.le_of_ble_eq_true rfl) rfl ?_
  intro p e s m args below meth c Q ls locs hx hb hml hown hts hK hE hP hl hS hEnd
  have hl : lv_has ls 2 [(0, .int (nI w)), (1, .int (nI sg))] := hl
  refine lv_iload_n hx hb dX2_cellOf_0 rfl (lv_at hl 0 rfl) ?_
  refine lv_bipush (v := nI 6) hx hb dX2_cellOf_1 rfl ?_
  refine lv_imul hx hb dX2_cellOf_3 ?_
  refine li_topi (pk_mul _ _) ?_
  refine lv_iload_n hx hb dX2_cellOf_4 rfl (lv_at hl 1 rfl) ?_
  refine lv_iadd hx hb dX2_cellOf_5 ?_
  refine li_topi (nI_add _ _) ?_
  refine li_topi (show nI (w * 6 + sg) = nI (6 * w + sg) from by rw [Nat.mul_comm]) ?_
  exact hEnd 6 ls locs dX2_cellOf_6 hS
set_option maxHeartbeats 4000000 in
set_option maxRecDepth 100000 in
theorem c_X0_howManyAre (l : Launch) (D : va_G) (cI cZ cL cO : ClassId) (a : Nat → Nat) (n pl nw ns : Nat) (σ κ : Nat → Nat → Int32) (H : Heap) (x : Int32) (hB : n ≤ 10 ∧ pl ≤ 200 ∧ nw ≤ 20 ∧ ns ≤ 6) : Met l yX0_howManyAre wsX0_howManyAre ({ frames := 0, cells := 0, slots := 0, locals := 0 } : Room) (ro_P D (T4 cI cZ cL cO) (wP cI cZ a n pl nw ns σ κ) H [.ref (a 0), .int x]) (ro_Q (nI (hm σ nw x)) H) 0 0 (fun _ => False) := by
  refine ro_of (cc := cX0_howManyAre) (maxL := 4) (by decide) rfl (Nat.le_of_ble_eq_true rfl) rfl ?_
  intro p e s m args below meth c Q ls locs hx hb hml hown hts hK hE hP hl hS hEnd
  have hl : lv_has ls 4 [(0, .ref (a 0)), (1, .int x)] := hl
  have hX0 : ∀ w ∈ wsX00, w.before args s = true := fun w h => hts w (List.mem_cons_of_mem _ (List.mem_append_left _ (List.mem_append_right _ (h))))
  have hX1 : ∀ w ∈ wsX10, w.before args s = true := fun w h => hts w (List.mem_cons_of_mem _ (List.mem_append_right _ (h)))
  have f58 : (Cond.fieldLink RX0 58 "LanternWalk$Parade" "setting" "LLanternWalk$Setting;").before args s = true := hts _ (List.mem_of_getElem? (i := 1) rfl)
  have f92 : (Cond.fieldLink RX0 92 "LanternWalk$Setting" "walkers" "I").before args s = true := hts _ (List.mem_of_getElem? (i := 2) rfl)
  have f28 : (Cond.fieldLink RX0 28 "LanternWalk$Parade" "stage" "[I").before args s = true := hts _ (List.mem_of_getElem? (i := 3) rfl)
  refine lv_iconst (v := nI 0) hx hb dX0_howManyAre_0 rfl ?_
  refine lv_istore_n (lv' := [(2, .int (nI 0)), (0, .ref (a 0)), (1, .int x)]) hx hb dX0_howManyAre_1 rfl hl (by decide) rfl (fun ls hl => ?_)
  refine lv_iconst (v := nI 0) hx hb dX0_howManyAre_2 rfl ?_
  refine lv_istore_n (lv' := [(3, .int (nI 0)), (2, .int (nI 0)), (0, .ref (a 0)), (1, .int x)]) hx hb dX0_howManyAre_3 rfl hl (by decide) rfl (fun ls hl => ?_)
  have L4_1 : ∀ (fuel : Nat) (k : Nat), (nw - k) < fuel → (k ≤ nw) → ∀ (locs : List Loc), va_S (fun _ => False) H H locs → ∀ (ls : Array Slot), lv_has ls 4 [(3, .int (nI k)), (2, .int (nI (cnt (hmS σ x) k))), (0, .ref (a 0)), (1, .int x)] → W p l e ({ frames := 0, cells := 0, slots := 0, locals := 0 } : Room) s m args below meth c H locs 0 0 Q (F0 m 4 ls []) := by
    intro fuel
    induction fuel with
    | zero =>
      intro k hfuel
      exact absurd hfuel (Nat.not_lt_zero _)
    | succ fuel ih4 =>
      intro k hfuel4 hk locs hS ls hl
      refine lv_iload_n hx hb dX0_howManyAre_4 rfl (lv_at hl 0 rfl) ?_
      refine lv_aload_n hx hb dX0_howManyAre_5 rfl (lv_at hl 2 rfl) ?_
      refine li_gf0 hx hb hX0 hown hK hP 0 rfl 0 (by decide) f58 rfl dX0_howManyAre_6 ?_
      refine li_gf1 hx hb hX1 hown hK hP 16 rfl 6 (by decide) f92 rfl dX0_howManyAre_9 ?_
      refine li_ge (tgt := 34) hx hb dX0_howManyAre_12 (by decide) (by omega) (by omega) (fun c2 => ?_) (fun c2 => ?_)
      · skip
        refine lv_iload_n hx hb dX0_howManyAre_34 rfl (lv_at hl 1 rfl) ?_
        refine li_topi (show nI (cnt (hmS σ x) k) = nI (hm σ nw x) from by rw [show k = nw by omega]; rfl) ?_
        exact hEnd 35 ls locs dX0_howManyAre_35 hS
      · skip
        refine lv_aload_n hx hb dX0_howManyAre_15 rfl (lv_at hl 2 rfl) ?_
        refine li_gf0 hx hb hX0 hown hK hP 0 rfl 7 (by decide) f28 rfl dX0_howManyAre_16 ?_
        refine lv_iload_n hx hb dX0_howManyAre_19 rfl (lv_at hl 0 rfl) ?_
        refine li_ild hx hb hK hP 6 0 rfl rfl (by omega) (by decide) dX0_howManyAre_20 ?_
        refine lv_iload_n hx hb dX0_howManyAre_21 rfl (lv_at hl 3 rfl) ?_
        refine lv_icmp_ne (tgt := 28) hx hb dX0_howManyAre_22 (by decide) (fun c3 => ?_) (fun c3 => ?_)
        · skip
          refine lv_iinc (v := nI (k + 1)) (lv' := [(3, .int (nI (k + 1))), (2, .int (nI (cnt (hmS σ x) k))), (0, .ref (a 0)), (1, .int x)]) hx hb dX0_howManyAre_28 hl (k := 0) rfl (nI_inc _ _) (by decide) rfl (fun ls hl => ?_)
          refine lv_goto (tgt := 4) hx hb dX0_howManyAre_31 (by decide) ?_
          have hl9 : lv_has ls 4 [(3, .int (nI (k + 1))), (2, .int (nI (cnt (hmS σ x) k))), (0, .ref (a 0)), (1, .int x)] := lv_sub hl [0, 1, 2, 3] rfl
          have hl9 : lv_has ls 4 [(3, .int (nI (k + 1))), (2, .int (nI (cnt (hmS σ x) (k + 1)))), (0, .ref (a 0)), (1, .int x)] := lv_re hl9 1 rfl (show nI (cnt (hmS σ x) k) = nI (cnt (hmS σ x) (k + 1)) from by first | exact cnt_t (by simp [hmS, c2, c3]) | exact cnt_f (by simp [hmS, c2, c3]))
          exact ih4 (k + 1) (by omega) (by omega) locs hS ls hl9
        · skip
          refine lv_iinc (v := nI ((cnt (hmS σ x) k) + 1)) (lv' := [(2, .int (nI ((cnt (hmS σ x) k) + 1))), (3, .int (nI k)), (0, .ref (a 0)), (1, .int x)]) hx hb dX0_howManyAre_25 hl (k := 1) rfl (nI_inc _ _) (by decide) rfl (fun ls hl => ?_)
          refine lv_iinc (v := nI (k + 1)) (lv' := [(3, .int (nI (k + 1))), (2, .int (nI ((cnt (hmS σ x) k) + 1))), (0, .ref (a 0)), (1, .int x)]) hx hb dX0_howManyAre_28 hl (k := 1) rfl (nI_inc _ _) (by decide) rfl (fun ls hl => ?_)
          refine lv_goto (tgt := 4) hx hb dX0_howManyAre_31 (by decide) ?_
          have hl9 : lv_has ls 4 [(3, .int (nI (k + 1))), (2, .int (nI ((cnt (hmS σ x) k) + 1))), (0, .ref (a 0)), (1, .int x)] := lv_sub hl [0, 1, 2, 3] rfl
          have hl9 : lv_has ls 4 [(3, .int (nI (k + 1))), (2, .int (nI (cnt (hmS σ x) (k + 1)))), (0, .ref (a 0)), (1, .int x)] := lv_re hl9 1 rfl (show nI ((cnt (hmS σ x) k) + 1) = nI (cnt (hmS σ x) (k + 1)) from by first | exact cnt_t (by simp [hmS, c2, c3]) | exact cnt_f (by simp [hmS, c2, c3]))
          exact ih4 (k + 1) (by omega) (by omega) locs hS ls hl9
  have hl9 : lv_has ls 4 [(3, .int (nI 0)), (2, .int (nI 0)), (0, .ref (a 0)), (1, .int x)] := lv_sub hl [0, 1, 2, 3] rfl
  have hl9 : lv_has ls 4 [(3, .int (nI 0)), (2, .int (nI (cnt (hmS σ x) 0))), (0, .ref (a 0)), (1, .int x)] := lv_re hl9 1 rfl (show nI 0 = nI (cnt (hmS σ x) 0) from rfl)
  exact L4_1 ((nw - 0) + 1) 0 (Nat.lt_succ_self _) (by omega) locs hS ls hl9
set_option maxHeartbeats 4000000 in
set_option maxRecDepth 100000 in
theorem c_X0_lanternsBurning (l : Launch) (D : va_G) (cI cZ cL cO : ClassId) (a : Nat → Nat) (n pl nw ns : Nat) (σ κ : Nat → Nat → Int32) (H : Heap) (hB : n ≤ 10 ∧ pl ≤ 200 ∧ nw ≤ 20 ∧ ns ≤ 6) : Met l yX0_lanternsBurning wsX0_lanternsBurning ({ frames := 0, cells := 0, slots := 0, locals := 0 } : Room) (ro_P D (T4 cI cZ cL cO) (wP cI cZ a n pl nw ns σ κ) H [.ref (a 0)]) (ro_Q (nI (lb σ nw)) H) 0 0 (fun _ => False) := by
  refine ro_of (cc := cX0_lanternsBurning) (maxL := 3) (by decide) rfl (Nat.le_of_ble_eq_true rfl) rfl ?_
  intro p e s m args below meth c Q ls locs hx hb hml hown hts hK hE hP hl hS hEnd
  have hl : lv_has ls 3 [(0, .ref (a 0))] := hl
  have hX0 : ∀ w ∈ wsX00, w.before args s = true := fun w h => hts w (List.mem_cons_of_mem _ (List.mem_append_left _ (List.mem_append_right _ (h))))
  have hX1 : ∀ w ∈ wsX10, w.before args s = true := fun w h => hts w (List.mem_cons_of_mem _ (List.mem_append_right _ (h)))
  have f58 : (Cond.fieldLink RX0 58 "LanternWalk$Parade" "setting" "LLanternWalk$Setting;").before args s = true := hts _ (List.mem_of_getElem? (i := 1) rfl)
  have f92 : (Cond.fieldLink RX0 92 "LanternWalk$Setting" "walkers" "I").before args s = true := hts _ (List.mem_of_getElem? (i := 2) rfl)
  have f28 : (Cond.fieldLink RX0 28 "LanternWalk$Parade" "stage" "[I").before args s = true := hts _ (List.mem_of_getElem? (i := 3) rfl)
  have f24 : (Cond.fieldLink RX0 24 "LanternWalk$Parade" "burns" "[Z").before args s = true := hts _ (List.mem_of_getElem? (i := 4) rfl)
  refine lv_iconst (v := nI 0) hx hb dX0_lanternsBurning_0 rfl ?_
  refine lv_istore_n (lv' := [(1, .int (nI 0)), (0, .ref (a 0))]) hx hb dX0_lanternsBurning_1 rfl hl (by decide) rfl (fun ls hl => ?_)
  refine lv_iconst (v := nI 0) hx hb dX0_lanternsBurning_2 rfl ?_
  refine lv_istore_n (lv' := [(2, .int (nI 0)), (1, .int (nI 0)), (0, .ref (a 0))]) hx hb dX0_lanternsBurning_3 rfl hl (by decide) rfl (fun ls hl => ?_)
  have L4_1 : ∀ (fuel : Nat) (k : Nat), (nw - k) < fuel → (k ≤ nw) → ∀ (locs : List Loc), va_S (fun _ => False) H H locs → ∀ (ls : Array Slot), lv_has ls 3 [(2, .int (nI k)), (1, .int (nI (cnt (lbS σ) k))), (0, .ref (a 0))] → W p l e ({ frames := 0, cells := 0, slots := 0, locals := 0 } : Room) s m args below meth c H locs 0 0 Q (F0 m 4 ls []) := by
    intro fuel
    induction fuel with
    | zero =>
      intro k hfuel
      exact absurd hfuel (Nat.not_lt_zero _)
    | succ fuel ih4 =>
      intro k hfuel4 hk locs hS ls hl
      refine lv_iload_n hx hb dX0_lanternsBurning_4 rfl (lv_at hl 0 rfl) ?_
      refine lv_aload_n hx hb dX0_lanternsBurning_5 rfl (lv_at hl 2 rfl) ?_
      refine li_gf0 hx hb hX0 hown hK hP 0 rfl 0 (by decide) f58 rfl dX0_lanternsBurning_6 ?_
      refine li_gf1 hx hb hX1 hown hK hP 16 rfl 6 (by decide) f92 rfl dX0_lanternsBurning_9 ?_
      refine li_ge (tgt := 43) hx hb dX0_lanternsBurning_12 (by decide) (by omega) (by omega) (fun c2 => ?_) (fun c2 => ?_)
      · skip
        refine lv_iload_n hx hb dX0_lanternsBurning_43 rfl (lv_at hl 1 rfl) ?_
        refine li_topi (show nI (cnt (lbS σ) k) = nI (lb σ nw) from by rw [show k = nw by omega]; rfl) ?_
        exact hEnd 44 ls locs dX0_lanternsBurning_44 hS
      · skip
        refine lv_aload_n hx hb dX0_lanternsBurning_15 rfl (lv_at hl 2 rfl) ?_
        refine li_gf0 hx hb hX0 hown hK hP 0 rfl 7 (by decide) f28 rfl dX0_lanternsBurning_16 ?_
        refine lv_iload_n hx hb dX0_lanternsBurning_19 rfl (lv_at hl 0 rfl) ?_
        refine li_ild hx hb hK hP 6 0 rfl rfl (by omega) (by decide) dX0_lanternsBurning_20 ?_
        refine lv_iconst (v := nI 1) hx hb dX0_lanternsBurning_21 rfl ?_
        refine lv_icmp_ne (tgt := 37) hx hb dX0_lanternsBurning_22 (by decide) (fun c3 => ?_) (fun c3 => ?_)
        · skip
          refine lv_iinc (v := nI (k + 1)) (lv' := [(2, .int (nI (k + 1))), (1, .int (nI (cnt (lbS σ) k))), (0, .ref (a 0))]) hx hb dX0_lanternsBurning_37 hl (k := 0) rfl (nI_inc _ _) (by decide) rfl (fun ls hl => ?_)
          refine lv_goto (tgt := 4) hx hb dX0_lanternsBurning_40 (by decide) ?_
          have hl9 : lv_has ls 3 [(2, .int (nI (k + 1))), (1, .int (nI (cnt (lbS σ) k))), (0, .ref (a 0))] := lv_sub hl [0, 1, 2] rfl
          have hl9 : lv_has ls 3 [(2, .int (nI (k + 1))), (1, .int (nI (cnt (lbS σ) (k + 1)))), (0, .ref (a 0))] := lv_re hl9 1 rfl (show nI (cnt (lbS σ) k) = nI (cnt (lbS σ) (k + 1)) from by first | exact cnt_t (by simp [lbS, c2, c3]) | exact cnt_f (by simp [lbS, c2, c3]))
          exact ih4 (k + 1) (by omega) (by omega) locs hS ls hl9
        · skip
          refine lv_aload_n hx hb dX0_lanternsBurning_25 rfl (lv_at hl 2 rfl) ?_
          refine li_gf0 hx hb hX0 hown hK hP 0 rfl 6 (by decide) f24 rfl dX0_lanternsBurning_26 ?_
          refine lv_iload_n hx hb dX0_lanternsBurning_29 rfl (lv_at hl 0 rfl) ?_
          refine li_zld hx hb hK hP 5 1 rfl rfl (by omega) (by decide) dX0_lanternsBurning_30 ?_
          refine lv_if_eq (tgt := 37) hx hb dX0_lanternsBurning_31 (by decide) (fun c4 => ?_) (fun c4 => ?_)
          · skip
            refine lv_iinc (v := nI (k + 1)) (lv' := [(2, .int (nI (k + 1))), (1, .int (nI (cnt (lbS σ) k))), (0, .ref (a 0))]) hx hb dX0_lanternsBurning_37 hl (k := 0) rfl (nI_inc _ _) (by decide) rfl (fun ls hl => ?_)
            refine lv_goto (tgt := 4) hx hb dX0_lanternsBurning_40 (by decide) ?_
            have hl9 : lv_has ls 3 [(2, .int (nI (k + 1))), (1, .int (nI (cnt (lbS σ) k))), (0, .ref (a 0))] := lv_sub hl [0, 1, 2] rfl
            have hl9 : lv_has ls 3 [(2, .int (nI (k + 1))), (1, .int (nI (cnt (lbS σ) (k + 1)))), (0, .ref (a 0))] := lv_re hl9 1 rfl (show nI (cnt (lbS σ) k) = nI (cnt (lbS σ) (k + 1)) from by first | exact cnt_t (by simp [lbS, c2, c3, c4]) | exact cnt_f (by simp [lbS, c2, c3, c4]))
            exact ih4 (k + 1) (by omega) (by omega) locs hS ls hl9
          · skip
            refine lv_iinc (v := nI ((cnt (lbS σ) k) + 1)) (lv' := [(1, .int (nI ((cnt (lbS σ) k) + 1))), (2, .int (nI k)), (0, .ref (a 0))]) hx hb dX0_lanternsBurning_34 hl (k := 1) rfl (nI_inc _ _) (by decide) rfl (fun ls hl => ?_)
            refine lv_iinc (v := nI (k + 1)) (lv' := [(2, .int (nI (k + 1))), (1, .int (nI ((cnt (lbS σ) k) + 1))), (0, .ref (a 0))]) hx hb dX0_lanternsBurning_37 hl (k := 1) rfl (nI_inc _ _) (by decide) rfl (fun ls hl => ?_)
            refine lv_goto (tgt := 4) hx hb dX0_lanternsBurning_40 (by decide) ?_
            have hl9 : lv_has ls 3 [(2, .int (nI (k + 1))), (1, .int (nI ((cnt (lbS σ) k) + 1))), (0, .ref (a 0))] := lv_sub hl [0, 1, 2] rfl
            have hl9 : lv_has ls 3 [(2, .int (nI (k + 1))), (1, .int (nI (cnt (lbS σ) (k + 1)))), (0, .ref (a 0))] := lv_re hl9 1 rfl (show nI ((cnt (lbS σ) k) + 1) = nI (cnt (lbS σ) (k + 1)) from by first | exact cnt_t (by simp [lbS, c2, c3, c4]) | exact cnt_f (by simp [lbS, c2, c3, c4]))
            exact ih4 (k + 1) (by omega) (by omega) locs hS ls hl9
  have hl9 : lv_has ls 3 [(2, .int (nI 0)), (1, .int (nI 0)), (0, .ref (a 0))] := lv_sub hl [0, 1, 2] rfl
  have hl9 : lv_has ls 3 [(2, .int (nI 0)), (1, .int (nI (cnt (lbS σ) 0))), (0, .ref (a 0))] := lv_re hl9 1 rfl (show nI 0 = nI (cnt (lbS σ) 0) from rfl)
  exact L4_1 ((nw - 0) + 1) 0 (Nat.lt_succ_self _) (by omega) locs hS ls hl9
set_option maxHeartbeats 4000000 in
set_option maxRecDepth 100000 in
theorem c_X0_knowersOf (l : Launch) (D : va_G) (cI cZ cL cO : ClassId) (a : Nat → Nat) (n pl nw ns : Nat) (σ κ : Nat → Nat → Int32) (H : Heap) (sg : Nat) (hB : n ≤ 10 ∧ pl ≤ 200 ∧ nw ≤ 20 ∧ ns ≤ 6) (hs : sg < 6) : Met l yX0_knowersOf wsX0_knowersOf ({ frames := 1, cells := 0, slots := 0, locals := 21 } : Room) (ro_P D (T4 cI cZ cL cO) (wP cI cZ a n pl nw ns σ κ) H [.ref (a 0), .int (nI sg)]) (ro_Q (nI (kn σ nw sg)) H) 0 0 (fun _ => False) := by
  refine ro_of (cc := cX0_knowersOf) (maxL := 4) (by decide) rfl (Nat.le_of_ble_eq_true rfl) rfl ?_
  intro p e s m args below meth c Q ls locs hx hb hml hown hts hK hE hP hl hS hEnd
  have hl : lv_has ls 4 [(0, .ref (a 0)), (1, .int (nI sg))] := hl
  have hX0 : ∀ w ∈ wsX00, w.before args s = true := fun w h => hts w (List.mem_cons_of_mem _ (List.mem_append_left _ (List.mem_append_right _ (h))))
  have hX1 : ∀ w ∈ wsX10, w.before args s = true := fun w h => hts w (List.mem_cons_of_mem _ (List.mem_append_right _ (h)))
  have f58 : (Cond.fieldLink RX0 58 "LanternWalk$Parade" "setting" "LLanternWalk$Setting;").before args s = true := hts _ (List.mem_of_getElem? (i := 1) rfl)
  have f92 : (Cond.fieldLink RX0 92 "LanternWalk$Setting" "walkers" "I").before args s = true := hts _ (List.mem_of_getElem? (i := 2) rfl)
  have f40 : (Cond.fieldLink RX0 40 "LanternWalk$Parade" "known" "[I").before args s = true := hts _ (List.mem_of_getElem? (i := 3) rfl)
  have g3 : (Cond.initialized RX2).before args s = true := hts _ (List.mem_of_getElem? (i := 5) rfl)
  have g4 : (Cond.static yX2_cellOf).before args s = true := hts _ (List.mem_of_getElem? (i := 4) rfl)
  refine lv_iconst (v := nI 0) hx hb dX0_knowersOf_0 rfl ?_
  refine lv_istore_n (lv' := [(2, .int (nI 0)), (0, .ref (a 0)), (1, .int (nI sg))]) hx hb dX0_knowersOf_1 rfl hl (by decide) rfl (fun ls hl => ?_)
  refine lv_iconst (v := nI 0) hx hb dX0_knowersOf_2 rfl ?_
  refine lv_istore_n (lv' := [(3, .int (nI 0)), (2, .int (nI 0)), (0, .ref (a 0)), (1, .int (nI sg))]) hx hb dX0_knowersOf_3 rfl hl (by decide) rfl (fun ls hl => ?_)
  have L4_1 : ∀ (fuel : Nat) (k : Nat), (nw - k) < fuel → (k ≤ nw) → ∀ (locs : List Loc), va_S (fun _ => False) H H locs → ∀ (ls : Array Slot), lv_has ls 4 [(3, .int (nI k)), (2, .int (nI (cnt (knS σ sg) k))), (0, .ref (a 0)), (1, .int (nI sg))] → W p l e ({ frames := 1, cells := 0, slots := 0, locals := 21 } : Room) s m args below meth c H locs 0 0 Q (F0 m 4 ls []) := by
    intro fuel
    induction fuel with
    | zero =>
      intro k hfuel
      exact absurd hfuel (Nat.not_lt_zero _)
    | succ fuel ih4 =>
      intro k hfuel4 hk locs hS ls hl
      refine lv_iload_n hx hb dX0_knowersOf_4 rfl (lv_at hl 0 rfl) ?_
      refine lv_aload_n hx hb dX0_knowersOf_5 rfl (lv_at hl 2 rfl) ?_
      refine li_gf0 hx hb hX0 hown hK hP 0 rfl 0 (by decide) f58 rfl dX0_knowersOf_6 ?_
      refine li_gf1 hx hb hX1 hown hK hP 16 rfl 6 (by decide) f92 rfl dX0_knowersOf_9 ?_
      refine li_ge (tgt := 37) hx hb dX0_knowersOf_12 (by decide) (by omega) (by omega) (fun c2 => ?_) (fun c2 => ?_)
      · skip
        refine lv_iload_n hx hb dX0_knowersOf_37 rfl (lv_at hl 1 rfl) ?_
        refine li_topi (show nI (cnt (knS σ sg) k) = nI (kn σ nw sg) from by rw [show k = nw by omega]; rfl) ?_
        exact hEnd 38 ls locs dX0_knowersOf_38 hS
      · skip
        refine lv_aload_n hx hb dX0_knowersOf_15 rfl (lv_at hl 2 rfl) ?_
        refine li_gf0 hx hb hX0 hown hK hP 0 rfl 11 (by decide) f40 rfl dX0_knowersOf_16 ?_
        refine lv_iload_n hx hb dX0_knowersOf_19 rfl (lv_at hl 0 rfl) ?_
        refine lv_iload_n hx hb dX0_knowersOf_20 rfl (lv_at hl 3 rfl) ?_
        refine roSN (As := [.int (nI k), .int (nI sg)]) hx hb hml hown hts (c_X2_cellOf l D cI cZ cL cO a n pl nw ns σ κ H k sg (hB)) ⟨va_cnB 2 hts gX0_knowersOf_X2_cellOf_n104 rfl rfl rfl hE.1 g3 (by decide +kernel) ⟨by decide, by decide⟩, g4, trivial⟩ hK hE hP rfl hl.1 rfl (Nat.le_of_ble_eq_true rfl) hS dX0_knowersOf_21 ⟨Nat.zero_le _, Nat.zero_le _⟩ (fun locs hS => ?_)
        refine li_ild hx hb hK hP 10 0 rfl rfl (by omega) (by decide) dX0_knowersOf_24 ?_
        refine lv_if_eq (tgt := 31) hx hb dX0_knowersOf_25 (by decide) (fun c3 => ?_) (fun c3 => ?_)
        · skip
          refine lv_iinc (v := nI (k + 1)) (lv' := [(3, .int (nI (k + 1))), (2, .int (nI (cnt (knS σ sg) k))), (0, .ref (a 0)), (1, .int (nI sg))]) hx hb dX0_knowersOf_31 hl (k := 0) rfl (nI_inc _ _) (by decide) rfl (fun ls hl => ?_)
          refine lv_goto (tgt := 4) hx hb dX0_knowersOf_34 (by decide) ?_
          have hl9 : lv_has ls 4 [(3, .int (nI (k + 1))), (2, .int (nI (cnt (knS σ sg) k))), (0, .ref (a 0)), (1, .int (nI sg))] := lv_sub hl [0, 1, 2, 3] rfl
          have hl9 : lv_has ls 4 [(3, .int (nI (k + 1))), (2, .int (nI (cnt (knS σ sg) (k + 1)))), (0, .ref (a 0)), (1, .int (nI sg))] := lv_re hl9 1 rfl (show nI (cnt (knS σ sg) k) = nI (cnt (knS σ sg) (k + 1)) from by first | exact cnt_t (by simp [knS, c2, c3]) | exact cnt_f (by simp [knS, c2, c3]))
          exact ih4 (k + 1) (by omega) (by omega) locs hS ls hl9
        · skip
          refine lv_iinc (v := nI ((cnt (knS σ sg) k) + 1)) (lv' := [(2, .int (nI ((cnt (knS σ sg) k) + 1))), (3, .int (nI k)), (0, .ref (a 0)), (1, .int (nI sg))]) hx hb dX0_knowersOf_28 hl (k := 1) rfl (nI_inc _ _) (by decide) rfl (fun ls hl => ?_)
          refine lv_iinc (v := nI (k + 1)) (lv' := [(3, .int (nI (k + 1))), (2, .int (nI ((cnt (knS σ sg) k) + 1))), (0, .ref (a 0)), (1, .int (nI sg))]) hx hb dX0_knowersOf_31 hl (k := 1) rfl (nI_inc _ _) (by decide) rfl (fun ls hl => ?_)
          refine lv_goto (tgt := 4) hx hb dX0_knowersOf_34 (by decide) ?_
          have hl9 : lv_has ls 4 [(3, .int (nI (k + 1))), (2, .int (nI ((cnt (knS σ sg) k) + 1))), (0, .ref (a 0)), (1, .int (nI sg))] := lv_sub hl [0, 1, 2, 3] rfl
          have hl9 : lv_has ls 4 [(3, .int (nI (k + 1))), (2, .int (nI (cnt (knS σ sg) (k + 1)))), (0, .ref (a 0)), (1, .int (nI sg))] := lv_re hl9 1 rfl (show nI ((cnt (knS σ sg) k) + 1) = nI (cnt (knS σ sg) (k + 1)) from by first | exact cnt_t (by simp [knS, c2, c3]) | exact cnt_f (by simp [knS, c2, c3]))
          exact ih4 (k + 1) (by omega) (by omega) locs hS ls hl9
  have hl9 : lv_has ls 4 [(3, .int (nI 0)), (2, .int (nI 0)), (0, .ref (a 0)), (1, .int (nI sg))] := lv_sub hl [0, 1, 2, 3] rfl
  have hl9 : lv_has ls 4 [(3, .int (nI 0)), (2, .int (nI (cnt (knS σ sg) 0))), (0, .ref (a 0)), (1, .int (nI sg))] := lv_re hl9 1 rfl (show nI 0 = nI (cnt (knS σ sg) 0) from rfl)
  exact L4_1 ((nw - 0) + 1) 0 (Nat.lt_succ_self _) (by omega) locs hS ls hl9
set_option maxHeartbeats 4000000 in
set_option maxRecDepth 100000 in
theorem c_X0_songsKnownInAll (l : Launch) (D : va_G) (cI cZ cL cO : ClassId) (a : Nat → Nat) (n pl nw ns : Nat) (σ κ : Nat → Nat → Int32) (H : Heap) (hB : n ≤ 10 ∧ pl ≤ 200 ∧ nw ≤ 20 ∧ ns ≤ 6) : Met l yX0_songsKnownInAll wsX0_songsKnownInAll ({ frames := 2, cells := 0, slots := 0, locals := 44 } : Room) (ro_P D (T4 cI cZ cL cO) (wP cI cZ a n pl nw ns σ κ) H [.ref (a 0)]) (ro_Q (nI (sumN (kn σ nw) ns)) H) 0 0 (fun _ => False) := by
  refine ro_of (cc := cX0_songsKnownInAll) (maxL := 3) (by decide) rfl (Nat.le_of_ble_eq_true rfl) rfl ?_
  intro p e s m args below meth c Q ls locs hx hb hml hown hts hK hE hP hl hS hEnd
  have hl : lv_has ls 3 [(0, .ref (a 0))] := hl
  have hX0 : ∀ w ∈ wsX00, w.before args s = true := fun w h => hts w (List.mem_cons_of_mem _ (List.mem_append_left _ (List.mem_append_right _ (h))))
  have hX1 : ∀ w ∈ wsX10, w.before args s = true := fun w h => hts w (List.mem_cons_of_mem _ (List.mem_append_right _ (h)))
  have f58 : (Cond.fieldLink RX0 58 "LanternWalk$Parade" "setting" "LLanternWalk$Setting;").before args s = true := hts _ (List.mem_of_getElem? (i := 1) rfl)
  have f97 : (Cond.fieldLink RX0 97 "LanternWalk$Setting" "songs" "I").before args s = true := hts _ (List.mem_of_getElem? (i := 2) rfl)
  refine lv_iconst (v := nI 0) hx hb dX0_songsKnownInAll_0 rfl ?_
  refine lv_istore_n (lv' := [(1, .int (nI 0)), (0, .ref (a 0))]) hx hb dX0_songsKnownInAll_1 rfl hl (by decide) rfl (fun ls hl => ?_)
  refine lv_iconst (v := nI 0) hx hb dX0_songsKnownInAll_2 rfl ?_
  refine lv_istore_n (lv' := [(2, .int (nI 0)), (1, .int (nI 0)), (0, .ref (a 0))]) hx hb dX0_songsKnownInAll_3 rfl hl (by decide) rfl (fun ls hl => ?_)
  have L4_1 : ∀ (fuel : Nat) (k : Nat), (ns - k) < fuel → (k ≤ ns) → ∀ (locs : List Loc), va_S (fun _ => False) H H locs → ∀ (ls : Array Slot), lv_has ls 3 [(2, .int (nI k)), (1, .int (nI (sumN (kn σ nw) k))), (0, .ref (a 0))] → W p l e ({ frames := 2, cells := 0, slots := 0, locals := 44 } : Room) s m args below meth c H locs 0 0 Q (F0 m 4 ls []) := by
    intro fuel
    induction fuel with
    | zero =>
      intro k hfuel
      exact absurd hfuel (Nat.not_lt_zero _)
    | succ fuel ih4 =>
      intro k hfuel4 hk locs hS ls hl
      refine lv_iload_n hx hb dX0_songsKnownInAll_4 rfl (lv_at hl 0 rfl) ?_
      refine lv_aload_n hx hb dX0_songsKnownInAll_5 rfl (lv_at hl 2 rfl) ?_
      refine li_gf0 hx hb hX0 hown hK hP 0 rfl 0 (by decide) f58 rfl dX0_songsKnownInAll_6 ?_
      refine li_gf1 hx hb hX1 hown hK hP 16 rfl 9 (by decide) f97 rfl dX0_songsKnownInAll_9 ?_
      refine li_ge (tgt := 29) hx hb dX0_songsKnownInAll_12 (by decide) (by omega) (by omega) (fun c2 => ?_) (fun c2 => ?_)
      · skip
        refine lv_iload_n hx hb dX0_songsKnownInAll_29 rfl (lv_at hl 1 rfl) ?_
        refine li_topi (show nI (sumN (kn σ nw) k) = nI (sumN (kn σ nw) ns) from by rw [show k = ns by omega]) ?_
        exact hEnd 30 ls locs dX0_songsKnownInAll_30 hS
      · skip
        refine lv_iload_n hx hb dX0_songsKnownInAll_15 rfl (lv_at hl 1 rfl) ?_
        refine lv_aload_n hx hb dX0_songsKnownInAll_16 rfl (lv_at hl 2 rfl) ?_
        refine lv_iload_n hx hb dX0_songsKnownInAll_17 rfl (lv_at hl 0 rfl) ?_
        refine roV (As := [.int (nI k)]) (q0 := 0) (ci := 0) hx hb hml hown hts (c_X0_knowersOf l D cI cZ cL cO a n pl nw ns σ κ H k (hB) (by omega)) (cwV 1 hts gX0_songsKnownInAll_X0_knowersOf rfl rfl rfl (by decide +kernel) ⟨by decide, by decide⟩) hK hE hP rfl rfl rfl rfl hl.1 rfl (Nat.le_of_ble_eq_true rfl) hS dX0_songsKnownInAll_18 ⟨Nat.zero_le _, Nat.zero_le _⟩ (fun locs hS => ?_)
        refine lv_iadd hx hb dX0_songsKnownInAll_21 ?_
        refine li_topi (nI_add _ _) ?_
        refine lv_istore_n (lv' := [(1, .int (nI ((sumN (kn σ nw) k) + (kn σ nw k)))), (2, .int (nI k)), (0, .ref (a 0))]) hx hb dX0_songsKnownInAll_22 rfl hl (by decide) rfl (fun ls hl => ?_)
        refine lv_iinc (v := nI (k + 1)) (lv' := [(2, .int (nI (k + 1))), (1, .int (nI ((sumN (kn σ nw) k) + (kn σ nw k)))), (0, .ref (a 0))]) hx hb dX0_songsKnownInAll_23 hl (k := 1) rfl (nI_inc _ _) (by decide) rfl (fun ls hl => ?_)
        refine lv_goto (tgt := 4) hx hb dX0_songsKnownInAll_26 (by decide) ?_
        have hl9 : lv_has ls 3 [(2, .int (nI (k + 1))), (1, .int (nI ((sumN (kn σ nw) k) + (kn σ nw k)))), (0, .ref (a 0))] := lv_sub hl [0, 1, 2] rfl
        have hl9 : lv_has ls 3 [(2, .int (nI (k + 1))), (1, .int (nI (sumN (kn σ nw) (k + 1)))), (0, .ref (a 0))] := lv_re hl9 1 rfl (show nI ((sumN (kn σ nw) k) + (kn σ nw k)) = nI (sumN (kn σ nw) (k + 1)) from rfl)
        exact ih4 (k + 1) (by omega) (by omega) locs hS ls hl9
  have hl9 : lv_has ls 3 [(2, .int (nI 0)), (1, .int (nI 0)), (0, .ref (a 0))] := lv_sub hl [0, 1, 2] rfl
  have hl9 : lv_has ls 3 [(2, .int (nI 0)), (1, .int (nI (sumN (kn σ nw) 0))), (0, .ref (a 0))] := lv_re hl9 1 rfl (show nI 0 = nI (sumN (kn σ nw) 0) from rfl)
  exact L4_1 ((ns - 0) + 1) 0 (Nat.lt_succ_self _) (by omega) locs hS ls hl9
set_option maxHeartbeats 4000000 in
set_option maxRecDepth 100000 in
theorem c_X0_knowersOfVersion (l : Launch) (D : va_G) (cI cZ cL cO : ClassId) (a : Nat → Nat) (n pl nw ns : Nat) (σ κ : Nat → Nat → Int32) (H : Heap) (sg : Nat) (v : Int32) (hB : n ≤ 10 ∧ pl ≤ 200 ∧ nw ≤ 20 ∧ ns ≤ 6) (hs : sg < 6) : Met l yX0_knowersOfVersion wsX0_knowersOfVersion ({ frames := 1, cells := 0, slots := 0, locals := 21 } : Room) (ro_P D (T4 cI cZ cL cO) (wP cI cZ a n pl nw ns σ κ) H [.ref (a 0), .int (nI sg), .int v]) (ro_Q (nI (kv σ nw sg v)) H) 0 0 (fun _ => False) := by
  refine ro_of (cc := cX0_knowersOfVersion) (maxL := 5) (by decide) rfl (Nat.le_of_ble_eq_true rfl) rfl ?_
  intro p e s m args below meth c Q ls locs hx hb hml hown hts hK hE hP hl hS hEnd
  have hl : lv_has ls 5 [(0, .ref (a 0)), (1, .int (nI sg)), (2, .int v)] := hl
  have hX0 : ∀ w ∈ wsX00, w.before args s = true := fun w h => hts w (List.mem_cons_of_mem _ (List.mem_append_left _ (List.mem_append_right _ (h))))
  have hX1 : ∀ w ∈ wsX10, w.before args s = true := fun w h => hts w (List.mem_cons_of_mem _ (List.mem_append_right _ (h)))
  have f58 : (Cond.fieldLink RX0 58 "LanternWalk$Parade" "setting" "LLanternWalk$Setting;").before args s = true := hts _ (List.mem_of_getElem? (i := 1) rfl)
  have f92 : (Cond.fieldLink RX0 92 "LanternWalk$Setting" "walkers" "I").before args s = true := hts _ (List.mem_of_getElem? (i := 2) rfl)
  have f40 : (Cond.fieldLink RX0 40 "LanternWalk$Parade" "known" "[I").before args s = true := hts _ (List.mem_of_getElem? (i := 3) rfl)
  have g3 : (Cond.initialized RX2).before args s = true := hts _ (List.mem_of_getElem? (i := 5) rfl)
  have g4 : (Cond.static yX2_cellOf).before args s = true := hts _ (List.mem_of_getElem? (i := 4) rfl)
  refine lv_iconst (v := nI 0) hx hb dX0_knowersOfVersion_0 rfl ?_
  refine lv_istore_n (lv' := [(3, .int (nI 0)), (0, .ref (a 0)), (1, .int (nI sg)), (2, .int v)]) hx hb dX0_knowersOfVersion_1 rfl hl (by decide) rfl (fun ls hl => ?_)
  refine lv_iconst (v := nI 0) hx hb dX0_knowersOfVersion_2 rfl ?_
  refine lv_istore (lv' := [(4, .int (nI 0)), (3, .int (nI 0)), (0, .ref (a 0)), (1, .int (nI sg)), (2, .int v)]) hx hb dX0_knowersOfVersion_3 hl (by decide) rfl (fun ls hl => ?_)
  have L5_1 : ∀ (fuel : Nat) (k : Nat), (nw - k) < fuel → (k ≤ nw) → ∀ (locs : List Loc), va_S (fun _ => False) H H locs → ∀ (ls : Array Slot), lv_has ls 5 [(4, .int (nI k)), (3, .int (nI (cnt (kvS σ sg v) k))), (0, .ref (a 0)), (1, .int (nI sg)), (2, .int v)] → W p l e ({ frames := 1, cells := 0, slots := 0, locals := 21 } : Room) s m args below meth c H locs 0 0 Q (F0 m 5 ls []) := by
    intro fuel
    induction fuel with
    | zero =>
      intro k hfuel
      exact absurd hfuel (Nat.not_lt_zero _)
    | succ fuel ih5 =>
      intro k hfuel5 hk locs hS ls hl
      refine lv_iload hx hb dX0_knowersOfVersion_5 (lv_at hl 0 rfl) ?_
      refine lv_aload_n hx hb dX0_knowersOfVersion_7 rfl (lv_at hl 2 rfl) ?_
      refine li_gf0 hx hb hX0 hown hK hP 0 rfl 0 (by decide) f58 rfl dX0_knowersOfVersion_8 ?_
      refine li_gf1 hx hb hX1 hown hK hP 16 rfl 6 (by decide) f92 rfl dX0_knowersOfVersion_11 ?_
      refine li_ge (tgt := 41) hx hb dX0_knowersOfVersion_14 (by decide) (by omega) (by omega) (fun c2 => ?_) (fun c2 => ?_)
      · skip
        refine lv_iload_n hx hb dX0_knowersOfVersion_41 rfl (lv_at hl 1 rfl) ?_
        refine li_topi (show nI (cnt (kvS σ sg v) k) = nI (kv σ nw sg v) from by rw [show k = nw by omega]; rfl) ?_
        exact hEnd 42 ls locs dX0_knowersOfVersion_42 hS
      · skip
        refine lv_aload_n hx hb dX0_knowersOfVersion_17 rfl (lv_at hl 2 rfl) ?_
        refine li_gf0 hx hb hX0 hown hK hP 0 rfl 11 (by decide) f40 rfl dX0_knowersOfVersion_18 ?_
        refine lv_iload hx hb dX0_knowersOfVersion_21 (lv_at hl 0 rfl) ?_
        refine lv_iload_n hx hb dX0_knowersOfVersion_23 rfl (lv_at hl 3 rfl) ?_
        refine roSN (As := [.int (nI k), .int (nI sg)]) hx hb hml hown hts (c_X2_cellOf l D cI cZ cL cO a n pl nw ns σ κ H k sg (hB)) ⟨va_cnB 2 hts gX0_knowersOfVersion_X2_cellOf_n104 rfl rfl rfl hE.1 g3 (by decide +kernel) ⟨by decide, by decide⟩, g4, trivial⟩ hK hE hP rfl hl.1 rfl (Nat.le_of_ble_eq_true rfl) hS dX0_knowersOfVersion_24 ⟨Nat.zero_le _, Nat.zero_le _⟩ (fun locs hS => ?_)
        refine li_ild hx hb hK hP 10 0 rfl rfl (by omega) (by decide) dX0_knowersOfVersion_27 ?_
        refine lv_iload_n hx hb dX0_knowersOfVersion_28 rfl (lv_at hl 4 rfl) ?_
        refine lv_icmp_ne (tgt := 35) hx hb dX0_knowersOfVersion_29 (by decide) (fun c3 => ?_) (fun c3 => ?_)
        · skip
          refine lv_iinc (v := nI (k + 1)) (lv' := [(4, .int (nI (k + 1))), (3, .int (nI (cnt (kvS σ sg v) k))), (0, .ref (a 0)), (1, .int (nI sg)), (2, .int v)]) hx hb dX0_knowersOfVersion_35 hl (k := 0) rfl (nI_inc _ _) (by decide) rfl (fun ls hl => ?_)
          refine lv_goto (tgt := 5) hx hb dX0_knowersOfVersion_38 (by decide) ?_
          have hl9 : lv_has ls 5 [(4, .int (nI (k + 1))), (3, .int (nI (cnt (kvS σ sg v) k))), (0, .ref (a 0)), (1, .int (nI sg)), (2, .int v)] := lv_sub hl [0, 1, 2, 3, 4] rfl
          have hl9 : lv_has ls 5 [(4, .int (nI (k + 1))), (3, .int (nI (cnt (kvS σ sg v) (k + 1)))), (0, .ref (a 0)), (1, .int (nI sg)), (2, .int v)] := lv_re hl9 1 rfl (show nI (cnt (kvS σ sg v) k) = nI (cnt (kvS σ sg v) (k + 1)) from by first | exact cnt_t (by simp [kvS, c2, c3]) | exact cnt_f (by simp [kvS, c2, c3]))
          exact ih5 (k + 1) (by omega) (by omega) locs hS ls hl9
        · skip
          refine lv_iinc (v := nI ((cnt (kvS σ sg v) k) + 1)) (lv' := [(3, .int (nI ((cnt (kvS σ sg v) k) + 1))), (4, .int (nI k)), (0, .ref (a 0)), (1, .int (nI sg)), (2, .int v)]) hx hb dX0_knowersOfVersion_32 hl (k := 1) rfl (nI_inc _ _) (by decide) rfl (fun ls hl => ?_)
          refine lv_iinc (v := nI (k + 1)) (lv' := [(4, .int (nI (k + 1))), (3, .int (nI ((cnt (kvS σ sg v) k) + 1))), (0, .ref (a 0)), (1, .int (nI sg)), (2, .int v)]) hx hb dX0_knowersOfVersion_35 hl (k := 1) rfl (nI_inc _ _) (by decide) rfl (fun ls hl => ?_)
          refine lv_goto (tgt := 5) hx hb dX0_knowersOfVersion_38 (by decide) ?_
          have hl9 : lv_has ls 5 [(4, .int (nI (k + 1))), (3, .int (nI ((cnt (kvS σ sg v) k) + 1))), (0, .ref (a 0)), (1, .int (nI sg)), (2, .int v)] := lv_sub hl [0, 1, 2, 3, 4] rfl
          have hl9 : lv_has ls 5 [(4, .int (nI (k + 1))), (3, .int (nI (cnt (kvS σ sg v) (k + 1)))), (0, .ref (a 0)), (1, .int (nI sg)), (2, .int v)] := lv_re hl9 1 rfl (show nI ((cnt (kvS σ sg v) k) + 1) = nI (cnt (kvS σ sg v) (k + 1)) from by first | exact cnt_t (by simp [kvS, c2, c3]) | exact cnt_f (by simp [kvS, c2, c3]))
          exact ih5 (k + 1) (by omega) (by omega) locs hS ls hl9
  have hl9 : lv_has ls 5 [(4, .int (nI 0)), (3, .int (nI 0)), (0, .ref (a 0)), (1, .int (nI sg)), (2, .int v)] := lv_sub hl [0, 1, 2, 3, 4] rfl
  have hl9 : lv_has ls 5 [(4, .int (nI 0)), (3, .int (nI (cnt (kvS σ sg v) 0))), (0, .ref (a 0)), (1, .int (nI sg)), (2, .int v)] := lv_re hl9 1 rfl (show nI 0 = nI (cnt (kvS σ sg v) 0) from rfl)
  exact L5_1 ((nw - 0) + 1) 0 (Nat.lt_succ_self _) (by omega) locs hS ls hl9
set_option maxHeartbeats 4000000 in
set_option maxRecDepth 100000 in
theorem c_X0_versionsOf (l : Launch) (D : va_G) (cI cZ cL cO : ClassId) (a : Nat → Nat) (n pl nw ns : Nat) (σ κ : Nat → Nat → Int32) (H : Heap) (sg : Nat) (hB : n ≤ 10 ∧ pl ≤ 200 ∧ nw ≤ 20 ∧ ns ≤ 6) (hs : sg < 6) : Met l yX0_versionsOf wsX0_versionsOf ({ frames := 2, cells := 0, slots := 0, locals := 45 } : Room) (ro_P D (T4 cI cZ cL cO) (wP cI cZ a n pl nw ns σ κ) H [.ref (a 0), .int (nI sg)]) (ro_Q (nI (vs σ nw sg)) H) 0 0 (fun _ => False) := by
  refine ro_of (cc := cX0_versionsOf) (maxL := 4) (by decide) rfl (Nat.le_of_ble_eq_true rfl) rfl ?_
  intro p e s m args below meth c Q ls locs hx hb hml hown hts hK hE hP hl hS hEnd
  have hl : lv_has ls 4 [(0, .ref (a 0)), (1, .int (nI sg))] := hl
  refine lv_iconst (v := nI 0) hx hb dX0_versionsOf_0 rfl ?_
  refine lv_istore_n (lv' := [(2, .int (nI 0)), (0, .ref (a 0)), (1, .int (nI sg))]) hx hb dX0_versionsOf_1 rfl hl (by decide) rfl (fun ls hl => ?_)
  refine lv_iconst (v := nI 1) hx hb dX0_versionsOf_2 rfl ?_
  refine lv_istore_n (lv' := [(3, .int (nI 1)), (2, .int (nI 0)), (0, .ref (a 0)), (1, .int (nI sg))]) hx hb dX0_versionsOf_3 rfl hl (by decide) rfl (fun ls hl => ?_)
  have L4_1 : ∀ (fuel : Nat) (k : Nat), (99 - k) < fuel → (k ≤ 99) → ∀ (locs : List Loc), va_S (fun _ => False) H H locs → ∀ (ls : Array Slot), lv_has ls 4 [(3, .int (nI (k + 1))), (2, .int (nI (cnt (vsS σ nw sg) k))), (0, .ref (a 0)), (1, .int (nI sg))] → W p l e ({ frames := 2, cells := 0, slots := 0, locals := 45 } : Room) s m args below meth c H locs 0 0 Q (F0 m 4 ls []) := by
    intro fuel
    induction fuel with
    | zero =>
      intro k hfuel
      exact absurd hfuel (Nat.not_lt_zero _)
    | succ fuel ih4 =>
      intro k hfuel4 hk locs hS ls hl
      refine lv_iload_n hx hb dX0_versionsOf_4 rfl (lv_at hl 0 rfl) ?_
      refine lv_bipush (v := nI 99) hx hb dX0_versionsOf_5 rfl ?_
      refine li_gt (tgt := 28) hx hb dX0_versionsOf_7 (by decide) (by omega) (by omega) (fun c2 => ?_) (fun c2 => ?_)
      · skip
        refine lv_iload_n hx hb dX0_versionsOf_28 rfl (lv_at hl 1 rfl) ?_
        refine li_topi (show nI (cnt (vsS σ nw sg) k) = nI (vs σ nw sg) from by rw [show k = 99 by omega]; rfl) ?_
        exact hEnd 29 ls locs dX0_versionsOf_29 hS
      · skip
        refine lv_aload_n hx hb dX0_versionsOf_10 rfl (lv_at hl 2 rfl) ?_
        refine lv_iload_n hx hb dX0_versionsOf_11 rfl (lv_at hl 3 rfl) ?_
        refine lv_iload_n hx hb dX0_versionsOf_12 rfl (lv_at hl 0 rfl) ?_
        refine roV (As := [.int (nI sg), .int (nI (k + 1))]) (q0 := 0) (ci := 0) hx hb hml hown hts (c_X0_knowersOfVersion l D cI cZ cL cO a n pl nw ns σ κ H sg (nI (k + 1)) (hB) (by omega)) (cwV 2 hts gX0_versionsOf_X0_knowersOfVersion rfl rfl rfl (by decide +kernel) ⟨by decide, by decide⟩) hK hE hP rfl rfl rfl rfl hl.1 rfl (Nat.le_of_ble_eq_true rfl) hS dX0_versionsOf_13 ⟨Nat.zero_le _, Nat.zero_le _⟩ (fun locs hS => ?_)
        refine li_le0 (tgt := 22) hx hb dX0_versionsOf_16 (by decide) (by first | omega | (have := cnt_le (kvS σ sg (nI (k + 1))) nw; unfold kv; omega)) (fun c3 => ?_) (fun c3 => ?_)
        · skip
          refine lv_iinc (v := nI (k + 1 + 1)) (lv' := [(3, .int (nI (k + 1 + 1))), (2, .int (nI (cnt (vsS σ nw sg) k))), (0, .ref (a 0)), (1, .int (nI sg))]) hx hb dX0_versionsOf_22 hl (k := 0) rfl (nI_inc _ _) (by decide) rfl (fun ls hl => ?_)
          refine lv_goto (tgt := 4) hx hb dX0_versionsOf_25 (by decide) ?_
          have hl9 : lv_has ls 4 [(3, .int (nI (k + 1 + 1))), (2, .int (nI (cnt (vsS σ nw sg) k))), (0, .ref (a 0)), (1, .int (nI sg))] := lv_sub hl [0, 1, 2, 3] rfl
          have hl9 : lv_has ls 4 [(3, .int (nI ((k + 1) + 1))), (2, .int (nI (cnt (vsS σ nw sg) k))), (0, .ref (a 0)), (1, .int (nI sg))] := lv_re hl9 0 rfl (show nI (k + 1 + 1) = nI ((k + 1) + 1) from by simp [c2, c3])
          have hl9 : lv_has ls 4 [(3, .int (nI ((k + 1) + 1))), (2, .int (nI (cnt (vsS σ nw sg) (k + 1)))), (0, .ref (a 0)), (1, .int (nI sg))] := lv_re hl9 1 rfl (show nI (cnt (vsS σ nw sg) k) = nI (cnt (vsS σ nw sg) (k + 1)) from by first | exact cnt_t (by simp [vsS, c2, c3]) | exact cnt_f (by simp [vsS, c2, c3]))
          exact ih4 (k + 1) (by omega) (by omega) locs hS ls hl9
        · skip
          refine lv_iinc (v := nI ((cnt (vsS σ nw sg) k) + 1)) (lv' := [(2, .int (nI ((cnt (vsS σ nw sg) k) + 1))), (3, .int (nI (k + 1))), (0, .ref (a 0)), (1, .int (nI sg))]) hx hb dX0_versionsOf_19 hl (k := 1) rfl (nI_inc _ _) (by decide) rfl (fun ls hl => ?_)
          refine lv_iinc (v := nI (k + 1 + 1)) (lv' := [(3, .int (nI (k + 1 + 1))), (2, .int (nI ((cnt (vsS σ nw sg) k) + 1))), (0, .ref (a 0)), (1, .int (nI sg))]) hx hb dX0_versionsOf_22 hl (k := 1) rfl (nI_inc _ _) (by decide) rfl (fun ls hl => ?_)
          refine lv_goto (tgt := 4) hx hb dX0_versionsOf_25 (by decide) ?_
          have hl9 : lv_has ls 4 [(3, .int (nI (k + 1 + 1))), (2, .int (nI ((cnt (vsS σ nw sg) k) + 1))), (0, .ref (a 0)), (1, .int (nI sg))] := lv_sub hl [0, 1, 2, 3] rfl
          have hl9 : lv_has ls 4 [(3, .int (nI ((k + 1) + 1))), (2, .int (nI ((cnt (vsS σ nw sg) k) + 1))), (0, .ref (a 0)), (1, .int (nI sg))] := lv_re hl9 0 rfl (show nI (k + 1 + 1) = nI ((k + 1) + 1) from by simp [c2, c3])
          have hl9 : lv_has ls 4 [(3, .int (nI ((k + 1) + 1))), (2, .int (nI (cnt (vsS σ nw sg) (k + 1)))), (0, .ref (a 0)), (1, .int (nI sg))] := lv_re hl9 1 rfl (show nI ((cnt (vsS σ nw sg) k) + 1) = nI (cnt (vsS σ nw sg) (k + 1)) from by first | exact cnt_t (by simp [vsS, c2, c3]) | exact cnt_f (by simp [vsS, c2, c3]))
          exact ih4 (k + 1) (by omega) (by omega) locs hS ls hl9
  have hl9 : lv_has ls 4 [(3, .int (nI 1)), (2, .int (nI 0)), (0, .ref (a 0)), (1, .int (nI sg))] := lv_sub hl [0, 1, 2, 3] rfl
  have hl9 : lv_has ls 4 [(3, .int (nI (0 + 1))), (2, .int (nI 0)), (0, .ref (a 0)), (1, .int (nI sg))] := lv_re hl9 0 rfl (show nI 1 = nI (0 + 1) from by simp [])
  have hl9 : lv_has ls 4 [(3, .int (nI (0 + 1))), (2, .int (nI (cnt (vsS σ nw sg) 0))), (0, .ref (a 0)), (1, .int (nI sg))] := lv_re hl9 1 rfl (show nI 0 = nI (cnt (vsS σ nw sg) 0) from rfl)
  exact L4_1 ((99 - 0) + 1) 0 (Nat.lt_succ_self _) (by omega) locs hS ls hl9
set_option maxHeartbeats 4000000 in
set_option maxRecDepth 100000 in
theorem c_X0_commonestVersionOf (l : Launch) (D : va_G) (cI cZ cL cO : ClassId) (a : Nat → Nat) (n pl nw ns : Nat) (σ κ : Nat → Nat → Int32) (H : Heap) (sg : Nat) (hB : n ≤ 10 ∧ pl ≤ 200 ∧ nw ≤ 20 ∧ ns ≤ 6) (hs : sg < 6) : Met l yX0_commonestVersionOf wsX0_commonestVersionOf ({ frames := 2, cells := 0, slots := 0, locals := 45 } : Room) (ro_P D (T4 cI cZ cL cO) (wP cI cZ a n pl nw ns σ κ) H [.ref (a 0), .int (nI sg)]) (ro_Q (nI ((cm σ nw sg 99).1)) H) 0 0 (fun _ => False) := by
  refine ro_of (cc := cX0_commonestVersionOf) (maxL := 6) (by decide) rfl (Nat.le_of_ble_eq_true rfl) rfl ?_
  intro p e s m args below meth c Q ls locs hx hb hml hown hts hK hE hP hl hS hEnd
  have hl : lv_has ls 6 [(0, .ref (a 0)), (1, .int (nI sg))] := hl
  refine lv_iconst (v := nI 0) hx hb dX0_commonestVersionOf_0 rfl ?_
  refine lv_istore_n (lv' := [(2, .int (nI 0)), (0, .ref (a 0)), (1, .int (nI sg))]) hx hb dX0_commonestVersionOf_1 rfl hl (by decide) rfl (fun ls hl => ?_)
  refine lv_iconst (v := nI 0) hx hb dX0_commonestVersionOf_2 rfl ?_
  refine lv_istore_n (lv' := [(3, .int (nI 0)), (2, .int (nI 0)), (0, .ref (a 0)), (1, .int (nI sg))]) hx hb dX0_commonestVersionOf_3 rfl hl (by decide) rfl (fun ls hl => ?_)
  refine lv_iconst (v := nI 1) hx hb dX0_commonestVersionOf_4 rfl ?_
  refine lv_istore (lv' := [(4, .int (nI 1)), (3, .int (nI 0)), (2, .int (nI 0)), (0, .ref (a 0)), (1, .int (nI sg))]) hx hb dX0_commonestVersionOf_5 hl (by decide) rfl (fun ls hl => ?_)
  have L7_1 : ∀ (fuel : Nat) (k : Nat), (99 - k) < fuel → (k ≤ 99) → ((cm σ nw sg k).2 ≤ 20) → ∀ (locs : List Loc), va_S (fun _ => False) H H locs → ∀ (ls : Array Slot), lv_has ls 6 [(4, .int (nI (k + 1))), (3, .int (nI ((cm σ nw sg k).2))), (2, .int (nI ((cm σ nw sg k).1))), (0, .ref (a 0)), (1, .int (nI sg))] → W p l e ({ frames := 2, cells := 0, slots := 0, locals := 45 } : Room) s m args below meth c H locs 0 0 Q (F0 m 7 ls []) := by
    intro fuel
    induction fuel with
    | zero =>
      intro k hfuel
      exact absurd hfuel (Nat.not_lt_zero _)
    | succ fuel ih7 =>
      intro k hfuel7 hk hc locs hS ls hl
      refine lv_iload hx hb dX0_commonestVersionOf_7 (lv_at hl 0 rfl) ?_
      refine lv_bipush (v := nI 99) hx hb dX0_commonestVersionOf_9 rfl ?_
      refine li_gt (tgt := 41) hx hb dX0_commonestVersionOf_11 (by decide) (by omega) (by omega) (fun c2 => ?_) (fun c2 => ?_)
      · skip
        refine lv_iload_n hx hb dX0_commonestVersionOf_41 rfl (lv_at hl 2 rfl) ?_
        refine li_topi (show nI ((cm σ nw sg k).1) = nI ((cm σ nw sg 99).1) from by rw [show k = 99 by omega]) ?_
        exact hEnd 42 ls locs dX0_commonestVersionOf_42 hS
      · skip
        refine lv_aload_n hx hb dX0_commonestVersionOf_14 rfl (lv_at hl 3 rfl) ?_
        refine lv_iload_n hx hb dX0_commonestVersionOf_15 rfl (lv_at hl 4 rfl) ?_
        refine lv_iload hx hb dX0_commonestVersionOf_16 (lv_at hl 0 rfl) ?_
        refine roV (As := [.int (nI sg), .int (nI (k + 1))]) (q0 := 0) (ci := 0) hx hb hml hown hts (c_X0_knowersOfVersion l D cI cZ cL cO a n pl nw ns σ κ H sg (nI (k + 1)) (hB) (by omega)) (cwV 2 hts gX0_commonestVersionOf_X0_knowersOfVersion rfl rfl rfl (by decide +kernel) ⟨by decide, by decide⟩) hK hE hP rfl rfl rfl rfl hl.1 rfl (Nat.le_of_ble_eq_true rfl) hS dX0_commonestVersionOf_18 ⟨Nat.zero_le _, Nat.zero_le _⟩ (fun locs hS => ?_)
        refine lv_istore (lv' := [(5, .int (nI (kv σ nw sg (nI (k + 1))))), (4, .int (nI (k + 1))), (3, .int (nI ((cm σ nw sg k).2))), (2, .int (nI ((cm σ nw sg k).1))), (0, .ref (a 0)), (1, .int (nI sg))]) hx hb dX0_commonestVersionOf_21 hl (by decide) rfl (fun ls hl => ?_)
        refine lv_iload hx hb dX0_commonestVersionOf_23 (lv_at hl 0 rfl) ?_
        refine lv_iload_n hx hb dX0_commonestVersionOf_25 rfl (lv_at hl 2 rfl) ?_
        refine li_le (tgt := 35) hx hb dX0_commonestVersionOf_26 (by decide) (by first | omega | (have := cnt_le (kvS σ sg (nI (k + 1))) nw; unfold kv; omega)) (by first | omega | (have := cnt_le (kvS σ sg (nI (k + 1))) nw; unfold kv; omega)) (fun c3 => ?_) (fun c3 => ?_)
        · skip
          refine lv_iinc (v := nI (k + 1 + 1)) (lv' := [(4, .int (nI (k + 1 + 1))), (5, .int (nI (kv σ nw sg (nI (k + 1))))), (3, .int (nI ((cm σ nw sg k).2))), (2, .int (nI ((cm σ nw sg k).1))), (0, .ref (a 0)), (1, .int (nI sg))]) hx hb dX0_commonestVersionOf_35 hl (k := 1) rfl (nI_inc _ _) (by decide) rfl (fun ls hl => ?_)
          refine lv_goto (tgt := 7) hx hb dX0_commonestVersionOf_38 (by decide) ?_
          have hl9 : lv_has ls 6 [(4, .int (nI (k + 1 + 1))), (3, .int (nI ((cm σ nw sg k).2))), (2, .int (nI ((cm σ nw sg k).1))), (0, .ref (a 0)), (1, .int (nI sg))] := lv_sub hl [0, 2, 3, 4, 5] rfl
          have hl9 : lv_has ls 6 [(4, .int (nI ((k + 1) + 1))), (3, .int (nI ((cm σ nw sg k).2))), (2, .int (nI ((cm σ nw sg k).1))), (0, .ref (a 0)), (1, .int (nI sg))] := lv_re hl9 0 rfl (show nI (k + 1 + 1) = nI ((k + 1) + 1) from by simp [c2, c3])
          have hl9 : lv_has ls 6 [(4, .int (nI ((k + 1) + 1))), (3, .int (nI ((cm σ nw sg (k + 1)).2))), (2, .int (nI ((cm σ nw sg k).1))), (0, .ref (a 0)), (1, .int (nI sg))] := lv_re hl9 1 rfl (show nI ((cm σ nw sg k).2) = nI ((cm σ nw sg (k + 1)).2) from by first | (simp only [cm]; rw [if_pos (by omega)]) | (simp only [cm]; rw [if_neg (by omega)]))
          have hl9 : lv_has ls 6 [(4, .int (nI ((k + 1) + 1))), (3, .int (nI ((cm σ nw sg (k + 1)).2))), (2, .int (nI ((cm σ nw sg (k + 1)).1))), (0, .ref (a 0)), (1, .int (nI sg))] := lv_re hl9 2 rfl (show nI ((cm σ nw sg k).1) = nI ((cm σ nw sg (k + 1)).1) from by first | (simp only [cm]; rw [if_pos (by omega)]) | (simp only [cm]; rw [if_neg (by omega)]))
          exact ih7 (k + 1) (by omega) (by omega) (by have h8 : kv σ nw sg (nI (k + 1)) ≤ nw := cnt_le _ _; simp only [cm]; split <;> omega) locs hS ls hl9
        · skip
          refine lv_iload hx hb dX0_commonestVersionOf_29 (lv_at hl 0 rfl) ?_
          refine lv_istore_n (lv' := [(3, .int (nI (kv σ nw sg (nI (k + 1))))), (5, .int (nI (kv σ nw sg (nI (k + 1))))), (4, .int (nI (k + 1))), (2, .int (nI ((cm σ nw sg k).1))), (0, .ref (a 0)), (1, .int (nI sg))]) hx hb dX0_commonestVersionOf_31 rfl hl (by decide) rfl (fun ls hl => ?_)
          refine lv_iload hx hb dX0_commonestVersionOf_32 (lv_at hl 2 rfl) ?_
          refine lv_istore_n (lv' := [(2, .int (nI (k + 1))), (3, .int (nI (kv σ nw sg (nI (k + 1))))), (5, .int (nI (kv σ nw sg (nI (k + 1))))), (4, .int (nI (k + 1))), (0, .ref (a 0)), (1, .int (nI sg))]) hx hb dX0_commonestVersionOf_34 rfl hl (by decide) rfl (fun ls hl => ?_)
          refine lv_iinc (v := nI (k + 1 + 1)) (lv' := [(4, .int (nI (k + 1 + 1))), (2, .int (nI (k + 1))), (3, .int (nI (kv σ nw sg (nI (k + 1))))), (5, .int (nI (kv σ nw sg (nI (k + 1))))), (0, .ref (a 0)), (1, .int (nI sg))]) hx hb dX0_commonestVersionOf_35 hl (k := 3) rfl (nI_inc _ _) (by decide) rfl (fun ls hl => ?_)
          refine lv_goto (tgt := 7) hx hb dX0_commonestVersionOf_38 (by decide) ?_
          have hl9 : lv_has ls 6 [(4, .int (nI (k + 1 + 1))), (3, .int (nI (kv σ nw sg (nI (k + 1))))), (2, .int (nI (k + 1))), (0, .ref (a 0)), (1, .int (nI sg))] := lv_sub hl [0, 2, 1, 4, 5] rfl
          have hl9 : lv_has ls 6 [(4, .int (nI ((k + 1) + 1))), (3, .int (nI (kv σ nw sg (nI (k + 1))))), (2, .int (nI (k + 1))), (0, .ref (a 0)), (1, .int (nI sg))] := lv_re hl9 0 rfl (show nI (k + 1 + 1) = nI ((k + 1) + 1) from by simp [c2, c3])
          have hl9 : lv_has ls 6 [(4, .int (nI ((k + 1) + 1))), (3, .int (nI ((cm σ nw sg (k + 1)).2))), (2, .int (nI (k + 1))), (0, .ref (a 0)), (1, .int (nI sg))] := lv_re hl9 1 rfl (show nI (kv σ nw sg (nI (k + 1))) = nI ((cm σ nw sg (k + 1)).2) from by first | (simp only [cm]; rw [if_pos (by omega)]) | (simp only [cm]; rw [if_neg (by omega)]))
          have hl9 : lv_has ls 6 [(4, .int (nI ((k + 1) + 1))), (3, .int (nI ((cm σ nw sg (k + 1)).2))), (2, .int (nI ((cm σ nw sg (k + 1)).1))), (0, .ref (a 0)), (1, .int (nI sg))] := lv_re hl9 2 rfl (show nI (k + 1) = nI ((cm σ nw sg (k + 1)).1) from by first | (simp only [cm]; rw [if_pos (by omega)]) | (simp only [cm]; rw [if_neg (by omega)]))
          exact ih7 (k + 1) (by omega) (by omega) (by have h8 : kv σ nw sg (nI (k + 1)) ≤ nw := cnt_le _ _; simp only [cm]; split <;> omega) locs hS ls hl9
  have hl9 : lv_has ls 6 [(4, .int (nI 1)), (3, .int (nI 0)), (2, .int (nI 0)), (0, .ref (a 0)), (1, .int (nI sg))] := lv_sub hl [0, 1, 2, 3, 4] rfl
  have hl9 : lv_has ls 6 [(4, .int (nI (0 + 1))), (3, .int (nI 0)), (2, .int (nI 0)), (0, .ref (a 0)), (1, .int (nI sg))] := lv_re hl9 0 rfl (show nI 1 = nI (0 + 1) from by simp [])
  have hl9 : lv_has ls 6 [(4, .int (nI (0 + 1))), (3, .int (nI ((cm σ nw sg 0).2))), (2, .int (nI 0)), (0, .ref (a 0)), (1, .int (nI sg))] := lv_re hl9 1 rfl (show nI 0 = nI ((cm σ nw sg 0).2) from rfl)
  have hl9 : lv_has ls 6 [(4, .int (nI (0 + 1))), (3, .int (nI ((cm σ nw sg 0).2))), (2, .int (nI ((cm σ nw sg 0).1))), (0, .ref (a 0)), (1, .int (nI sg))] := lv_re hl9 2 rfl (show nI 0 = nI ((cm σ nw sg 0).1) from rfl)
  exact L7_1 ((99 - 0) + 1) 0 (Nat.lt_succ_self _) (by omega) (by exact Nat.zero_le _) locs hS ls hl9
set_option maxHeartbeats 4000000 in
set_option maxRecDepth 100000 in
theorem c_X0_letsThrough (l : Launch) (D : va_G) (cI cZ cL cO : ClassId) (a : Nat → Nat) (n pl nw ns : Nat) (σ κ : Nat → Nat → Int32) (H : Heap) (sg : Nat) (hB : n ≤ 10 ∧ pl ≤ 200 ∧ nw ≤ 20 ∧ ns ≤ 6) (hs : sg < 10) : Met l yX0_letsThrough wsX0_letsThrough ({ frames := 0, cells := 0, slots := 0, locals := 0 } : Room) (ro_P D (T4 cI cZ cL cO) (wP cI cZ a n pl nw ns σ κ) H [.ref (a 0), .int (nI sg)]) (ro_Q (lt_ σ sg 2) H) 0 0 (fun _ => False) := by
  refine ro_of (cc := cX0_letsThrough) (maxL := 4) (by decide) rfl (Nat.le_of_ble_eq_true rfl) rfl ?_
  intro p e s m args below meth c Q ls locs hx hb hml hown hts hK hE hP hl hS hEnd
  have hl : lv_has ls 4 [(0, .ref (a 0)), (1, .int (nI sg))] := hl
  have hX0 : ∀ w ∈ wsX00, w.before args s = true := fun w h => hts w (List.mem_cons_of_mem _ (List.mem_append_left _ (List.mem_append_right _ (h))))
  have hX1 : ∀ w ∈ wsX10, w.before args s = true := fun w h => hts w (List.mem_cons_of_mem _ (List.mem_append_right _ (h)))
  have f58 : (Cond.fieldLink RX0 58 "LanternWalk$Parade" "setting" "LLanternWalk$Setting;").before args s = true := hts _ (List.mem_of_getElem? (i := 1) rfl)
  have f110 : (Cond.fieldLink RX0 110 "LanternWalk$Setting" "lets" "[I").before args s = true := hts _ (List.mem_of_getElem? (i := 2) rfl)
  have f9 : (Cond.fieldLink RX0 9 "LanternWalk$Parade" "corner" "[I").before args s = true := hts _ (List.mem_of_getElem? (i := 3) rfl)
  refine lv_aload_n hx hb dX0_letsThrough_0 rfl (lv_at hl 0 rfl) ?_
  refine li_gf0 hx hb hX0 hown hK hP 0 rfl 0 (by decide) f58 rfl dX0_letsThrough_1 ?_
  refine li_gf1 hx hb hX1 hown hK hP 16 rfl 3 (by decide) f110 rfl dX0_letsThrough_4 ?_
  refine lv_iload_n hx hb dX0_letsThrough_7 rfl (lv_at hl 1 rfl) ?_
  refine li_ild hx hb hK hP 18 0 rfl rfl (by omega) (by decide) dX0_letsThrough_8 ?_
  refine lv_istore_n (lv' := [(2, .int (σ 1 sg)), (0, .ref (a 0)), (1, .int (nI sg))]) hx hb dX0_letsThrough_9 rfl hl (by decide) rfl (fun ls hl => ?_)
  refine lv_iconst (v := nI 0) hx hb dX0_letsThrough_10 rfl ?_
  refine lv_istore_n (lv' := [(3, .int (nI 0)), (2, .int (σ 1 sg)), (0, .ref (a 0)), (1, .int (nI sg))]) hx hb dX0_letsThrough_11 rfl hl (by decide) rfl (fun ls hl => ?_)
  have L12_1 : ∀ (fuel : Nat) (k : Nat), (2 - k) < fuel → (k ≤ 2) → ∀ (locs : List Loc), va_S (fun _ => False) H H locs → ∀ (ls : Array Slot), lv_has ls 4 [(3, .int (nI k)), (2, .int (lt_ σ sg k)), (0, .ref (a 0)), (1, .int (nI sg))] → W p l e ({ frames := 0, cells := 0, slots := 0, locals := 0 } : Room) s m args below meth c H locs 0 0 Q (F0 m 12 ls []) := by
    intro fuel
    induction fuel with
    | zero =>
      intro k hfuel
      exact absurd hfuel (Nat.not_lt_zero _)
    | succ fuel ih12 =>
      intro k hfuel12 hk locs hS ls hl
      refine lv_iload_n hx hb dX0_letsThrough_12 rfl (lv_at hl 0 rfl) ?_
      refine lv_iconst (v := nI 2) hx hb dX0_letsThrough_13 rfl ?_
      refine li_ge (tgt := 36) hx hb dX0_letsThrough_14 (by decide) (by omega) (by omega) (fun c2 => ?_) (fun c2 => ?_)
      · skip
        refine lv_iload_n hx hb dX0_letsThrough_36 rfl (lv_at hl 1 rfl) ?_
        refine li_topi (show lt_ σ sg k = lt_ σ sg 2 from by rw [show k = 2 by omega]) ?_
        exact hEnd 37 ls locs dX0_letsThrough_37 hS
      · skip
        refine lv_aload_n hx hb dX0_letsThrough_17 rfl (lv_at hl 2 rfl) ?_
        refine li_gf0 hx hb hX0 hown hK hP 0 rfl 2 (by decide) f9 rfl dX0_letsThrough_18 ?_
        refine lv_iload_n hx hb dX0_letsThrough_21 rfl (lv_at hl 0 rfl) ?_
        refine li_ild hx hb hK hP 1 0 rfl rfl (by omega) (by decide) dX0_letsThrough_22 ?_
        refine lv_iload_n hx hb dX0_letsThrough_23 rfl (lv_at hl 3 rfl) ?_
        refine lv_icmp_ne (tgt := 30) hx hb dX0_letsThrough_24 (by decide) (fun c3 => ?_) (fun c3 => ?_)
        · skip
          refine lv_iinc (v := nI (k + 1)) (lv' := [(3, .int (nI (k + 1))), (2, .int (lt_ σ sg k)), (0, .ref (a 0)), (1, .int (nI sg))]) hx hb dX0_letsThrough_30 hl (k := 0) rfl (nI_inc _ _) (by decide) rfl (fun ls hl => ?_)
          refine lv_goto (tgt := 12) hx hb dX0_letsThrough_33 (by decide) ?_
          have hl9 : lv_has ls 4 [(3, .int (nI (k + 1))), (2, .int (lt_ σ sg k)), (0, .ref (a 0)), (1, .int (nI sg))] := lv_sub hl [0, 1, 2, 3] rfl
          have hl9 : lv_has ls 4 [(3, .int (nI (k + 1))), (2, .int (lt_ σ sg (k + 1))), (0, .ref (a 0)), (1, .int (nI sg))] := lv_re hl9 1 rfl (show lt_ σ sg k = lt_ σ sg (k + 1) from by simp [lt_, c2, c3])
          exact ih12 (k + 1) (by omega) (by omega) locs hS ls hl9
        · skip
          refine lv_iinc (v := (lt_ σ sg k) + 1) (lv' := [(2, .int ((lt_ σ sg k) + 1)), (3, .int (nI k)), (0, .ref (a 0)), (1, .int (nI sg))]) hx hb dX0_letsThrough_27 hl (k := 1) rfl (rfl) (by decide) rfl (fun ls hl => ?_)
          refine lv_iinc (v := nI (k + 1)) (lv' := [(3, .int (nI (k + 1))), (2, .int ((lt_ σ sg k) + 1)), (0, .ref (a 0)), (1, .int (nI sg))]) hx hb dX0_letsThrough_30 hl (k := 1) rfl (nI_inc _ _) (by decide) rfl (fun ls hl => ?_)
          refine lv_goto (tgt := 12) hx hb dX0_letsThrough_33 (by decide) ?_
          have hl9 : lv_has ls 4 [(3, .int (nI (k + 1))), (2, .int ((lt_ σ sg k) + 1)), (0, .ref (a 0)), (1, .int (nI sg))] := lv_sub hl [0, 1, 2, 3] rfl
          have hl9 : lv_has ls 4 [(3, .int (nI (k + 1))), (2, .int (lt_ σ sg (k + 1))), (0, .ref (a 0)), (1, .int (nI sg))] := lv_re hl9 1 rfl (show (lt_ σ sg k) + 1 = lt_ σ sg (k + 1) from by simp [lt_, c2, c3])
          exact ih12 (k + 1) (by omega) (by omega) locs hS ls hl9
  have hl9 : lv_has ls 4 [(3, .int (nI 0)), (2, .int (σ 1 sg)), (0, .ref (a 0)), (1, .int (nI sg))] := lv_sub hl [0, 1, 2, 3] rfl
  have hl9 : lv_has ls 4 [(3, .int (nI 0)), (2, .int (lt_ σ sg 0)), (0, .ref (a 0)), (1, .int (nI sg))] := lv_re hl9 1 rfl (show σ 1 sg = lt_ σ sg 0 from rfl)
  exact L12_1 ((2 - 0) + 1) 0 (Nat.lt_succ_self _) (by omega) locs hS ls hl9
set_option maxHeartbeats 4000000 in
set_option maxRecDepth 100000 in
theorem c_X0_walkersOn (l : Launch) (D : va_G) (cI cZ cL cO : ClassId) (a : Nat → Nat) (n pl nw ns : Nat) (σ κ : Nat → Nat → Int32) (H : Heap) (sg : Nat) (hB : n ≤ 10 ∧ pl ≤ 200 ∧ nw ≤ 20 ∧ ns ≤ 6) (hs : sg < 10) : Met l yX0_walkersOn wsX0_walkersOn ({ frames := 0, cells := 0, slots := 0, locals := 0 } : Room) (ro_P D (T4 cI cZ cL cO) (wP cI cZ a n pl nw ns σ κ) H [.ref (a 0), .int (nI sg)]) (ro_Q (nI (on σ nw sg)) H) 0 0 (fun _ => False) := by
  refine ro_of (cc := cX0_walkersOn) (maxL := 6) (by decide) rfl (Nat.le_of_ble_eq_true rfl) rfl ?_
  intro p e s m args below meth c Q ls locs hx hb hml hown hts hK hE hP hl hS hEnd
  have hl : lv_has ls 6 [(0, .ref (a 0)), (1, .int (nI sg))] := hl
  have hX0 : ∀ w ∈ wsX00, w.before args s = true := fun w h => hts w (List.mem_cons_of_mem _ (List.mem_append_left _ (List.mem_append_right _ (h))))
  have hX1 : ∀ w ∈ wsX10, w.before args s = true := fun w h => hts w (List.mem_cons_of_mem _ (List.mem_append_right _ (h)))
  have f58 : (Cond.fieldLink RX0 58 "LanternWalk$Parade" "setting" "LLanternWalk$Setting;").before args s = true := hts _ (List.mem_of_getElem? (i := 1) rfl)
  have f113 : (Cond.fieldLink RX0 113 "LanternWalk$Setting" "first" "[I").before args s = true := hts _ (List.mem_of_getElem? (i := 2) rfl)
  have f116 : (Cond.fieldLink RX0 116 "LanternWalk$Setting" "length" "[I").before args s = true := hts _ (List.mem_of_getElem? (i := 3) rfl)
  have f92 : (Cond.fieldLink RX0 92 "LanternWalk$Setting" "walkers" "I").before args s = true := hts _ (List.mem_of_getElem? (i := 4) rfl)
  have f28 : (Cond.fieldLink RX0 28 "LanternWalk$Parade" "stage" "[I").before args s = true := hts _ (List.mem_of_getElem? (i := 5) rfl)
  have f31 : (Cond.fieldLink RX0 31 "LanternWalk$Parade" "place" "[I").before args s = true := hts _ (List.mem_of_getElem? (i := 6) rfl)
  refine lv_aload_n hx hb dX0_walkersOn_0 rfl (lv_at hl 0 rfl) ?_
  refine li_gf0 hx hb hX0 hown hK hP 0 rfl 0 (by decide) f58 rfl dX0_walkersOn_1 ?_
  refine li_gf1 hx hb hX1 hown hK hP 16 rfl 4 (by decide) f113 rfl dX0_walkersOn_4 ?_
  refine lv_iload_n hx hb dX0_walkersOn_7 rfl (lv_at hl 1 rfl) ?_
  refine li_ild hx hb hK hP 19 0 rfl rfl (by omega) (by decide) dX0_walkersOn_8 ?_
  refine lv_istore_n (lv' := [(2, .int (σ 2 sg)), (0, .ref (a 0)), (1, .int (nI sg))]) hx hb dX0_walkersOn_9 rfl hl (by decide) rfl (fun ls hl => ?_)
  refine lv_iload_n hx hb dX0_walkersOn_10 rfl (lv_at hl 0 rfl) ?_
  refine lv_aload_n hx hb dX0_walkersOn_11 rfl (lv_at hl 1 rfl) ?_
  refine li_gf0 hx hb hX0 hown hK hP 0 rfl 0 (by decide) f58 rfl dX0_walkersOn_12 ?_
  refine li_gf1 hx hb hX1 hown hK hP 16 rfl 2 (by decide) f116 rfl dX0_walkersOn_15 ?_
  refine lv_iload_n hx hb dX0_walkersOn_18 rfl (lv_at hl 2 rfl) ?_
  refine li_ild hx hb hK hP 17 0 rfl rfl (by omega) (by decide) dX0_walkersOn_19 ?_
  refine lv_iadd hx hb dX0_walkersOn_20 ?_
  refine lv_istore_n (lv' := [(3, .int ((σ 2 sg) + (σ 0 sg))), (2, .int (σ 2 sg)), (0, .ref (a 0)), (1, .int (nI sg))]) hx hb dX0_walkersOn_21 rfl hl (by decide) rfl (fun ls hl => ?_)
  refine lv_iconst (v := nI 0) hx hb dX0_walkersOn_22 rfl ?_
  refine lv_istore (lv' := [(4, .int (nI 0)), (3, .int ((σ 2 sg) + (σ 0 sg))), (2, .int (σ 2 sg)), (0, .ref (a 0)), (1, .int (nI sg))]) hx hb dX0_walkersOn_23 hl (by decide) rfl (fun ls hl => ?_)
  refine lv_iconst (v := nI 0) hx hb dX0_walkersOn_25 rfl ?_
  refine lv_istore (lv' := [(5, .int (nI 0)), (4, .int (nI 0)), (3, .int ((σ 2 sg) + (σ 0 sg))), (2, .int (σ 2 sg)), (0, .ref (a 0)), (1, .int (nI sg))]) hx hb dX0_walkersOn_26 hl (by decide) rfl (fun ls hl => ?_)
  have L28_1 : ∀ (fuel : Nat) (k : Nat), (nw - k) < fuel → (k ≤ nw) → ∀ (locs : List Loc), va_S (fun _ => False) H H locs → ∀ (ls : Array Slot), lv_has ls 6 [(5, .int (nI k)), (4, .int (nI (cnt (onS σ sg) k))), (3, .int ((σ 2 sg) + (σ 0 sg))), (2, .int (σ 2 sg)), (0, .ref (a 0)), (1, .int (nI sg))] → W p l e ({ frames := 0, cells := 0, slots := 0, locals := 0 } : Room) s m args below meth c H locs 0 0 Q (F0 m 28 ls []) := by
    intro fuel
    induction fuel with
    | zero =>
      intro k hfuel
      exact absurd hfuel (Nat.not_lt_zero _)
    | succ fuel ih28 =>
      intro k hfuel28 hk locs hS ls hl
      refine lv_iload hx hb dX0_walkersOn_28 (lv_at hl 0 rfl) ?_
      refine lv_aload_n hx hb dX0_walkersOn_30 rfl (lv_at hl 4 rfl) ?_
      refine li_gf0 hx hb hX0 hown hK hP 0 rfl 0 (by decide) f58 rfl dX0_walkersOn_31 ?_
      refine li_gf1 hx hb hX1 hown hK hP 16 rfl 6 (by decide) f92 rfl dX0_walkersOn_34 ?_
      refine li_ge (tgt := 82) hx hb dX0_walkersOn_37 (by decide) (by omega) (by omega) (fun c2 => ?_) (fun c2 => ?_)
      · skip
        refine lv_iload hx hb dX0_walkersOn_82 (lv_at hl 1 rfl) ?_
        refine li_topi (show nI (cnt (onS σ sg) k) = nI (on σ nw sg) from by rw [show k = nw by omega]; rfl) ?_
        exact hEnd 84 ls locs dX0_walkersOn_84 hS
      · skip
        refine lv_aload_n hx hb dX0_walkersOn_40 rfl (lv_at hl 4 rfl) ?_
        refine li_gf0 hx hb hX0 hown hK hP 0 rfl 7 (by decide) f28 rfl dX0_walkersOn_41 ?_
        refine lv_iload hx hb dX0_walkersOn_44 (lv_at hl 0 rfl) ?_
        refine li_ild hx hb hK hP 6 0 rfl rfl (by omega) (by decide) dX0_walkersOn_46 ?_
        refine lv_iconst (v := nI 1) hx hb dX0_walkersOn_47 rfl ?_
        refine lv_icmp_ne (tgt := 76) hx hb dX0_walkersOn_48 (by decide) (fun c3 => ?_) (fun c3 => ?_)
        · skip
          refine lv_iinc (v := nI (k + 1)) (lv' := [(5, .int (nI (k + 1))), (4, .int (nI (cnt (onS σ sg) k))), (3, .int ((σ 2 sg) + (σ 0 sg))), (2, .int (σ 2 sg)), (0, .ref (a 0)), (1, .int (nI sg))]) hx hb dX0_walkersOn_76 hl (k := 0) rfl (nI_inc _ _) (by decide) rfl (fun ls hl => ?_)
          refine lv_goto (tgt := 28) hx hb dX0_walkersOn_79 (by decide) ?_
          have hl9 : lv_has ls 6 [(5, .int (nI (k + 1))), (4, .int (nI (cnt (onS σ sg) k))), (3, .int ((σ 2 sg) + (σ 0 sg))), (2, .int (σ 2 sg)), (0, .ref (a 0)), (1, .int (nI sg))] := lv_sub hl [0, 1, 2, 3, 4, 5] rfl
          have hl9 : lv_has ls 6 [(5, .int (nI (k + 1))), (4, .int (nI (cnt (onS σ sg) (k + 1)))), (3, .int ((σ 2 sg) + (σ 0 sg))), (2, .int (σ 2 sg)), (0, .ref (a 0)), (1, .int (nI sg))] := lv_re hl9 1 rfl (show nI (cnt (onS σ sg) k) = nI (cnt (onS σ sg) (k + 1)) from by first | exact cnt_t (by simp [onS, c2, c3]) | exact cnt_f (by simp [onS, c2, c3]))
          exact ih28 (k + 1) (by omega) (by omega) locs hS ls hl9
        · skip
          refine lv_aload_n hx hb dX0_walkersOn_51 rfl (lv_at hl 4 rfl) ?_
          refine li_gf0 hx hb hX0 hown hK hP 0 rfl 8 (by decide) f31 rfl dX0_walkersOn_52 ?_
          refine lv_iload hx hb dX0_walkersOn_55 (lv_at hl 0 rfl) ?_
          refine li_ild hx hb hK hP 7 0 rfl rfl (by omega) (by decide) dX0_walkersOn_57 ?_
          refine lv_iload_n hx hb dX0_walkersOn_58 rfl (lv_at hl 3 rfl) ?_
          refine lv_icmp_lt (tgt := 76) hx hb dX0_walkersOn_59 (by decide) (fun c4 => ?_) (fun c4 => ?_)
          · skip
            refine lv_iinc (v := nI (k + 1)) (lv' := [(5, .int (nI (k + 1))), (4, .int (nI (cnt (onS σ sg) k))), (3, .int ((σ 2 sg) + (σ 0 sg))), (2, .int (σ 2 sg)), (0, .ref (a 0)), (1, .int (nI sg))]) hx hb dX0_walkersOn_76 hl (k := 0) rfl (nI_inc _ _) (by decide) rfl (fun ls hl => ?_)
            refine lv_goto (tgt := 28) hx hb dX0_walkersOn_79 (by decide) ?_
            have hl9 : lv_has ls 6 [(5, .int (nI (k + 1))), (4, .int (nI (cnt (onS σ sg) k))), (3, .int ((σ 2 sg) + (σ 0 sg))), (2, .int (σ 2 sg)), (0, .ref (a 0)), (1, .int (nI sg))] := lv_sub hl [0, 1, 2, 3, 4, 5] rfl
            have hl9 : lv_has ls 6 [(5, .int (nI (k + 1))), (4, .int (nI (cnt (onS σ sg) (k + 1)))), (3, .int ((σ 2 sg) + (σ 0 sg))), (2, .int (σ 2 sg)), (0, .ref (a 0)), (1, .int (nI sg))] := lv_re hl9 1 rfl (show nI (cnt (onS σ sg) k) = nI (cnt (onS σ sg) (k + 1)) from by first | exact cnt_t (by simp [onS, c2, c3, c4]) | exact cnt_f (by simp [onS, c2, c3, c4]))
            exact ih28 (k + 1) (by omega) (by omega) locs hS ls hl9
          · skip
            refine lv_aload_n hx hb dX0_walkersOn_62 rfl (lv_at hl 4 rfl) ?_
            refine li_gf0 hx hb hX0 hown hK hP 0 rfl 8 (by decide) f31 rfl dX0_walkersOn_63 ?_
            refine lv_iload hx hb dX0_walkersOn_66 (lv_at hl 0 rfl) ?_
            refine li_ild hx hb hK hP 7 0 rfl rfl (by omega) (by decide) dX0_walkersOn_68 ?_
            refine lv_iload_n hx hb dX0_walkersOn_69 rfl (lv_at hl 2 rfl) ?_
            refine lv_icmp_ge (tgt := 76) hx hb dX0_walkersOn_70 (by decide) (fun c5 => ?_) (fun c5 => ?_)
            · skip
              refine lv_iinc (v := nI (k + 1)) (lv' := [(5, .int (nI (k + 1))), (4, .int (nI (cnt (onS σ sg) k))), (3, .int ((σ 2 sg) + (σ 0 sg))), (2, .int (σ 2 sg)), (0, .ref (a 0)), (1, .int (nI sg))]) hx hb dX0_walkersOn_76 hl (k := 0) rfl (nI_inc _ _) (by decide) rfl (fun ls hl => ?_)
              refine lv_goto (tgt := 28) hx hb dX0_walkersOn_79 (by decide) ?_
              have hl9 : lv_has ls 6 [(5, .int (nI (k + 1))), (4, .int (nI (cnt (onS σ sg) k))), (3, .int ((σ 2 sg) + (σ 0 sg))), (2, .int (σ 2 sg)), (0, .ref (a 0)), (1, .int (nI sg))] := lv_sub hl [0, 1, 2, 3, 4, 5] rfl
              have hl9 : lv_has ls 6 [(5, .int (nI (k + 1))), (4, .int (nI (cnt (onS σ sg) (k + 1)))), (3, .int ((σ 2 sg) + (σ 0 sg))), (2, .int (σ 2 sg)), (0, .ref (a 0)), (1, .int (nI sg))] := lv_re hl9 1 rfl (show nI (cnt (onS σ sg) k) = nI (cnt (onS σ sg) (k + 1)) from by first | exact cnt_t (by simp [onS, c2, c3, c4, c5]) | exact cnt_f (by simp [onS, c2, c3, c4, c5]))
              exact ih28 (k + 1) (by omega) (by omega) locs hS ls hl9
            · skip
              refine lv_iinc (v := nI ((cnt (onS σ sg) k) + 1)) (lv' := [(4, .int (nI ((cnt (onS σ sg) k) + 1))), (5, .int (nI k)), (3, .int ((σ 2 sg) + (σ 0 sg))), (2, .int (σ 2 sg)), (0, .ref (a 0)), (1, .int (nI sg))]) hx hb dX0_walkersOn_73 hl (k := 1) rfl (nI_inc _ _) (by decide) rfl (fun ls hl => ?_)
              refine lv_iinc (v := nI (k + 1)) (lv' := [(5, .int (nI (k + 1))), (4, .int (nI ((cnt (onS σ sg) k) + 1))), (3, .int ((σ 2 sg) + (σ 0 sg))), (2, .int (σ 2 sg)), (0, .ref (a 0)), (1, .int (nI sg))]) hx hb dX0_walkersOn_76 hl (k := 1) rfl (nI_inc _ _) (by decide) rfl (fun ls hl => ?_)
              refine lv_goto (tgt := 28) hx hb dX0_walkersOn_79 (by decide) ?_
              have hl9 : lv_has ls 6 [(5, .int (nI (k + 1))), (4, .int (nI ((cnt (onS σ sg) k) + 1))), (3, .int ((σ 2 sg) + (σ 0 sg))), (2, .int (σ 2 sg)), (0, .ref (a 0)), (1, .int (nI sg))] := lv_sub hl [0, 1, 2, 3, 4, 5] rfl
              have hl9 : lv_has ls 6 [(5, .int (nI (k + 1))), (4, .int (nI (cnt (onS σ sg) (k + 1)))), (3, .int ((σ 2 sg) + (σ 0 sg))), (2, .int (σ 2 sg)), (0, .ref (a 0)), (1, .int (nI sg))] := lv_re hl9 1 rfl (show nI ((cnt (onS σ sg) k) + 1) = nI (cnt (onS σ sg) (k + 1)) from by first | exact cnt_t (by simp [onS, c2, c3, c4, c5]) | exact cnt_f (by simp [onS, c2, c3, c4, c5]))
              exact ih28 (k + 1) (by omega) (by omega) locs hS ls hl9
  have hl9 : lv_has ls 6 [(5, .int (nI 0)), (4, .int (nI 0)), (3, .int ((σ 2 sg) + (σ 0 sg))), (2, .int (σ 2 sg)), (0, .ref (a 0)), (1, .int (nI sg))] := lv_sub hl [0, 1, 2, 3, 4, 5] rfl
  have hl9 : lv_has ls 6 [(5, .int (nI 0)), (4, .int (nI (cnt (onS σ sg) 0))), (3, .int ((σ 2 sg) + (σ 0 sg))), (2, .int (σ 2 sg)), (0, .ref (a 0)), (1, .int (nI sg))] := lv_re hl9 1 rfl (show nI 0 = nI (cnt (onS σ sg) 0) from rfl)
  exact L28_1 ((nw - 0) + 1) 0 (Nat.lt_succ_self _) (by omega) locs hS ls hl9
set_option maxHeartbeats 4000000 in
set_option maxRecDepth 100000 in
theorem c_X0_walkersAt (l : Launch) (D : va_G) (cI cZ cL cO : ClassId) (a : Nat → Nat) (n pl nw ns : Nat) (σ κ : Nat → Nat → Int32) (H : Heap) (z : Int32) (hB : n ≤ 10 ∧ pl ≤ 200 ∧ nw ≤ 20 ∧ ns ≤ 6) : Met l yX0_walkersAt wsX0_walkersAt ({ frames := 0, cells := 0, slots := 0, locals := 0 } : Room) (ro_P D (T4 cI cZ cL cO) (wP cI cZ a n pl nw ns σ κ) H [.ref (a 0), .int z]) (ro_Q (nI (wa σ nw z)) H) 0 0 (fun _ => False) := by
  refine ro_of (cc := cX0_walkersAt) (maxL := 4) (by decide) rfl (Nat.le_of_ble_eq_true rfl) rfl ?_
  intro p e s m args below meth c Q ls locs hx hb hml hown hts hK hE hP hl hS hEnd
  have hl : lv_has ls 4 [(0, .ref (a 0)), (1, .int z)] := hl
  have hX0 : ∀ w ∈ wsX00, w.before args s = true := fun w h => hts w (List.mem_cons_of_mem _ (List.mem_append_left _ (List.mem_append_right _ (h))))
  have hX1 : ∀ w ∈ wsX10, w.before args s = true := fun w h => hts w (List.mem_cons_of_mem _ (List.mem_append_right _ (h)))
  have f58 : (Cond.fieldLink RX0 58 "LanternWalk$Parade" "setting" "LLanternWalk$Setting;").before args s = true := hts _ (List.mem_of_getElem? (i := 1) rfl)
  have f92 : (Cond.fieldLink RX0 92 "LanternWalk$Setting" "walkers" "I").before args s = true := hts _ (List.mem_of_getElem? (i := 2) rfl)
  have f28 : (Cond.fieldLink RX0 28 "LanternWalk$Parade" "stage" "[I").before args s = true := hts _ (List.mem_of_getElem? (i := 3) rfl)
  have f31 : (Cond.fieldLink RX0 31 "LanternWalk$Parade" "place" "[I").before args s = true := hts _ (List.mem_of_getElem? (i := 4) rfl)
  refine lv_iconst (v := nI 0) hx hb dX0_walkersAt_0 rfl ?_
  refine lv_istore_n (lv' := [(2, .int (nI 0)), (0, .ref (a 0)), (1, .int z)]) hx hb dX0_walkersAt_1 rfl hl (by decide) rfl (fun ls hl => ?_)
  refine lv_iconst (v := nI 0) hx hb dX0_walkersAt_2 rfl ?_
  refine lv_istore_n (lv' := [(3, .int (nI 0)), (2, .int (nI 0)), (0, .ref (a 0)), (1, .int z)]) hx hb dX0_walkersAt_3 rfl hl (by decide) rfl (fun ls hl => ?_)
  have L4_1 : ∀ (fuel : Nat) (k : Nat), (nw - k) < fuel → (k ≤ nw) → ∀ (locs : List Loc), va_S (fun _ => False) H H locs → ∀ (ls : Array Slot), lv_has ls 4 [(3, .int (nI k)), (2, .int (nI (cnt (waS σ z) k))), (0, .ref (a 0)), (1, .int z)] → W p l e ({ frames := 0, cells := 0, slots := 0, locals := 0 } : Room) s m args below meth c H locs 0 0 Q (F0 m 4 ls []) := by
    intro fuel
    induction fuel with
    | zero =>
      intro k hfuel
      exact absurd hfuel (Nat.not_lt_zero _)
    | succ fuel ih4 =>
      intro k hfuel4 hk locs hS ls hl
      refine lv_iload_n hx hb dX0_walkersAt_4 rfl (lv_at hl 0 rfl) ?_
      refine lv_aload_n hx hb dX0_walkersAt_5 rfl (lv_at hl 2 rfl) ?_
      refine li_gf0 hx hb hX0 hown hK hP 0 rfl 0 (by decide) f58 rfl dX0_walkersAt_6 ?_
      refine li_gf1 hx hb hX1 hown hK hP 16 rfl 6 (by decide) f92 rfl dX0_walkersAt_9 ?_
      refine li_ge (tgt := 44) hx hb dX0_walkersAt_12 (by decide) (by omega) (by omega) (fun c2 => ?_) (fun c2 => ?_)
      · skip
        refine lv_iload_n hx hb dX0_walkersAt_44 rfl (lv_at hl 1 rfl) ?_
        refine li_topi (show nI (cnt (waS σ z) k) = nI (wa σ nw z) from by rw [show k = nw by omega]; rfl) ?_
        exact hEnd 45 ls locs dX0_walkersAt_45 hS
      · skip
        refine lv_aload_n hx hb dX0_walkersAt_15 rfl (lv_at hl 2 rfl) ?_
        refine li_gf0 hx hb hX0 hown hK hP 0 rfl 7 (by decide) f28 rfl dX0_walkersAt_16 ?_
        refine lv_iload_n hx hb dX0_walkersAt_19 rfl (lv_at hl 0 rfl) ?_
        refine li_ild hx hb hK hP 6 0 rfl rfl (by omega) (by decide) dX0_walkersAt_20 ?_
        refine lv_iconst (v := nI 1) hx hb dX0_walkersAt_21 rfl ?_
        refine lv_icmp_ne (tgt := 38) hx hb dX0_walkersAt_22 (by decide) (fun c3 => ?_) (fun c3 => ?_)
        · skip
          refine lv_iinc (v := nI (k + 1)) (lv' := [(3, .int (nI (k + 1))), (2, .int (nI (cnt (waS σ z) k))), (0, .ref (a 0)), (1, .int z)]) hx hb dX0_walkersAt_38 hl (k := 0) rfl (nI_inc _ _) (by decide) rfl (fun ls hl => ?_)
          refine lv_goto (tgt := 4) hx hb dX0_walkersAt_41 (by decide) ?_
          have hl9 : lv_has ls 4 [(3, .int (nI (k + 1))), (2, .int (nI (cnt (waS σ z) k))), (0, .ref (a 0)), (1, .int z)] := lv_sub hl [0, 1, 2, 3] rfl
          have hl9 : lv_has ls 4 [(3, .int (nI (k + 1))), (2, .int (nI (cnt (waS σ z) (k + 1)))), (0, .ref (a 0)), (1, .int z)] := lv_re hl9 1 rfl (show nI (cnt (waS σ z) k) = nI (cnt (waS σ z) (k + 1)) from by first | exact cnt_t (by simp [waS, c2, c3]) | exact cnt_f (by simp [waS, c2, c3]))
          exact ih4 (k + 1) (by omega) (by omega) locs hS ls hl9
        · skip
          refine lv_aload_n hx hb dX0_walkersAt_25 rfl (lv_at hl 2 rfl) ?_
          refine li_gf0 hx hb hX0 hown hK hP 0 rfl 8 (by decide) f31 rfl dX0_walkersAt_26 ?_
          refine lv_iload_n hx hb dX0_walkersAt_29 rfl (lv_at hl 0 rfl) ?_
          refine li_ild hx hb hK hP 7 0 rfl rfl (by omega) (by decide) dX0_walkersAt_30 ?_
          refine lv_iload_n hx hb dX0_walkersAt_31 rfl (lv_at hl 3 rfl) ?_
          refine lv_icmp_ne (tgt := 38) hx hb dX0_walkersAt_32 (by decide) (fun c4 => ?_) (fun c4 => ?_)
          · skip
            refine lv_iinc (v := nI (k + 1)) (lv' := [(3, .int (nI (k + 1))), (2, .int (nI (cnt (waS σ z) k))), (0, .ref (a 0)), (1, .int z)]) hx hb dX0_walkersAt_38 hl (k := 0) rfl (nI_inc _ _) (by decide) rfl (fun ls hl => ?_)
            refine lv_goto (tgt := 4) hx hb dX0_walkersAt_41 (by decide) ?_
            have hl9 : lv_has ls 4 [(3, .int (nI (k + 1))), (2, .int (nI (cnt (waS σ z) k))), (0, .ref (a 0)), (1, .int z)] := lv_sub hl [0, 1, 2, 3] rfl
            have hl9 : lv_has ls 4 [(3, .int (nI (k + 1))), (2, .int (nI (cnt (waS σ z) (k + 1)))), (0, .ref (a 0)), (1, .int z)] := lv_re hl9 1 rfl (show nI (cnt (waS σ z) k) = nI (cnt (waS σ z) (k + 1)) from by first | exact cnt_t (by simp [waS, c2, c3, c4]) | exact cnt_f (by simp [waS, c2, c3, c4]))
            exact ih4 (k + 1) (by omega) (by omega) locs hS ls hl9
          · skip
            refine lv_iinc (v := nI ((cnt (waS σ z) k) + 1)) (lv' := [(2, .int (nI ((cnt (waS σ z) k) + 1))), (3, .int (nI k)), (0, .ref (a 0)), (1, .int z)]) hx hb dX0_walkersAt_35 hl (k := 1) rfl (nI_inc _ _) (by decide) rfl (fun ls hl => ?_)
            refine lv_iinc (v := nI (k + 1)) (lv' := [(3, .int (nI (k + 1))), (2, .int (nI ((cnt (waS σ z) k) + 1))), (0, .ref (a 0)), (1, .int z)]) hx hb dX0_walkersAt_38 hl (k := 1) rfl (nI_inc _ _) (by decide) rfl (fun ls hl => ?_)
            refine lv_goto (tgt := 4) hx hb dX0_walkersAt_41 (by decide) ?_
            have hl9 : lv_has ls 4 [(3, .int (nI (k + 1))), (2, .int (nI ((cnt (waS σ z) k) + 1))), (0, .ref (a 0)), (1, .int z)] := lv_sub hl [0, 1, 2, 3] rfl
            have hl9 : lv_has ls 4 [(3, .int (nI (k + 1))), (2, .int (nI (cnt (waS σ z) (k + 1)))), (0, .ref (a 0)), (1, .int z)] := lv_re hl9 1 rfl (show nI ((cnt (waS σ z) k) + 1) = nI (cnt (waS σ z) (k + 1)) from by first | exact cnt_t (by simp [waS, c2, c3, c4]) | exact cnt_f (by simp [waS, c2, c3, c4]))
            exact ih4 (k + 1) (by omega) (by omega) locs hS ls hl9
  have hl9 : lv_has ls 4 [(3, .int (nI 0)), (2, .int (nI 0)), (0, .ref (a 0)), (1, .int z)] := lv_sub hl [0, 1, 2, 3] rfl
  have hl9 : lv_has ls 4 [(3, .int (nI 0)), (2, .int (nI (cnt (waS σ z) 0))), (0, .ref (a 0)), (1, .int z)] := lv_re hl9 1 rfl (show nI 0 = nI (cnt (waS σ z) 0) from rfl)
  exact L4_1 ((nw - 0) + 1) 0 (Nat.lt_succ_self _) (by omega) locs hS ls hl9
set_option maxHeartbeats 4000000 in
set_option maxRecDepth 100000 in
theorem c_X0_areNeighbours (l : Launch) (D : va_G) (cI cZ cL cO : ClassId) (a : Nat → Nat) (n pl nw ns : Nat) (σ κ : Nat → Nat → Int32) (H : Heap) (i : Nat) (j : Nat) (hB : n ≤ 10 ∧ pl ≤ 200 ∧ nw ≤ 20 ∧ ns ≤ 6) (hi : i < 20) (hj : j < 20) : Met l yX0_areNeighbours wsX0_areNeighbours ({ frames := 0, cells := 0, slots := 0, locals := 0 } : Room) (ro_P D (T4 cI cZ cL cO) (wP cI cZ a n pl nw ns σ κ) H [.ref (a 0), .int (nI i), .int (nI j)]) (ro_Q (zI (nbr σ i j)) H) 0 0 (fun _ => False) := by
  refine ro_of (cc := cX0_areNeighbours) (maxL := 3) (by decide) rfl (Nat.le_of_ble_eq_true rfl) (zI_n _) ?_
  intro p e s m args below meth c Q ls locs hx hb hml hown hts hK hE hP hl hS hEnd
  have hl : lv_has ls 3 [(0, .ref (a 0)), (1, .int (nI i)), (2, .int (nI j))] := hl
  have hX0 : ∀ w ∈ wsX00, w.before args s = true := fun w h => hts w (List.mem_cons_of_mem _ (List.mem_append_right _ (h)))
  have f28 : (Cond.fieldLink RX0 28 "LanternWalk$Parade" "stage" "[I").before args s = true := hts _ (List.mem_of_getElem? (i := 1) rfl)
  have f31 : (Cond.fieldLink RX0 31 "LanternWalk$Parade" "place" "[I").before args s = true := hts _ (List.mem_of_getElem? (i := 2) rfl)
  refine lv_iload_n hx hb dX0_areNeighbours_0 rfl (lv_at hl 1 rfl) ?_
  refine lv_iload_n hx hb dX0_areNeighbours_1 rfl (lv_at hl 2 rfl) ?_
  refine li_eq (tgt := 63) hx hb dX0_areNeighbours_2 (by decide) (by omega) (by omega) (fun c1 => ?_) (fun c1 => ?_)
  · skip
    refine lv_iconst (v := nI 0) hx hb dX0_areNeighbours_63 rfl ?_
    refine li_topi (show nI 0 = zI (nbr σ i j) from by simp [nbr, zI, c1]) ?_
    exact hEnd 64 ls locs dX0_areNeighbours_64 hS
  · skip
    refine lv_aload_n hx hb dX0_areNeighbours_5 rfl (lv_at hl 0 rfl) ?_
    refine li_gf0 hx hb hX0 hown hK hP 0 rfl 7 (by decide) f28 rfl dX0_areNeighbours_6 ?_
    refine lv_iload_n hx hb dX0_areNeighbours_9 rfl (lv_at hl 1 rfl) ?_
    refine li_ild hx hb hK hP 6 0 rfl rfl (by omega) (by decide) dX0_areNeighbours_10 ?_
    refine lv_iconst (v := nI 1) hx hb dX0_areNeighbours_11 rfl ?_
    refine lv_icmp_ne (tgt := 63) hx hb dX0_areNeighbours_12 (by decide) (fun c2 => ?_) (fun c2 => ?_)
    · skip
      refine lv_iconst (v := nI 0) hx hb dX0_areNeighbours_63 rfl ?_
      refine li_topi (show nI 0 = zI (nbr σ i j) from by simp [nbr, zI, c1, c2]) ?_
      exact hEnd 64 ls locs dX0_areNeighbours_64 hS
    · skip
      refine lv_aload_n hx hb dX0_areNeighbours_15 rfl (lv_at hl 0 rfl) ?_
      refine li_gf0 hx hb hX0 hown hK hP 0 rfl 7 (by decide) f28 rfl dX0_areNeighbours_16 ?_
      refine lv_iload_n hx hb dX0_areNeighbours_19 rfl (lv_at hl 2 rfl) ?_
      refine li_ild hx hb hK hP 6 0 rfl rfl (by omega) (by decide) dX0_areNeighbours_20 ?_
      refine lv_iconst (v := nI 1) hx hb dX0_areNeighbours_21 rfl ?_
      refine lv_icmp_ne (tgt := 63) hx hb dX0_areNeighbours_22 (by decide) (fun c3 => ?_) (fun c3 => ?_)
      · skip
        refine lv_iconst (v := nI 0) hx hb dX0_areNeighbours_63 rfl ?_
        refine li_topi (show nI 0 = zI (nbr σ i j) from by simp [nbr, zI, c1, c2, c3]) ?_
        exact hEnd 64 ls locs dX0_areNeighbours_64 hS
      · skip
        refine lv_aload_n hx hb dX0_areNeighbours_25 rfl (lv_at hl 0 rfl) ?_
        refine li_gf0 hx hb hX0 hown hK hP 0 rfl 8 (by decide) f31 rfl dX0_areNeighbours_26 ?_
        refine lv_iload_n hx hb dX0_areNeighbours_29 rfl (lv_at hl 1 rfl) ?_
        refine li_ild hx hb hK hP 7 0 rfl rfl (by omega) (by decide) dX0_areNeighbours_30 ?_
        refine lv_aload_n hx hb dX0_areNeighbours_31 rfl (lv_at hl 0 rfl) ?_
        refine li_gf0 hx hb hX0 hown hK hP 0 rfl 8 (by decide) f31 rfl dX0_areNeighbours_32 ?_
        refine lv_iload_n hx hb dX0_areNeighbours_35 rfl (lv_at hl 2 rfl) ?_
        refine li_ild hx hb hK hP 7 0 rfl rfl (by omega) (by decide) dX0_areNeighbours_36 ?_
        refine lv_isub hx hb dX0_areNeighbours_37 ?_
        refine lv_iconst (v := nI 1) hx hb dX0_areNeighbours_38 rfl ?_
        refine lv_icmp_gt (tgt := 63) hx hb dX0_areNeighbours_39 (by decide) (fun c4 => ?_) (fun c4 => ?_)
        · skip
          refine lv_iconst (v := nI 0) hx hb dX0_areNeighbours_63 rfl ?_
          refine li_topi (show nI 0 = zI (nbr σ i j) from by simp [nbr, zI, c1, c2, c3, c4]) ?_
          exact hEnd 64 ls locs dX0_areNeighbours_64 hS
        · skip
          refine lv_aload_n hx hb dX0_areNeighbours_42 rfl (lv_at hl 0 rfl) ?_
          refine li_gf0 hx hb hX0 hown hK hP 0 rfl 8 (by decide) f31 rfl dX0_areNeighbours_43 ?_
          refine lv_iload_n hx hb dX0_areNeighbours_46 rfl (lv_at hl 2 rfl) ?_
          refine li_ild hx hb hK hP 7 0 rfl rfl (by omega) (by decide) dX0_areNeighbours_47 ?_
          refine lv_aload_n hx hb dX0_areNeighbours_48 rfl (lv_at hl 0 rfl) ?_
          refine li_gf0 hx hb hX0 hown hK hP 0 rfl 8 (by decide) f31 rfl dX0_areNeighbours_49 ?_
          refine lv_iload_n hx hb dX0_areNeighbours_52 rfl (lv_at hl 1 rfl) ?_
          refine li_ild hx hb hK hP 7 0 rfl rfl (by omega) (by decide) dX0_areNeighbours_53 ?_
          refine lv_isub hx hb dX0_areNeighbours_54 ?_
          refine lv_iconst (v := nI 1) hx hb dX0_areNeighbours_55 rfl ?_
          refine lv_icmp_gt (tgt := 63) hx hb dX0_areNeighbours_56 (by decide) (fun c5 => ?_) (fun c5 => ?_)
          · skip
            refine lv_iconst (v := nI 0) hx hb dX0_areNeighbours_63 rfl ?_
            refine li_topi (show nI 0 = zI (nbr σ i j) from by simp [nbr, zI, c1, c2, c3, c4, c5]) ?_
            exact hEnd 64 ls locs dX0_areNeighbours_64 hS
          · skip
            refine lv_iconst (v := nI 1) hx hb dX0_areNeighbours_59 rfl ?_
            refine lv_goto (tgt := 64) hx hb dX0_areNeighbours_60 (by decide) ?_
            refine li_topi (show nI 1 = zI (nbr σ i j) from by simp [nbr, zI, c1, c2, c3, c4, c5]) ?_
            exact hEnd 64 ls locs dX0_areNeighbours_64 hS
set_option maxHeartbeats 4000000 in
set_option maxRecDepth 100000 in
theorem c_X0_neighboursOf (l : Launch) (D : va_G) (cI cZ cL cO : ClassId) (a : Nat → Nat) (n pl nw ns : Nat) (σ κ : Nat → Nat → Int32) (H : Heap) (w : Nat) (hB : n ≤ 10 ∧ pl ≤ 200 ∧ nw ≤ 20 ∧ ns ≤ 6) (hw : w < nw) : Met l yX0_neighboursOf wsX0_neighboursOf ({ frames := 1, cells := 0, slots := 0, locals := 22 } : Room) (ro_P D (T4 cI cZ cL cO) (wP cI cZ a n pl nw ns σ κ) H [.ref (a 0), .int (nI w)]) (ro_Q (nI (nb σ nw w)) H) 0 0 (fun _ => False) := by
  refine ro_of (cc := cX0_neighboursOf) (maxL := 4) (by decide) rfl (Nat.le_of_ble_eq_true rfl) rfl ?_
  intro p e s m args below meth c Q ls locs hx hb hml hown hts hK hE hP hl hS hEnd
  have hl : lv_has ls 4 [(0, .ref (a 0)), (1, .int (nI w))] := hl
  have hX0 : ∀ w ∈ wsX00, w.before args s = true := fun w h => hts w (List.mem_cons_of_mem _ (List.mem_append_left _ (List.mem_append_right _ (h))))
  have hX1 : ∀ w ∈ wsX10, w.before args s = true := fun w h => hts w (List.mem_cons_of_mem _ (List.mem_append_right _ (h)))
  have f58 : (Cond.fieldLink RX0 58 "LanternWalk$Parade" "setting" "LLanternWalk$Setting;").before args s = true := hts _ (List.mem_of_getElem? (i := 1) rfl)
  have f92 : (Cond.fieldLink RX0 92 "LanternWalk$Setting" "walkers" "I").before args s = true := hts _ (List.mem_of_getElem? (i := 2) rfl)
  refine lv_iconst (v := nI 0) hx hb dX0_neighboursOf_0 rfl ?_
  refine lv_istore_n (lv' := [(2, .int (nI 0)), (0, .ref (a 0)), (1, .int (nI w))]) hx hb dX0_neighboursOf_1 rfl hl (by decide) rfl (fun ls hl => ?_)
  refine lv_iconst (v := nI 0) hx hb dX0_neighboursOf_2 rfl ?_
  refine lv_istore_n (lv' := [(3, .int (nI 0)), (2, .int (nI 0)), (0, .ref (a 0)), (1, .int (nI w))]) hx hb dX0_neighboursOf_3 rfl hl (by decide) rfl (fun ls hl => ?_)
  have L4_1 : ∀ (fuel : Nat) (k : Nat), (nw - k) < fuel → (k ≤ nw) → ∀ (locs : List Loc), va_S (fun _ => False) H H locs → ∀ (ls : Array Slot), lv_has ls 4 [(3, .int (nI k)), (2, .int (nI (cnt (nbr σ w) k))), (0, .ref (a 0)), (1, .int (nI w))] → W p l e ({ frames := 1, cells := 0, slots := 0, locals := 22 } : Room) s m args below meth c H locs 0 0 Q (F0 m 4 ls []) := by
    intro fuel
    induction fuel with
    | zero =>
      intro k hfuel
      exact absurd hfuel (Nat.not_lt_zero _)
    | succ fuel ih4 =>
      intro k hfuel4 hk locs hS ls hl
      refine lv_iload_n hx hb dX0_neighboursOf_4 rfl (lv_at hl 0 rfl) ?_
      refine lv_aload_n hx hb dX0_neighboursOf_5 rfl (lv_at hl 2 rfl) ?_
      refine li_gf0 hx hb hX0 hown hK hP 0 rfl 0 (by decide) f58 rfl dX0_neighboursOf_6 ?_
      refine li_gf1 hx hb hX1 hown hK hP 16 rfl 6 (by decide) f92 rfl dX0_neighboursOf_9 ?_
      refine li_ge (tgt := 33) hx hb dX0_neighboursOf_12 (by decide) (by omega) (by omega) (fun c2 => ?_) (fun c2 => ?_)
      · skip
        refine lv_iload_n hx hb dX0_neighboursOf_33 rfl (lv_at hl 1 rfl) ?_
        refine li_topi (show nI (cnt (nbr σ w) k) = nI (nb σ nw w) from by rw [show k = nw by omega]; rfl) ?_
        exact hEnd 34 ls locs dX0_neighboursOf_34 hS
      · skip
        refine lv_aload_n hx hb dX0_neighboursOf_15 rfl (lv_at hl 2 rfl) ?_
        refine lv_iload_n hx hb dX0_neighboursOf_16 rfl (lv_at hl 3 rfl) ?_
        refine lv_iload_n hx hb dX0_neighboursOf_17 rfl (lv_at hl 0 rfl) ?_
        refine roV (As := [.int (nI w), .int (nI k)]) (q0 := 0) (ci := 0) hx hb hml hown hts (c_X0_areNeighbours l D cI cZ cL cO a n pl nw ns σ κ H w k (hB) (by omega) (by omega)) (cwV 2 hts gX0_neighboursOf_X0_areNeighbours rfl rfl rfl (by decide +kernel) ⟨by decide, by decide⟩) hK hE hP rfl rfl rfl rfl hl.1 rfl (Nat.le_of_ble_eq_true rfl) hS dX0_neighboursOf_18 ⟨Nat.zero_le _, Nat.zero_le _⟩ (fun locs hS => ?_)
        refine li_zeq (tgt := 27) hx hb dX0_neighboursOf_21 (by decide) (fun c3 => ?_) (fun c3 => ?_)
        · skip
          refine lv_iinc (v := nI (k + 1)) (lv' := [(3, .int (nI (k + 1))), (2, .int (nI (cnt (nbr σ w) k))), (0, .ref (a 0)), (1, .int (nI w))]) hx hb dX0_neighboursOf_27 hl (k := 0) rfl (nI_inc _ _) (by decide) rfl (fun ls hl => ?_)
          refine lv_goto (tgt := 4) hx hb dX0_neighboursOf_30 (by decide) ?_
          have hl9 : lv_has ls 4 [(3, .int (nI (k + 1))), (2, .int (nI (cnt (nbr σ w) k))), (0, .ref (a 0)), (1, .int (nI w))] := lv_sub hl [0, 1, 2, 3] rfl
          have hl9 : lv_has ls 4 [(3, .int (nI (k + 1))), (2, .int (nI (cnt (nbr σ w) (k + 1)))), (0, .ref (a 0)), (1, .int (nI w))] := lv_re hl9 1 rfl (show nI (cnt (nbr σ w) k) = nI (cnt (nbr σ w) (k + 1)) from by first | exact cnt_t (by simp [c2, c3]) | exact cnt_f (by simp [c2, c3]))
          exact ih4 (k + 1) (by omega) (by omega) locs hS ls hl9
        · skip
          refine lv_iinc (v := nI ((cnt (nbr σ w) k) + 1)) (lv' := [(2, .int (nI ((cnt (nbr σ w) k) + 1))), (3, .int (nI k)), (0, .ref (a 0)), (1, .int (nI w))]) hx hb dX0_neighboursOf_24 hl (k := 1) rfl (nI_inc _ _) (by decide) rfl (fun ls hl => ?_)
          refine lv_iinc (v := nI (k + 1)) (lv' := [(3, .int (nI (k + 1))), (2, .int (nI ((cnt (nbr σ w) k) + 1))), (0, .ref (a 0)), (1, .int (nI w))]) hx hb dX0_neighboursOf_27 hl (k := 1) rfl (nI_inc _ _) (by decide) rfl (fun ls hl => ?_)
          refine lv_goto (tgt := 4) hx hb dX0_neighboursOf_30 (by decide) ?_
          have hl9 : lv_has ls 4 [(3, .int (nI (k + 1))), (2, .int (nI ((cnt (nbr σ w) k) + 1))), (0, .ref (a 0)), (1, .int (nI w))] := lv_sub hl [0, 1, 2, 3] rfl
          have hl9 : lv_has ls 4 [(3, .int (nI (k + 1))), (2, .int (nI (cnt (nbr σ w) (k + 1)))), (0, .ref (a 0)), (1, .int (nI w))] := lv_re hl9 1 rfl (show nI ((cnt (nbr σ w) k) + 1) = nI (cnt (nbr σ w) (k + 1)) from by first | exact cnt_t (by simp [c2, c3]) | exact cnt_f (by simp [c2, c3]))
          exact ih4 (k + 1) (by omega) (by omega) locs hS ls hl9
  have hl9 : lv_has ls 4 [(3, .int (nI 0)), (2, .int (nI 0)), (0, .ref (a 0)), (1, .int (nI w))] := lv_sub hl [0, 1, 2, 3] rfl
  have hl9 : lv_has ls 4 [(3, .int (nI 0)), (2, .int (nI (cnt (nbr σ w) 0))), (0, .ref (a 0)), (1, .int (nI w))] := lv_re hl9 1 rfl (show nI 0 = nI (cnt (nbr σ w) 0) from rfl)
  exact L4_1 ((nw - 0) + 1) 0 (Nat.lt_succ_self _) (by omega) locs hS ls hl9
set_option maxHeartbeats 4000000 in
set_option maxRecDepth 100000 in
theorem c_X0_foremostPlace (l : Launch) (D : va_G) (cI cZ cL cO : ClassId) (a : Nat → Nat) (n pl nw ns : Nat) (σ κ : Nat → Nat → Int32) (H : Heap) (hB : n ≤ 10 ∧ pl ≤ 200 ∧ nw ≤ 20 ∧ ns ≤ 6) : Met l yX0_foremostPlace wsX0_foremostPlace ({ frames := 0, cells := 0, slots := 0, locals := 0 } : Room) (ro_P D (T4 cI cZ cL cO) (wP cI cZ a n pl nw ns σ κ) H [.ref (a 0)]) (ro_Q (fm σ nw) H) 0 0 (fun _ => False) := by
  refine ro_of (cc := cX0_foremostPlace) (maxL := 3) (by decide) rfl (Nat.le_of_ble_eq_true rfl) rfl ?_
  intro p e s m args below meth c Q ls locs hx hb hml hown hts hK hE hP hl hS hEnd
  have hl : lv_has ls 3 [(0, .ref (a 0))] := hl
  have hX0 : ∀ w ∈ wsX00, w.before args s = true := fun w h => hts w (List.mem_cons_of_mem _ (List.mem_append_left _ (List.mem_append_right _ (h))))
  have hX1 : ∀ w ∈ wsX10, w.before args s = true := fun w h => hts w (List.mem_cons_of_mem _ (List.mem_append_right _ (h)))
  have f58 : (Cond.fieldLink RX0 58 "LanternWalk$Parade" "setting" "LLanternWalk$Setting;").before args s = true := hts _ (List.mem_of_getElem? (i := 1) rfl)
  have f92 : (Cond.fieldLink RX0 92 "LanternWalk$Setting" "walkers" "I").before args s = true := hts _ (List.mem_of_getElem? (i := 2) rfl)
  have f28 : (Cond.fieldLink RX0 28 "LanternWalk$Parade" "stage" "[I").before args s = true := hts _ (List.mem_of_getElem? (i := 3) rfl)
  have f31 : (Cond.fieldLink RX0 31 "LanternWalk$Parade" "place" "[I").before args s = true := hts _ (List.mem_of_getElem? (i := 4) rfl)
  refine lv_iconst (v := (-1)) hx hb dX0_foremostPlace_0 rfl ?_
  refine lv_istore_n (lv' := [(1, .int (-1)), (0, .ref (a 0))]) hx hb dX0_foremostPlace_1 rfl hl (by decide) rfl (fun ls hl => ?_)
  refine lv_iconst (v := nI 0) hx hb dX0_foremostPlace_2 rfl ?_
  refine lv_istore_n (lv' := [(2, .int (nI 0)), (1, .int (-1)), (0, .ref (a 0))]) hx hb dX0_foremostPlace_3 rfl hl (by decide) rfl (fun ls hl => ?_)
  have L4_1 : ∀ (fuel : Nat) (k : Nat), (nw - k) < fuel → (k ≤ nw) → ∀ (locs : List Loc), va_S (fun _ => False) H H locs → ∀ (ls : Array Slot), lv_has ls 3 [(2, .int (nI k)), (1, .int (fm σ k)), (0, .ref (a 0))] → W p l e ({ frames := 0, cells := 0, slots := 0, locals := 0 } : Room) s m args below meth c H locs 0 0 Q (F0 m 4 ls []) := by
    intro fuel
    induction fuel with
    | zero =>
      intro k hfuel
      exact absurd hfuel (Nat.not_lt_zero _)
    | succ fuel ih4 =>
      intro k hfuel4 hk locs hS ls hl
      refine lv_iload_n hx hb dX0_foremostPlace_4 rfl (lv_at hl 0 rfl) ?_
      refine lv_aload_n hx hb dX0_foremostPlace_5 rfl (lv_at hl 2 rfl) ?_
      refine li_gf0 hx hb hX0 hown hK hP 0 rfl 0 (by decide) f58 rfl dX0_foremostPlace_6 ?_
      refine li_gf1 hx hb hX1 hown hK hP 16 rfl 6 (by decide) f92 rfl dX0_foremostPlace_9 ?_
      refine li_ge (tgt := 48) hx hb dX0_foremostPlace_12 (by decide) (by omega) (by omega) (fun c2 => ?_) (fun c2 => ?_)
      · skip
        refine lv_iload_n hx hb dX0_foremostPlace_48 rfl (lv_at hl 1 rfl) ?_
        refine li_topi (show fm σ k = fm σ nw from by rw [show k = nw by omega]) ?_
        exact hEnd 49 ls locs dX0_foremostPlace_49 hS
      · skip
        refine lv_aload_n hx hb dX0_foremostPlace_15 rfl (lv_at hl 2 rfl) ?_
        refine li_gf0 hx hb hX0 hown hK hP 0 rfl 7 (by decide) f28 rfl dX0_foremostPlace_16 ?_
        refine lv_iload_n hx hb dX0_foremostPlace_19 rfl (lv_at hl 0 rfl) ?_
        refine li_ild hx hb hK hP 6 0 rfl rfl (by omega) (by decide) dX0_foremostPlace_20 ?_
        refine lv_iconst (v := nI 1) hx hb dX0_foremostPlace_21 rfl ?_
        refine lv_icmp_ne (tgt := 42) hx hb dX0_foremostPlace_22 (by decide) (fun c3 => ?_) (fun c3 => ?_)
        · skip
          refine lv_iinc (v := nI (k + 1)) (lv' := [(2, .int (nI (k + 1))), (1, .int (fm σ k)), (0, .ref (a 0))]) hx hb dX0_foremostPlace_42 hl (k := 0) rfl (nI_inc _ _) (by decide) rfl (fun ls hl => ?_)
          refine lv_goto (tgt := 4) hx hb dX0_foremostPlace_45 (by decide) ?_
          have hl9 : lv_has ls 3 [(2, .int (nI (k + 1))), (1, .int (fm σ k)), (0, .ref (a 0))] := lv_sub hl [0, 1, 2] rfl
          have hl9 : lv_has ls 3 [(2, .int (nI (k + 1))), (1, .int (fm σ (k + 1))), (0, .ref (a 0))] := lv_re hl9 1 rfl (show fm σ k = fm σ (k + 1) from by simp [fm, c2, c3])
          exact ih4 (k + 1) (by omega) (by omega) locs hS ls hl9
        · skip
          refine lv_aload_n hx hb dX0_foremostPlace_25 rfl (lv_at hl 2 rfl) ?_
          refine li_gf0 hx hb hX0 hown hK hP 0 rfl 8 (by decide) f31 rfl dX0_foremostPlace_26 ?_
          refine lv_iload_n hx hb dX0_foremostPlace_29 rfl (lv_at hl 0 rfl) ?_
          refine li_ild hx hb hK hP 7 0 rfl rfl (by omega) (by decide) dX0_foremostPlace_30 ?_
          refine lv_iload_n hx hb dX0_foremostPlace_31 rfl (lv_at hl 1 rfl) ?_
          refine lv_icmp_le (tgt := 42) hx hb dX0_foremostPlace_32 (by decide) (fun c4 => ?_) (fun c4 => ?_)
          · skip
            refine lv_iinc (v := nI (k + 1)) (lv' := [(2, .int (nI (k + 1))), (1, .int (fm σ k)), (0, .ref (a 0))]) hx hb dX0_foremostPlace_42 hl (k := 0) rfl (nI_inc _ _) (by decide) rfl (fun ls hl => ?_)
            refine lv_goto (tgt := 4) hx hb dX0_foremostPlace_45 (by decide) ?_
            have hl9 : lv_has ls 3 [(2, .int (nI (k + 1))), (1, .int (fm σ k)), (0, .ref (a 0))] := lv_sub hl [0, 1, 2] rfl
            have hl9 : lv_has ls 3 [(2, .int (nI (k + 1))), (1, .int (fm σ (k + 1))), (0, .ref (a 0))] := lv_re hl9 1 rfl (show fm σ k = fm σ (k + 1) from by simp [fm, c2, c3, c4])
            exact ih4 (k + 1) (by omega) (by omega) locs hS ls hl9
          · skip
            refine lv_aload_n hx hb dX0_foremostPlace_35 rfl (lv_at hl 2 rfl) ?_
            refine li_gf0 hx hb hX0 hown hK hP 0 rfl 8 (by decide) f31 rfl dX0_foremostPlace_36 ?_
            refine lv_iload_n hx hb dX0_foremostPlace_39 rfl (lv_at hl 0 rfl) ?_
            refine li_ild hx hb hK hP 7 0 rfl rfl (by omega) (by decide) dX0_foremostPlace_40 ?_
            refine lv_istore_n (lv' := [(1, .int (σ 13 k)), (2, .int (nI k)), (0, .ref (a 0))]) hx hb dX0_foremostPlace_41 rfl hl (by decide) rfl (fun ls hl => ?_)
            refine lv_iinc (v := nI (k + 1)) (lv' := [(2, .int (nI (k + 1))), (1, .int (σ 13 k)), (0, .ref (a 0))]) hx hb dX0_foremostPlace_42 hl (k := 1) rfl (nI_inc _ _) (by decide) rfl (fun ls hl => ?_)
            refine lv_goto (tgt := 4) hx hb dX0_foremostPlace_45 (by decide) ?_
            have hl9 : lv_has ls 3 [(2, .int (nI (k + 1))), (1, .int (σ 13 k)), (0, .ref (a 0))] := lv_sub hl [0, 1, 2] rfl
            have hl9 : lv_has ls 3 [(2, .int (nI (k + 1))), (1, .int (fm σ (k + 1))), (0, .ref (a 0))] := lv_re hl9 1 rfl (show σ 13 k = fm σ (k + 1) from by simp [fm, c2, c3, c4])
            exact ih4 (k + 1) (by omega) (by omega) locs hS ls hl9
  have hl9 : lv_has ls 3 [(2, .int (nI 0)), (1, .int (-1)), (0, .ref (a 0))] := lv_sub hl [0, 1, 2] rfl
  have hl9 : lv_has ls 3 [(2, .int (nI 0)), (1, .int (fm σ 0)), (0, .ref (a 0))] := lv_re hl9 1 rfl (show (-1) = fm σ 0 from rfl)
  exact L4_1 ((nw - 0) + 1) 0 (Nat.lt_succ_self _) (by omega) locs hS ls hl9
set_option maxHeartbeats 4000000 in
set_option maxRecDepth 100000 in
theorem c_X0_paradeLength (l : Launch) (D : va_G) (cI cZ cL cO : ClassId) (a : Nat → Nat) (n pl nw ns : Nat) (σ κ : Nat → Nat → Int32) (H : Heap) (hB : n ≤ 10 ∧ pl ≤ 200 ∧ nw ≤ 20 ∧ ns ≤ 6) : Met l yX0_paradeLength wsX0_paradeLength ({ frames := 1, cells := 0, slots := 0, locals := 22 } : Room) (ro_P D (T4 cI cZ cL cO) (wP cI cZ a n pl nw ns σ κ) H [.ref (a 0)]) (ro_Q (fm σ nw - ls_ σ (fm σ nw) nw) H) 0 0 (fun _ => False) := by
  refine ro_of (cc := cX0_paradeLength) (maxL := 4) (by decide) rfl (Nat.le_of_ble_eq_true rfl) rfl ?_
  intro p e s m args below meth c Q ls locs hx hb hml hown hts hK hE hP hl hS hEnd
  have hl : lv_has ls 4 [(0, .ref (a 0))] := hl
  have hX0 : ∀ w ∈ wsX00, w.before args s = true := fun w h => hts w (List.mem_cons_of_mem _ (List.mem_append_left _ (List.mem_append_right _ (h))))
  have hX1 : ∀ w ∈ wsX10, w.before args s = true := fun w h => hts w (List.mem_cons_of_mem _ (List.mem_append_right _ (h)))
  have f58 : (Cond.fieldLink RX0 58 "LanternWalk$Parade" "setting" "LLanternWalk$Setting;").before args s = true := hts _ (List.mem_of_getElem? (i := 1) rfl)
  have f92 : (Cond.fieldLink RX0 92 "LanternWalk$Setting" "walkers" "I").before args s = true := hts _ (List.mem_of_getElem? (i := 2) rfl)
  have f28 : (Cond.fieldLink RX0 28 "LanternWalk$Parade" "stage" "[I").before args s = true := hts _ (List.mem_of_getElem? (i := 3) rfl)
  have f31 : (Cond.fieldLink RX0 31 "LanternWalk$Parade" "place" "[I").before args s = true := hts _ (List.mem_of_getElem? (i := 4) rfl)
  refine lv_aload_n hx hb dX0_paradeLength_0 rfl (lv_at hl 0 rfl) ?_
  refine roV (As := []) (q0 := 0) (ci := 0) hx hb hml hown hts (c_X0_foremostPlace l D cI cZ cL cO a n pl nw ns σ κ H (hB)) (cwV 0 hts gX0_paradeLength_X0_foremostPlace rfl rfl rfl (by decide +kernel) ⟨by decide, by decide⟩) hK hE hP rfl rfl rfl rfl hl.1 rfl (Nat.le_of_ble_eq_true rfl) hS dX0_paradeLength_1 ⟨Nat.zero_le _, Nat.zero_le _⟩ (fun locs hS => ?_)
  refine lv_istore_n (lv' := [(1, .int (fm σ nw)), (0, .ref (a 0))]) hx hb dX0_paradeLength_4 rfl hl (by decide) rfl (fun ls hl => ?_)
  refine lv_iload_n hx hb dX0_paradeLength_5 rfl (lv_at hl 0 rfl) ?_
  refine lv_istore_n (lv' := [(2, .int (fm σ nw)), (1, .int (fm σ nw)), (0, .ref (a 0))]) hx hb dX0_paradeLength_6 rfl hl (by decide) rfl (fun ls hl => ?_)
  refine lv_iconst (v := nI 0) hx hb dX0_paradeLength_7 rfl ?_
  refine lv_istore_n (lv' := [(3, .int (nI 0)), (2, .int (fm σ nw)), (1, .int (fm σ nw)), (0, .ref (a 0))]) hx hb dX0_paradeLength_8 rfl hl (by decide) rfl (fun ls hl => ?_)
  have L9_1 : ∀ (fuel : Nat) (k : Nat), (nw - k) < fuel → (k ≤ nw) → ∀ (locs : List Loc), va_S (fun _ => False) H H locs → ∀ (ls : Array Slot), lv_has ls 4 [(3, .int (nI k)), (2, .int (ls_ σ (fm σ nw) k)), (1, .int (fm σ nw)), (0, .ref (a 0))] → W p l e ({ frames := 1, cells := 0, slots := 0, locals := 22 } : Room) s m args below meth c H locs 0 0 Q (F0 m 9 ls []) := by
    intro fuel
    induction fuel with
    | zero =>
      intro k hfuel
      exact absurd hfuel (Nat.not_lt_zero _)
    | succ fuel ih9 =>
      intro k hfuel9 hk locs hS ls hl
      refine lv_iload_n hx hb dX0_paradeLength_9 rfl (lv_at hl 0 rfl) ?_
      refine lv_aload_n hx hb dX0_paradeLength_10 rfl (lv_at hl 3 rfl) ?_
      refine li_gf0 hx hb hX0 hown hK hP 0 rfl 0 (by decide) f58 rfl dX0_paradeLength_11 ?_
      refine li_gf1 hx hb hX1 hown hK hP 16 rfl 6 (by decide) f92 rfl dX0_paradeLength_14 ?_
      refine li_ge (tgt := 53) hx hb dX0_paradeLength_17 (by decide) (by omega) (by omega) (fun c2 => ?_) (fun c2 => ?_)
      · skip
        refine lv_iload_n hx hb dX0_paradeLength_53 rfl (lv_at hl 2 rfl) ?_
        refine lv_iload_n hx hb dX0_paradeLength_54 rfl (lv_at hl 1 rfl) ?_
        refine lv_isub hx hb dX0_paradeLength_55 ?_
        refine li_topi (show (fm σ nw) - (ls_ σ (fm σ nw) k) = fm σ nw - ls_ σ (fm σ nw) nw from by rw [show k = nw by omega]) ?_
        exact hEnd 56 ls locs dX0_paradeLength_56 hS
      · skip
        refine lv_aload_n hx hb dX0_paradeLength_20 rfl (lv_at hl 3 rfl) ?_
        refine li_gf0 hx hb hX0 hown hK hP 0 rfl 7 (by decide) f28 rfl dX0_paradeLength_21 ?_
        refine lv_iload_n hx hb dX0_paradeLength_24 rfl (lv_at hl 0 rfl) ?_
        refine li_ild hx hb hK hP 6 0 rfl rfl (by omega) (by decide) dX0_paradeLength_25 ?_
        refine lv_iconst (v := nI 1) hx hb dX0_paradeLength_26 rfl ?_
        refine lv_icmp_ne (tgt := 47) hx hb dX0_paradeLength_27 (by decide) (fun c3 => ?_) (fun c3 => ?_)
        · skip
          refine lv_iinc (v := nI (k + 1)) (lv' := [(3, .int (nI (k + 1))), (2, .int (ls_ σ (fm σ nw) k)), (1, .int (fm σ nw)), (0, .ref (a 0))]) hx hb dX0_paradeLength_47 hl (k := 0) rfl (nI_inc _ _) (by decide) rfl (fun ls hl => ?_)
          refine lv_goto (tgt := 9) hx hb dX0_paradeLength_50 (by decide) ?_
          have hl9 : lv_has ls 4 [(3, .int (nI (k + 1))), (2, .int (ls_ σ (fm σ nw) k)), (1, .int (fm σ nw)), (0, .ref (a 0))] := lv_sub hl [0, 1, 2, 3] rfl
          have hl9 : lv_has ls 4 [(3, .int (nI (k + 1))), (2, .int (ls_ σ (fm σ nw) (k + 1))), (1, .int (fm σ nw)), (0, .ref (a 0))] := lv_re hl9 1 rfl (show ls_ σ (fm σ nw) k = ls_ σ (fm σ nw) (k + 1) from by simp [ls_, c2, c3])
          exact ih9 (k + 1) (by omega) (by omega) locs hS ls hl9
        · skip
          refine lv_aload_n hx hb dX0_paradeLength_30 rfl (lv_at hl 3 rfl) ?_
          refine li_gf0 hx hb hX0 hown hK hP 0 rfl 8 (by decide) f31 rfl dX0_paradeLength_31 ?_
          refine lv_iload_n hx hb dX0_paradeLength_34 rfl (lv_at hl 0 rfl) ?_
          refine li_ild hx hb hK hP 7 0 rfl rfl (by omega) (by decide) dX0_paradeLength_35 ?_
          refine lv_iload_n hx hb dX0_paradeLength_36 rfl (lv_at hl 1 rfl) ?_
          refine lv_icmp_ge (tgt := 47) hx hb dX0_paradeLength_37 (by decide) (fun c4 => ?_) (fun c4 => ?_)
          · skip
            refine lv_iinc (v := nI (k + 1)) (lv' := [(3, .int (nI (k + 1))), (2, .int (ls_ σ (fm σ nw) k)), (1, .int (fm σ nw)), (0, .ref (a 0))]) hx hb dX0_paradeLength_47 hl (k := 0) rfl (nI_inc _ _) (by decide) rfl (fun ls hl => ?_)
            refine lv_goto (tgt := 9) hx hb dX0_paradeLength_50 (by decide) ?_
            have hl9 : lv_has ls 4 [(3, .int (nI (k + 1))), (2, .int (ls_ σ (fm σ nw) k)), (1, .int (fm σ nw)), (0, .ref (a 0))] := lv_sub hl [0, 1, 2, 3] rfl
            have hl9 : lv_has ls 4 [(3, .int (nI (k + 1))), (2, .int (ls_ σ (fm σ nw) (k + 1))), (1, .int (fm σ nw)), (0, .ref (a 0))] := lv_re hl9 1 rfl (show ls_ σ (fm σ nw) k = ls_ σ (fm σ nw) (k + 1) from by simp [ls_, c2, c3, c4])
            exact ih9 (k + 1) (by omega) (by omega) locs hS ls hl9
          · skip
            refine lv_aload_n hx hb dX0_paradeLength_40 rfl (lv_at hl 3 rfl) ?_
            refine li_gf0 hx hb hX0 hown hK hP 0 rfl 8 (by decide) f31 rfl dX0_paradeLength_41 ?_
            refine lv_iload_n hx hb dX0_paradeLength_44 rfl (lv_at hl 0 rfl) ?_
            refine li_ild hx hb hK hP 7 0 rfl rfl (by omega) (by decide) dX0_paradeLength_45 ?_
            refine lv_istore_n (lv' := [(2, .int (σ 13 k)), (3, .int (nI k)), (1, .int (fm σ nw)), (0, .ref (a 0))]) hx hb dX0_paradeLength_46 rfl hl (by decide) rfl (fun ls hl => ?_)
            refine lv_iinc (v := nI (k + 1)) (lv' := [(3, .int (nI (k + 1))), (2, .int (σ 13 k)), (1, .int (fm σ nw)), (0, .ref (a 0))]) hx hb dX0_paradeLength_47 hl (k := 1) rfl (nI_inc _ _) (by decide) rfl (fun ls hl => ?_)
            refine lv_goto (tgt := 9) hx hb dX0_paradeLength_50 (by decide) ?_
            have hl9 : lv_has ls 4 [(3, .int (nI (k + 1))), (2, .int (σ 13 k)), (1, .int (fm σ nw)), (0, .ref (a 0))] := lv_sub hl [0, 1, 2, 3] rfl
            have hl9 : lv_has ls 4 [(3, .int (nI (k + 1))), (2, .int (ls_ σ (fm σ nw) (k + 1))), (1, .int (fm σ nw)), (0, .ref (a 0))] := lv_re hl9 1 rfl (show σ 13 k = ls_ σ (fm σ nw) (k + 1) from by simp [ls_, c2, c3, c4])
            exact ih9 (k + 1) (by omega) (by omega) locs hS ls hl9
  have hl9 : lv_has ls 4 [(3, .int (nI 0)), (2, .int (fm σ nw)), (1, .int (fm σ nw)), (0, .ref (a 0))] := lv_sub hl [0, 1, 2, 3] rfl
  have hl9 : lv_has ls 4 [(3, .int (nI 0)), (2, .int (ls_ σ (fm σ nw) 0)), (1, .int (fm σ nw)), (0, .ref (a 0))] := lv_re hl9 1 rfl (show fm σ nw = ls_ σ (fm σ nw) 0 from rfl)
  exact L9_1 ((nw - 0) + 1) 0 (Nat.lt_succ_self _) (by omega) locs hS ls hl9
set_option maxHeartbeats 4000000 in
set_option maxRecDepth 100000 in
theorem c_X0_isBesideBurning (l : Launch) (D : va_G) (cI cZ cL cO : ClassId) (a : Nat → Nat) (n pl nw ns : Nat) (σ κ : Nat → Nat → Int32) (H : Heap) (w : Nat) (hB : n ≤ 10 ∧ pl ≤ 200 ∧ nw ≤ 20 ∧ ns ≤ 6) (hw : w < nw) : Met l yX0_isBesideBurning wsX0_isBesideBurning ({ frames := 1, cells := 0, slots := 0, locals := 22 } : Room) (ro_P D (T4 cI cZ cL cO) (wP cI cZ a n pl nw ns σ κ) H [.ref (a 0), .int (nI w)]) (ro_Q (zI (bb σ κ nw w)) H) 0 0 (fun _ => False) := by
  refine ro_of (cc := cX0_isBesideBurning) (maxL := 3) (by decide) rfl (Nat.le_of_ble_eq_true rfl) (zI_n _) ?_
  intro p e s m args below meth c Q ls locs hx hb hml hown hts hK hE hP hl hS hEnd
  have hl : lv_has ls 3 [(0, .ref (a 0)), (1, .int (nI w))] := hl
  have hX0 : ∀ w ∈ wsX00, w.before args s = true := fun w h => hts w (List.mem_cons_of_mem _ (List.mem_append_left _ (List.mem_append_right _ (h))))
  have hX1 : ∀ w ∈ wsX10, w.before args s = true := fun w h => hts w (List.mem_cons_of_mem _ (List.mem_append_right _ (h)))
  have f58 : (Cond.fieldLink RX0 58 "LanternWalk$Parade" "setting" "LLanternWalk$Setting;").before args s = true := hts _ (List.mem_of_getElem? (i := 1) rfl)
  have f92 : (Cond.fieldLink RX0 92 "LanternWalk$Setting" "walkers" "I").before args s = true := hts _ (List.mem_of_getElem? (i := 2) rfl)
  have f43 : (Cond.fieldLink RX0 43 "LanternWalk$Parade" "burnedBefore" "[Z").before args s = true := hts _ (List.mem_of_getElem? (i := 3) rfl)
  refine lv_iconst (v := nI 0) hx hb dX0_isBesideBurning_0 rfl ?_
  refine lv_istore_n (lv' := [(2, .int (nI 0)), (0, .ref (a 0)), (1, .int (nI w))]) hx hb dX0_isBesideBurning_1 rfl hl (by decide) rfl (fun ls hl => ?_)
  have L2_1 : ∀ (fuel : Nat) (k : Nat), (nw - k) < fuel → (k ≤ nw) → (anyN (bbS σ κ w) k = false) → ∀ (locs : List Loc), va_S (fun _ => False) H H locs → ∀ (ls : Array Slot), lv_has ls 3 [(2, .int (nI k)), (0, .ref (a 0)), (1, .int (nI w))] → W p l e ({ frames := 1, cells := 0, slots := 0, locals := 22 } : Room) s m args below meth c H locs 0 0 Q (F0 m 2 ls []) := by
    intro fuel
    induction fuel with
    | zero =>
      intro k hfuel
      exact absurd hfuel (Nat.not_lt_zero _)
    | succ fuel ih2 =>
      intro k hfuel2 hk ha locs hS ls hl
      refine lv_iload_n hx hb dX0_isBesideBurning_2 rfl (lv_at hl 0 rfl) ?_
      refine lv_aload_n hx hb dX0_isBesideBurning_3 rfl (lv_at hl 1 rfl) ?_
      refine li_gf0 hx hb hX0 hown hK hP 0 rfl 0 (by decide) f58 rfl dX0_isBesideBurning_4 ?_
      refine li_gf1 hx hb hX1 hown hK hP 16 rfl 6 (by decide) f92 rfl dX0_isBesideBurning_7 ?_
      refine li_ge (tgt := 39) hx hb dX0_isBesideBurning_10 (by decide) (by omega) (by omega) (fun c2 => ?_) (fun c2 => ?_)
      · skip
        refine lv_iconst (v := nI 0) hx hb dX0_isBesideBurning_39 rfl ?_
        refine li_topi (show nI 0 = zI (bb σ κ nw w) from by first | (rw [show bb σ κ nw w = true from anyN_t (k := k) (by omega) (by simp [bbS, c2])]; rfl) | (rw [show bb σ κ nw w = false from by unfold bb; rw [show nw = k by omega]; exact ha]; rfl)) ?_
        exact hEnd 40 ls locs dX0_isBesideBurning_40 hS
      · skip
        refine lv_aload_n hx hb dX0_isBesideBurning_13 rfl (lv_at hl 1 rfl) ?_
        refine li_gf0 hx hb hX0 hown hK hP 0 rfl 12 (by decide) f43 rfl dX0_isBesideBurning_14 ?_
        refine lv_iload_n hx hb dX0_isBesideBurning_17 rfl (lv_at hl 0 rfl) ?_
        refine li_zld hx hb hK hP 11 1 rfl rfl (by omega) (by decide) dX0_isBesideBurning_18 ?_
        refine lv_if_eq (tgt := 33) hx hb dX0_isBesideBurning_19 (by decide) (fun c3 => ?_) (fun c3 => ?_)
        · skip
          refine lv_iinc (v := nI (k + 1)) (lv' := [(2, .int (nI (k + 1))), (0, .ref (a 0)), (1, .int (nI w))]) hx hb dX0_isBesideBurning_33 hl (k := 0) rfl (nI_inc _ _) (by decide) rfl (fun ls hl => ?_)
          refine lv_goto (tgt := 2) hx hb dX0_isBesideBurning_36 (by decide) ?_
          have hl9 : lv_has ls 3 [(2, .int (nI (k + 1))), (0, .ref (a 0)), (1, .int (nI w))] := lv_sub hl [0, 1, 2] rfl
          exact ih2 (k + 1) (by omega) (by omega) (anyN_f ha (by simp [bbS, c2, c3])) locs hS ls hl9
        · skip
          refine lv_aload_n hx hb dX0_isBesideBurning_22 rfl (lv_at hl 1 rfl) ?_
          refine lv_iload_n hx hb dX0_isBesideBurning_23 rfl (lv_at hl 2 rfl) ?_
          refine lv_iload_n hx hb dX0_isBesideBurning_24 rfl (lv_at hl 0 rfl) ?_
          refine roV (As := [.int (nI w), .int (nI k)]) (q0 := 0) (ci := 0) hx hb hml hown hts (c_X0_areNeighbours l D cI cZ cL cO a n pl nw ns σ κ H w k (hB) (by omega) (by omega)) (cwV 2 hts gX0_isBesideBurning_X0_areNeighbours rfl rfl rfl (by decide +kernel) ⟨by decide, by decide⟩) hK hE hP rfl rfl rfl rfl hl.1 rfl (Nat.le_of_ble_eq_true rfl) hS dX0_isBesideBurning_25 ⟨Nat.zero_le _, Nat.zero_le _⟩ (fun locs hS => ?_)
          refine li_zeq (tgt := 33) hx hb dX0_isBesideBurning_28 (by decide) (fun c4 => ?_) (fun c4 => ?_)
          · skip
            refine lv_iinc (v := nI (k + 1)) (lv' := [(2, .int (nI (k + 1))), (0, .ref (a 0)), (1, .int (nI w))]) hx hb dX0_isBesideBurning_33 hl (k := 0) rfl (nI_inc _ _) (by decide) rfl (fun ls hl => ?_)
            refine lv_goto (tgt := 2) hx hb dX0_isBesideBurning_36 (by decide) ?_
            have hl9 : lv_has ls 3 [(2, .int (nI (k + 1))), (0, .ref (a 0)), (1, .int (nI w))] := lv_sub hl [0, 1, 2] rfl
            exact ih2 (k + 1) (by omega) (by omega) (anyN_f ha (by simp [bbS, c2, c3, c4])) locs hS ls hl9
          · skip
            refine lv_iconst (v := nI 1) hx hb dX0_isBesideBurning_31 rfl ?_
            refine li_topi (show nI 1 = zI (bb σ κ nw w) from by first | (rw [show bb σ κ nw w = true from anyN_t (k := k) (by omega) (by simp [bbS, c2, c3, c4])]; rfl) | (rw [show bb σ κ nw w = false from by unfold bb; rw [show nw = k by omega]; exact ha]; rfl)) ?_
            exact hEnd 32 ls locs dX0_isBesideBurning_32 hS
  have hl9 : lv_has ls 3 [(2, .int (nI 0)), (0, .ref (a 0)), (1, .int (nI w))] := lv_sub hl [0, 1, 2] rfl
  exact L2_1 ((nw - 0) + 1) 0 (Nat.lt_succ_self _) (by omega) (rfl) locs hS ls hl9
set_option maxHeartbeats 4000000 in
set_option maxRecDepth 100000 in
theorem c_X0_foremostToGo (l : Launch) (D : va_G) (cI cZ cL cO : ClassId) (a : Nat → Nat) (n pl nw ns : Nat) (σ κ : Nat → Nat → Int32) (H : Heap) (hB : n ≤ 10 ∧ pl ≤ 200 ∧ nw ≤ 20 ∧ ns ≤ 6) : Met l yX0_foremostToGo wsX0_foremostToGo ({ frames := 0, cells := 0, slots := 0, locals := 0 } : Room) (ro_P D (T4 cI cZ cL cO) (wP cI cZ a n pl nw ns σ κ) H [.ref (a 0)]) (ro_Q ((fg σ κ nw).2) H) 0 0 (fun _ => False) := by
  refine ro_of (cc := cX0_foremostToGo) (maxL := 4) (by decide) rfl (Nat.le_of_ble_eq_true rfl) rfl ?_
  intro p e s m args below meth c Q ls locs hx hb hml hown hts hK hE hP hl hS hEnd
  have hl : lv_has ls 4 [(0, .ref (a 0))] := hl
  have hX0 : ∀ w ∈ wsX00, w.before args s = true := fun w h => hts w (List.mem_cons_of_mem _ (List.mem_append_left _ (List.mem_append_right _ (h))))
  have hX1 : ∀ w ∈ wsX10, w.before args s = true := fun w h => hts w (List.mem_cons_of_mem _ (List.mem_append_right _ (h)))
  have f58 : (Cond.fieldLink RX0 58 "LanternWalk$Parade" "setting" "LLanternWalk$Setting;").before args s = true := hts _ (List.mem_of_getElem? (i := 1) rfl)
  have f92 : (Cond.fieldLink RX0 92 "LanternWalk$Setting" "walkers" "I").before args s = true := hts _ (List.mem_of_getElem? (i := 2) rfl)
  have f28 : (Cond.fieldLink RX0 28 "LanternWalk$Parade" "stage" "[I").before args s = true := hts _ (List.mem_of_getElem? (i := 3) rfl)
  have f55 : (Cond.fieldLink RX0 55 "LanternWalk$Parade" "hasGone" "[Z").before args s = true := hts _ (List.mem_of_getElem? (i := 4) rfl)
  have f31 : (Cond.fieldLink RX0 31 "LanternWalk$Parade" "place" "[I").before args s = true := hts _ (List.mem_of_getElem? (i := 5) rfl)
  refine lv_iconst (v := (-1)) hx hb dX0_foremostToGo_0 rfl ?_
  refine lv_istore_n (lv' := [(1, .int (-1)), (0, .ref (a 0))]) hx hb dX0_foremostToGo_1 rfl hl (by decide) rfl (fun ls hl => ?_)
  refine lv_iconst (v := (-1)) hx hb dX0_foremostToGo_2 rfl ?_
  refine lv_istore_n (lv' := [(2, .int (-1)), (1, .int (-1)), (0, .ref (a 0))]) hx hb dX0_foremostToGo_3 rfl hl (by decide) rfl (fun ls hl => ?_)
  refine lv_iconst (v := nI 0) hx hb dX0_foremostToGo_4 rfl ?_
  refine lv_istore_n (lv' := [(3, .int (nI 0)), (2, .int (-1)), (1, .int (-1)), (0, .ref (a 0))]) hx hb dX0_foremostToGo_5 rfl hl (by decide) rfl (fun ls hl => ?_)
  have L6_1 : ∀ (fuel : Nat) (k : Nat), (nw - k) < fuel → (k ≤ nw) → ∀ (locs : List Loc), va_S (fun _ => False) H H locs → ∀ (ls : Array Slot), lv_has ls 4 [(3, .int (nI k)), (2, .int ((fg σ κ k).1)), (1, .int ((fg σ κ k).2)), (0, .ref (a 0))] → W p l e ({ frames := 0, cells := 0, slots := 0, locals := 0 } : Room) s m args below meth c H locs 0 0 Q (F0 m 6 ls []) := by
    intro fuel
    induction fuel with
    | zero =>
      intro k hfuel
      exact absurd hfuel (Nat.not_lt_zero _)
    | succ fuel ih6 =>
      intro k hfuel6 hk locs hS ls hl
      refine lv_iload_n hx hb dX0_foremostToGo_6 rfl (lv_at hl 0 rfl) ?_
      refine lv_aload_n hx hb dX0_foremostToGo_7 rfl (lv_at hl 3 rfl) ?_
      refine li_gf0 hx hb hX0 hown hK hP 0 rfl 0 (by decide) f58 rfl dX0_foremostToGo_8 ?_
      refine li_gf1 hx hb hX1 hown hK hP 16 rfl 6 (by decide) f92 rfl dX0_foremostToGo_11 ?_
      refine li_ge (tgt := 61) hx hb dX0_foremostToGo_14 (by decide) (by omega) (by omega) (fun c2 => ?_) (fun c2 => ?_)
      · skip
        refine lv_iload_n hx hb dX0_foremostToGo_61 rfl (lv_at hl 2 rfl) ?_
        refine li_topi (show (fg σ κ k).2 = (fg σ κ nw).2 from by rw [show k = nw by omega]) ?_
        exact hEnd 62 ls locs dX0_foremostToGo_62 hS
      · skip
        refine lv_aload_n hx hb dX0_foremostToGo_17 rfl (lv_at hl 3 rfl) ?_
        refine li_gf0 hx hb hX0 hown hK hP 0 rfl 7 (by decide) f28 rfl dX0_foremostToGo_18 ?_
        refine lv_iload_n hx hb dX0_foremostToGo_21 rfl (lv_at hl 0 rfl) ?_
        refine li_ild hx hb hK hP 6 0 rfl rfl (by omega) (by decide) dX0_foremostToGo_22 ?_
        refine lv_iconst (v := nI 1) hx hb dX0_foremostToGo_23 rfl ?_
        refine lv_icmp_ne (tgt := 55) hx hb dX0_foremostToGo_24 (by decide) (fun c3 => ?_) (fun c3 => ?_)
        · skip
          refine lv_iinc (v := nI (k + 1)) (lv' := [(3, .int (nI (k + 1))), (2, .int ((fg σ κ k).1)), (1, .int ((fg σ κ k).2)), (0, .ref (a 0))]) hx hb dX0_foremostToGo_55 hl (k := 0) rfl (nI_inc _ _) (by decide) rfl (fun ls hl => ?_)
          refine lv_goto (tgt := 6) hx hb dX0_foremostToGo_58 (by decide) ?_
          have hl9 : lv_has ls 4 [(3, .int (nI (k + 1))), (2, .int ((fg σ κ k).1)), (1, .int ((fg σ κ k).2)), (0, .ref (a 0))] := lv_sub hl [0, 1, 2, 3] rfl
          have hl9 : lv_has ls 4 [(3, .int (nI (k + 1))), (2, .int ((fg σ κ (k + 1)).1)), (1, .int ((fg σ κ k).2)), (0, .ref (a 0))] := lv_re hl9 1 rfl (show (fg σ κ k).1 = (fg σ κ (k + 1)).1 from by simp [fg, c2, c3])
          have hl9 : lv_has ls 4 [(3, .int (nI (k + 1))), (2, .int ((fg σ κ (k + 1)).1)), (1, .int ((fg σ κ (k + 1)).2)), (0, .ref (a 0))] := lv_re hl9 2 rfl (show (fg σ κ k).2 = (fg σ κ (k + 1)).2 from by simp [fg, c2, c3])
          exact ih6 (k + 1) (by omega) (by omega) locs hS ls hl9
        · skip
          refine lv_aload_n hx hb dX0_foremostToGo_27 rfl (lv_at hl 3 rfl) ?_
          refine li_gf0 hx hb hX0 hown hK hP 0 rfl 16 (by decide) f55 rfl dX0_foremostToGo_28 ?_
          refine lv_iload_n hx hb dX0_foremostToGo_31 rfl (lv_at hl 0 rfl) ?_
          refine li_zld hx hb hK hP 15 1 rfl rfl (by omega) (by decide) dX0_foremostToGo_32 ?_
          refine lv_if_ne (tgt := 55) hx hb dX0_foremostToGo_33 (by decide) (fun c4 => ?_) (fun c4 => ?_)
          · skip
            refine lv_iinc (v := nI (k + 1)) (lv' := [(3, .int (nI (k + 1))), (2, .int ((fg σ κ k).1)), (1, .int ((fg σ κ k).2)), (0, .ref (a 0))]) hx hb dX0_foremostToGo_55 hl (k := 0) rfl (nI_inc _ _) (by decide) rfl (fun ls hl => ?_)
            refine lv_goto (tgt := 6) hx hb dX0_foremostToGo_58 (by decide) ?_
            have hl9 : lv_has ls 4 [(3, .int (nI (k + 1))), (2, .int ((fg σ κ k).1)), (1, .int ((fg σ κ k).2)), (0, .ref (a 0))] := lv_sub hl [0, 1, 2, 3] rfl
            have hl9 : lv_has ls 4 [(3, .int (nI (k + 1))), (2, .int ((fg σ κ (k + 1)).1)), (1, .int ((fg σ κ k).2)), (0, .ref (a 0))] := lv_re hl9 1 rfl (show (fg σ κ k).1 = (fg σ κ (k + 1)).1 from by simp [fg, c2, c3, c4])
            have hl9 : lv_has ls 4 [(3, .int (nI (k + 1))), (2, .int ((fg σ κ (k + 1)).1)), (1, .int ((fg σ κ (k + 1)).2)), (0, .ref (a 0))] := lv_re hl9 2 rfl (show (fg σ κ k).2 = (fg σ κ (k + 1)).2 from by simp [fg, c2, c3, c4])
            exact ih6 (k + 1) (by omega) (by omega) locs hS ls hl9
          · skip
            refine lv_aload_n hx hb dX0_foremostToGo_36 rfl (lv_at hl 3 rfl) ?_
            refine li_gf0 hx hb hX0 hown hK hP 0 rfl 8 (by decide) f31 rfl dX0_foremostToGo_37 ?_
            refine lv_iload_n hx hb dX0_foremostToGo_40 rfl (lv_at hl 0 rfl) ?_
            refine li_ild hx hb hK hP 7 0 rfl rfl (by omega) (by decide) dX0_foremostToGo_41 ?_
            refine lv_iload_n hx hb dX0_foremostToGo_42 rfl (lv_at hl 1 rfl) ?_
            refine lv_icmp_le (tgt := 55) hx hb dX0_foremostToGo_43 (by decide) (fun c5 => ?_) (fun c5 => ?_)
            · skip
              refine lv_iinc (v := nI (k + 1)) (lv' := [(3, .int (nI (k + 1))), (2, .int ((fg σ κ k).1)), (1, .int ((fg σ κ k).2)), (0, .ref (a 0))]) hx hb dX0_foremostToGo_55 hl (k := 0) rfl (nI_inc _ _) (by decide) rfl (fun ls hl => ?_)
              refine lv_goto (tgt := 6) hx hb dX0_foremostToGo_58 (by decide) ?_
              have hl9 : lv_has ls 4 [(3, .int (nI (k + 1))), (2, .int ((fg σ κ k).1)), (1, .int ((fg σ κ k).2)), (0, .ref (a 0))] := lv_sub hl [0, 1, 2, 3] rfl
              have hl9 : lv_has ls 4 [(3, .int (nI (k + 1))), (2, .int ((fg σ κ (k + 1)).1)), (1, .int ((fg σ κ k).2)), (0, .ref (a 0))] := lv_re hl9 1 rfl (show (fg σ κ k).1 = (fg σ κ (k + 1)).1 from by simp [fg, c2, c3, c4, c5])
              have hl9 : lv_has ls 4 [(3, .int (nI (k + 1))), (2, .int ((fg σ κ (k + 1)).1)), (1, .int ((fg σ κ (k + 1)).2)), (0, .ref (a 0))] := lv_re hl9 2 rfl (show (fg σ κ k).2 = (fg σ κ (k + 1)).2 from by simp [fg, c2, c3, c4, c5])
              exact ih6 (k + 1) (by omega) (by omega) locs hS ls hl9
            · skip
              refine lv_aload_n hx hb dX0_foremostToGo_46 rfl (lv_at hl 3 rfl) ?_
              refine li_gf0 hx hb hX0 hown hK hP 0 rfl 8 (by decide) f31 rfl dX0_foremostToGo_47 ?_
              refine lv_iload_n hx hb dX0_foremostToGo_50 rfl (lv_at hl 0 rfl) ?_
              refine li_ild hx hb hK hP 7 0 rfl rfl (by omega) (by decide) dX0_foremostToGo_51 ?_
              refine lv_istore_n (lv' := [(2, .int (σ 13 k)), (3, .int (nI k)), (1, .int ((fg σ κ k).2)), (0, .ref (a 0))]) hx hb dX0_foremostToGo_52 rfl hl (by decide) rfl (fun ls hl => ?_)
              refine lv_iload_n hx hb dX0_foremostToGo_53 rfl (lv_at hl 1 rfl) ?_
              refine lv_istore_n (lv' := [(1, .int (nI k)), (2, .int (σ 13 k)), (3, .int (nI k)), (0, .ref (a 0))]) hx hb dX0_foremostToGo_54 rfl hl (by decide) rfl (fun ls hl => ?_)
              refine lv_iinc (v := nI (k + 1)) (lv' := [(3, .int (nI (k + 1))), (1, .int (nI k)), (2, .int (σ 13 k)), (0, .ref (a 0))]) hx hb dX0_foremostToGo_55 hl (k := 2) rfl (nI_inc _ _) (by decide) rfl (fun ls hl => ?_)
              refine lv_goto (tgt := 6) hx hb dX0_foremostToGo_58 (by decide) ?_
              have hl9 : lv_has ls 4 [(3, .int (nI (k + 1))), (2, .int (σ 13 k)), (1, .int (nI k)), (0, .ref (a 0))] := lv_sub hl [0, 2, 1, 3] rfl
              have hl9 : lv_has ls 4 [(3, .int (nI (k + 1))), (2, .int ((fg σ κ (k + 1)).1)), (1, .int (nI k)), (0, .ref (a 0))] := lv_re hl9 1 rfl (show σ 13 k = (fg σ κ (k + 1)).1 from by simp [fg, c2, c3, c4, c5])
              have hl9 : lv_has ls 4 [(3, .int (nI (k + 1))), (2, .int ((fg σ κ (k + 1)).1)), (1, .int ((fg σ κ (k + 1)).2)), (0, .ref (a 0))] := lv_re hl9 2 rfl (show nI k = (fg σ κ (k + 1)).2 from by simp [fg, c2, c3, c4, c5])
              exact ih6 (k + 1) (by omega) (by omega) locs hS ls hl9
  have hl9 : lv_has ls 4 [(3, .int (nI 0)), (2, .int (-1)), (1, .int (-1)), (0, .ref (a 0))] := lv_sub hl [0, 1, 2, 3] rfl
  have hl9 : lv_has ls 4 [(3, .int (nI 0)), (2, .int ((fg σ κ 0).1)), (1, .int (-1)), (0, .ref (a 0))] := lv_re hl9 1 rfl (show (-1) = (fg σ κ 0).1 from rfl)
  have hl9 : lv_has ls 4 [(3, .int (nI 0)), (2, .int ((fg σ κ 0).1)), (1, .int ((fg σ κ 0).2)), (0, .ref (a 0))] := lv_re hl9 2 rfl (show (-1) = (fg σ κ 0).2 from rfl)
  exact L6_1 ((nw - 0) + 1) 0 (Nat.lt_succ_self _) (by omega) locs hS ls hl9
set_option maxHeartbeats 4000000 in
set_option maxRecDepth 100000 in
theorem c_X1_stretchEndingAt (l : Launch) (D : va_G) (cI cZ cL cO : ClassId) (a : Nat → Nat) (n pl nw ns : Nat) (σ κ : Nat → Nat → Int32) (H : Heap) (z : Int32) (hB : n ≤ 10 ∧ pl ≤ 200 ∧ nw ≤ 20 ∧ ns ≤ 6) : Met l yX1_stretchEndingAt wsX1_stretchEndingAt ({ frames := 0, cells := 0, slots := 0, locals := 0 } : Room) (ro_P D (T4 cI cZ cL cO) (wP cI cZ a n pl nw ns σ κ) H [.ref (a 16), .int z]) (ro_Q (oI (se σ n z)) H) 0 0 (fun _ => False) := by
  refine ro_of (cc := cX1_stretchEndingAt) (maxL := 3) (by decide) rfl (Nat.le_of_ble_eq_true rfl) rfl ?_
  intro p e s m args below meth c Q ls locs hx hb hml hown hts hK hE hP hl hS hEnd
  have hl : lv_has ls 3 [(0, .ref (a 16)), (1, .int z)] := hl
  have hX1 : ∀ w ∈ wsX10, w.before args s = true := fun w h => hts w (List.mem_cons_of_mem _ (List.mem_append_right _ (h)))
  have f33 : (Cond.fieldLink RX1 33 "LanternWalk$Setting" "stretches" "I").before args s = true := hts _ (List.mem_of_getElem? (i := 1) rfl)
  have f18 : (Cond.fieldLink RX1 18 "LanternWalk$Setting" "first" "[I").before args s = true := hts _ (List.mem_of_getElem? (i := 2) rfl)
  have f9 : (Cond.fieldLink RX1 9 "LanternWalk$Setting" "length" "[I").before args s = true := hts _ (List.mem_of_getElem? (i := 3) rfl)
  refine lv_iconst (v := nI 0) hx hb dX1_stretchEndingAt_0 rfl ?_
  refine lv_istore_n (lv' := [(2, .int (nI 0)), (0, .ref (a 16)), (1, .int z)]) hx hb dX1_stretchEndingAt_1 rfl hl (by decide) rfl (fun ls hl => ?_)
  have L2_1 : ∀ (fuel : Nat) (k : Nat), (n - k) < fuel → (k ≤ n) → (fnd (seS σ z) k = none) → ∀ (locs : List Loc), va_S (fun _ => False) H H locs → ∀ (ls : Array Slot), lv_has ls 3 [(2, .int (nI k)), (0, .ref (a 16)), (1, .int z)] → W p l e ({ frames := 0, cells := 0, slots := 0, locals := 0 } : Room) s m args below meth c H locs 0 0 Q (F0 m 2 ls []) := by
    intro fuel
    induction fuel with
    | zero =>
      intro k hfuel
      exact absurd hfuel (Nat.not_lt_zero _)
    | succ fuel ih2 =>
      intro k hfuel2 hk ha locs hS ls hl
      refine lv_iload_n hx hb dX1_stretchEndingAt_2 rfl (lv_at hl 0 rfl) ?_
      refine lv_aload_n hx hb dX1_stretchEndingAt_3 rfl (lv_at hl 1 rfl) ?_
      refine li_gf1 hx hb hX1 hown hK hP 16 rfl 0 (by decide) f33 rfl dX1_stretchEndingAt_4 ?_
      refine li_ge (tgt := 37) hx hb dX1_stretchEndingAt_7 (by decide) (by omega) (by omega) (fun c2 => ?_) (fun c2 => ?_)
      · skip
        refine lv_iconst (v := (-1)) hx hb dX1_stretchEndingAt_37 rfl ?_
        refine li_topi (show (-1) = oI (se σ n z) from by first | (rw [show se σ n z = some k from fnd_s (by omega) ha (by simp [seS, c2])]; rfl) | (rw [show se σ n z = none from by unfold se; rw [show n = k by omega]; exact ha]; rfl)) ?_
        exact hEnd 38 ls locs dX1_stretchEndingAt_38 hS
      · skip
        refine lv_aload_n hx hb dX1_stretchEndingAt_10 rfl (lv_at hl 1 rfl) ?_
        refine li_gf1 hx hb hX1 hown hK hP 16 rfl 4 (by decide) f18 rfl dX1_stretchEndingAt_11 ?_
        refine lv_iload_n hx hb dX1_stretchEndingAt_14 rfl (lv_at hl 0 rfl) ?_
        refine li_ild hx hb hK hP 19 0 rfl rfl (by omega) (by decide) dX1_stretchEndingAt_15 ?_
        refine lv_aload_n hx hb dX1_stretchEndingAt_16 rfl (lv_at hl 1 rfl) ?_
        refine li_gf1 hx hb hX1 hown hK hP 16 rfl 2 (by decide) f9 rfl dX1_stretchEndingAt_17 ?_
        refine lv_iload_n hx hb dX1_stretchEndingAt_20 rfl (lv_at hl 0 rfl) ?_
        refine li_ild hx hb hK hP 17 0 rfl rfl (by omega) (by decide) dX1_stretchEndingAt_21 ?_
        refine lv_iadd hx hb dX1_stretchEndingAt_22 ?_
        refine lv_iconst (v := nI 1) hx hb dX1_stretchEndingAt_23 rfl ?_
        refine lv_isub hx hb dX1_stretchEndingAt_24 ?_
        refine lv_iload_n hx hb dX1_stretchEndingAt_25 rfl (lv_at hl 2 rfl) ?_
        refine lv_icmp_ne (tgt := 31) hx hb dX1_stretchEndingAt_26 (by decide) (fun c3 => ?_) (fun c3 => ?_)
        · skip
          refine lv_iinc (v := nI (k + 1)) (lv' := [(2, .int (nI (k + 1))), (0, .ref (a 16)), (1, .int z)]) hx hb dX1_stretchEndingAt_31 hl (k := 0) rfl (nI_inc _ _) (by decide) rfl (fun ls hl => ?_)
          refine lv_goto (tgt := 2) hx hb dX1_stretchEndingAt_34 (by decide) ?_
          have hl9 : lv_has ls 3 [(2, .int (nI (k + 1))), (0, .ref (a 16)), (1, .int z)] := lv_sub hl [0, 1, 2] rfl
          exact ih2 (k + 1) (by omega) (by omega) (fnd_n ha (by simp [seS, c2, c3])) locs hS ls hl9
        · skip
          refine lv_iload_n hx hb dX1_stretchEndingAt_29 rfl (lv_at hl 0 rfl) ?_
          refine li_topi (show nI k = oI (se σ n z) from by first | (rw [show se σ n z = some k from fnd_s (by omega) ha (by simp [seS, c2, c3])]; rfl) | (rw [show se σ n z = none from by unfold se; rw [show n = k by omega]; exact ha]; rfl)) ?_
          exact hEnd 30 ls locs dX1_stretchEndingAt_30 hS
  have hl9 : lv_has ls 3 [(2, .int (nI 0)), (0, .ref (a 16)), (1, .int z)] := lv_sub hl [0, 1, 2] rfl
  exact L2_1 ((n - 0) + 1) 0 (Nat.lt_succ_self _) (by omega) (rfl) locs hS ls hl9
set_option maxHeartbeats 4000000 in
set_option maxRecDepth 100000 in
theorem c_X1_hasStretch (l : Launch) (D : va_G) (cI cZ cL cO : ClassId) (a : Nat → Nat) (n pl nw ns : Nat) (σ κ : Nat → Nat → Int32) (H : Heap) (z : Int32) (hB : n ≤ 10 ∧ pl ≤ 200 ∧ nw ≤ 20 ∧ ns ≤ 6) : Met l yX1_hasStretch wsX1_hasStretch ({ frames := 0, cells := 0, slots := 0, locals := 0 } : Room) (ro_P D (T4 cI cZ cL cO) (wP cI cZ a n pl nw ns σ κ) H [.ref (a 16), .int z]) (ro_Q (zI (has n z)) H) 0 0 (fun _ => False) := by
  refine ro_of (cc := cX1_hasStretch) (maxL := 2) (by decide) rfl (Nat.le_of_ble_eq_true rfl) (zI_n _) ?_
  intro p e s m args below meth c Q ls locs hx hb hml hown hts hK hE hP hl hS hEnd
  have hl : lv_has ls 2 [(0, .ref (a 16)), (1, .int z)] := hl
  have hX1 : ∀ w ∈ wsX10, w.before args s = true := fun w h => hts w (List.mem_cons_of_mem _ (List.mem_append_right _ (h)))
  have f33 : (Cond.fieldLink RX1 33 "LanternWalk$Setting" "stretches" "I").before args s = true := hts _ (List.mem_of_getElem? (i := 1) rfl)
  refine lv_iload_n hx hb dX1_hasStretch_0 rfl (lv_at hl 1 rfl) ?_
  refine lv_if_lt (tgt := 16) hx hb dX1_hasStretch_1 (by decide) (fun c1 => ?_) (fun c1 => ?_)
  · skip
    refine lv_iconst (v := nI 0) hx hb dX1_hasStretch_16 rfl ?_
    refine li_topi (show nI 0 = zI (has n z) from by simp [has, zI, c1]) ?_
    exact hEnd 17 ls locs dX1_hasStretch_17 hS
  · skip
    refine lv_iload_n hx hb dX1_hasStretch_4 rfl (lv_at hl 1 rfl) ?_
    refine lv_aload_n hx hb dX1_hasStretch_5 rfl (lv_at hl 0 rfl) ?_
    refine li_gf1 hx hb hX1 hown hK hP 16 rfl 0 (by decide) f33 rfl dX1_hasStretch_6 ?_
    refine lv_icmp_ge (tgt := 16) hx hb dX1_hasStretch_9 (by decide) (fun c2 => ?_) (fun c2 => ?_)
    · skip
      refine lv_iconst (v := nI 0) hx hb dX1_hasStretch_16 rfl ?_
      refine li_topi (show nI 0 = zI (has n z) from by simp [has, zI, c1, c2]) ?_
      exact hEnd 17 ls locs dX1_hasStretch_17 hS
    · skip
      refine lv_iconst (v := nI 1) hx hb dX1_hasStretch_12 rfl ?_
      refine lv_goto (tgt := 17) hx hb dX1_hasStretch_13 (by decide) ?_
      refine li_topi (show nI 1 = zI (has n z) from by simp [has, zI, c1, c2]) ?_
      exact hEnd 17 ls locs dX1_hasStretch_17 hS
set_option maxHeartbeats 4000000 in
set_option maxRecDepth 100000 in
theorem c_X1_hasWalker (l : Launch) (D : va_G) (cI cZ cL cO : ClassId) (a : Nat → Nat) (n pl nw ns : Nat) (σ κ : Nat → Nat → Int32) (H : Heap) (z : Int32) (hB : n ≤ 10 ∧ pl ≤ 200 ∧ nw ≤ 20 ∧ ns ≤ 6) : Met l yX1_hasWalker wsX1_hasWalker ({ frames := 0, cells := 0, slots := 0, locals := 0 } : Room) (ro_P D (T4 cI cZ cL cO) (wP cI cZ a n pl nw ns σ κ) H [.ref (a 16), .int z]) (ro_Q (zI (has nw z)) H) 0 0 (fun _ => False) := by
  refine ro_of (cc := cX1_hasWalker) (maxL := 2) (by decide) rfl (Nat.le_of_ble_eq_true rfl) (zI_n _) ?_
  intro p e s m args below meth c Q ls locs hx hb hml hown hts hK hE hP hl hS hEnd
  have hl : lv_has ls 2 [(0, .ref (a 16)), (1, .int z)] := hl
  have hX1 : ∀ w ∈ wsX10, w.before args s = true := fun w h => hts w (List.mem_cons_of_mem _ (List.mem_append_right _ (h)))
  have f37 : (Cond.fieldLink RX1 37 "LanternWalk$Setting" "walkers" "I").before args s = true := hts _ (List.mem_of_getElem? (i := 1) rfl)
  refine lv_iload_n hx hb dX1_hasWalker_0 rfl (lv_at hl 1 rfl) ?_
  refine lv_if_lt (tgt := 16) hx hb dX1_hasWalker_1 (by decide) (fun c1 => ?_) (fun c1 => ?_)
  · skip
    refine lv_iconst (v := nI 0) hx hb dX1_hasWalker_16 rfl ?_
    refine li_topi (show nI 0 = zI (has nw z) from by simp [has, zI, c1]) ?_
    exact hEnd 17 ls locs dX1_hasWalker_17 hS
  · skip
    refine lv_iload_n hx hb dX1_hasWalker_4 rfl (lv_at hl 1 rfl) ?_
    refine lv_aload_n hx hb dX1_hasWalker_5 rfl (lv_at hl 0 rfl) ?_
    refine li_gf1 hx hb hX1 hown hK hP 16 rfl 6 (by decide) f37 rfl dX1_hasWalker_6 ?_
    refine lv_icmp_ge (tgt := 16) hx hb dX1_hasWalker_9 (by decide) (fun c2 => ?_) (fun c2 => ?_)
    · skip
      refine lv_iconst (v := nI 0) hx hb dX1_hasWalker_16 rfl ?_
      refine li_topi (show nI 0 = zI (has nw z) from by simp [has, zI, c1, c2]) ?_
      exact hEnd 17 ls locs dX1_hasWalker_17 hS
    · skip
      refine lv_iconst (v := nI 1) hx hb dX1_hasWalker_12 rfl ?_
      refine lv_goto (tgt := 17) hx hb dX1_hasWalker_13 (by decide) ?_
      refine li_topi (show nI 1 = zI (has nw z) from by simp [has, zI, c1, c2]) ?_
      exact hEnd 17 ls locs dX1_hasWalker_17 hS
set_option maxHeartbeats 4000000 in
set_option maxRecDepth 100000 in
theorem c_X1_hasSong (l : Launch) (D : va_G) (cI cZ cL cO : ClassId) (a : Nat → Nat) (n pl nw ns : Nat) (σ κ : Nat → Nat → Int32) (H : Heap) (z : Int32) (hB : n ≤ 10 ∧ pl ≤ 200 ∧ nw ≤ 20 ∧ ns ≤ 6) : Met l yX1_hasSong wsX1_hasSong ({ frames := 0, cells := 0, slots := 0, locals := 0 } : Room) (ro_P D (T4 cI cZ cL cO) (wP cI cZ a n pl nw ns σ κ) H [.ref (a 16), .int z]) (ro_Q (zI (has ns z)) H) 0 0 (fun _ => False) := by
  refine ro_of (cc := cX1_hasSong) (maxL := 2) (by decide) rfl (Nat.le_of_ble_eq_true rfl) (zI_n _) ?_
  intro p e s m args below meth c Q ls locs hx hb hml hown hts hK hE hP hl hS hEnd
  have hl : lv_has ls 2 [(0, .ref (a 16)), (1, .int z)] := hl
  have hX1 : ∀ w ∈ wsX10, w.before args s = true := fun w h => hts w (List.mem_cons_of_mem _ (List.mem_append_right _ (h)))
  have f40 : (Cond.fieldLink RX1 40 "LanternWalk$Setting" "songs" "I").before args s = true := hts _ (List.mem_of_getElem? (i := 1) rfl)
  refine lv_iload_n hx hb dX1_hasSong_0 rfl (lv_at hl 1 rfl) ?_
  refine lv_if_lt (tgt := 16) hx hb dX1_hasSong_1 (by decide) (fun c1 => ?_) (fun c1 => ?_)
  · skip
    refine lv_iconst (v := nI 0) hx hb dX1_hasSong_16 rfl ?_
    refine li_topi (show nI 0 = zI (has ns z) from by simp [has, zI, c1]) ?_
    exact hEnd 17 ls locs dX1_hasSong_17 hS
  · skip
    refine lv_iload_n hx hb dX1_hasSong_4 rfl (lv_at hl 1 rfl) ?_
    refine lv_aload_n hx hb dX1_hasSong_5 rfl (lv_at hl 0 rfl) ?_
    refine li_gf1 hx hb hX1 hown hK hP 16 rfl 9 (by decide) f40 rfl dX1_hasSong_6 ?_
    refine lv_icmp_ge (tgt := 16) hx hb dX1_hasSong_9 (by decide) (fun c2 => ?_) (fun c2 => ?_)
    · skip
      refine lv_iconst (v := nI 0) hx hb dX1_hasSong_16 rfl ?_
      refine li_topi (show nI 0 = zI (has ns z) from by simp [has, zI, c1, c2]) ?_
      exact hEnd 17 ls locs dX1_hasSong_17 hS
    · skip
      refine lv_iconst (v := nI 1) hx hb dX1_hasSong_12 rfl ?_
      refine lv_goto (tgt := 17) hx hb dX1_hasSong_13 (by decide) ?_
      refine li_topi (show nI 1 = zI (has ns z) from by simp [has, zI, c1, c2]) ?_
      exact hEnd 17 ls locs dX1_hasSong_17 hS
