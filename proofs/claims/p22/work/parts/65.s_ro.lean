/-! the simulation: questions that change nothing -/
theorem lt2_y {x : Int32} : x < nI 2 ↔ ¬ nI 1 < x := by
  have e1 : (nI 1).toInt = 1 := by decide
  have e2 : (nI 2).toInt = 2 := by decide
  rw [Int32.lt_iff_toInt_lt, Int32.lt_iff_toInt_lt, e1, e2]
  omega
theorem lt2_n {x : Int32} : nI 2 ≤ x ↔ nI 1 < x := by
  have e1 : (nI 1).toInt = 1 := by decide
  have e2 : (nI 2).toInt = 2 := by decide
  rw [Int32.lt_iff_toInt_lt, Int32.le_iff_toInt_le, e1, e2]
  omega
theorem zI_fit (b : Bool) : fits .boolean (.int (zI b)) = true := by cases b <;> rfl
theorem zI_or (x y : Bool) : zI x ||| zI y = zI (x || y) := by cases x <;> cases y <;> decide
/-- the lengths of the first k stretches -/
def plS (σ : Sg) : Nat → Int32
  | 0 => nI 0
  | k + 1 => plS σ k + σ 0 k
set_option maxHeartbeats 4000000 in
set_option maxRecDepth 100000 in
theorem c_X4_isBeside (l : Launch) (D : va_G) (cI cZ cW cO : ClassId) (X : Nat → va_E) (a : Ka) (n nw ns : Nat) (σ η : Sg) (T : Ke) (H : Heap) (w : Nat) (o9 : Nat) (A : Nat → Prop) (hO : kO A (MS n nw) a) (hB : n ≤ 10 ∧ nw ≤ 20 ∧ ns ≤ 6) (hw : w < nw) (ho : o9 < nw) : Met l yX4_isBeside wsX4_isBeside ({ frames := 0, cells := 0, slots := 0, locals := 0 } : Room) (ro_P D (T4 cI cZ cW cO) (wK (MS n nw) a (eL cI cZ cW cO X a n nw ns σ η T)) H [.ref (a 3 w), .ref (a 3 o9)]) (ro_Q (zI (nbr σ w o9)) H) 0 0 (fun _ => False) := by
  refine ro_of (cc := cX4_isBeside) (maxL := 2) (by decide) rfl (Nat.le_of_ble_eq_true rfl) (zI_n _) ?_
  intro p e s m args below meth c Q ls locs hx hb hml hown hts hK hE hP hl hS hEnd
  have hP : kP D (MS n nw) a (eL cI cZ cW cO X a n nw ns σ η T) H := kP.of hP
  have hl : lv_has ls 2 [(0, .ref (a 3 w)), (1, .ref (a 3 o9))] := hl
  have hX4 : ∀ w ∈ wsX40, w.before args s = true := fun w h => hts w (List.mem_cons_of_mem _ (List.mem_append_right _ (h)))
  have f34 : (Cond.fieldLink RX4 34 "LanternWalkLaw$Walker" "state" "I").before args s = true := hts _ (List.mem_of_getElem? (i := 1) rfl)
  have f7 : (Cond.fieldLink RX4 7 "LanternWalkLaw$Walker" "place" "I").before args s = true := hts _ (List.mem_of_getElem? (i := 2) rfl)
  refine lv_aload_n hx hb dX4_isBeside_0 rfl (lv_at hl 1 rfl) ?_
  refine lv_aload_n hx hb dX4_isBeside_1 rfl (lv_at hl 0 rfl) ?_
  refine lv_acmp_eq (rx := some (a 3 o9)) (ry := some (a 3 w)) (tgt := 51) hx hb dX4_isBeside_2 (by decide) (fun c1 => ?_) (fun c1 => ?_)
  · have c1 : w = o9 := (hO.1 3 o9 3 w (show o9 < nw by omega) (show w < nw by omega) (Option.some.inj c1)).2.symm
    refine lv_iconst (v := nI 0) hx hb dX4_isBeside_51 rfl ?_
    refine li_topi (show nI 0 = zI (nbr σ w o9) from by simp [nbr, zI, c1]) ?_
    exact hEnd 52 ls locs dX4_isBeside_52 hS
  · have c1 : ¬ w = o9 := fun z => c1 (by rw [z])
    refine lv_aload_n hx hb dX4_isBeside_5 rfl (lv_at hl 0 rfl) ?_
    refine lk_gf4 hx hb hX4 hown hK hP 3 w (show w < nw by omega) rfl 4 (by decide) f34 rfl dX4_isBeside_6 ?_
    refine lv_iconst (v := nI 1) hx hb dX4_isBeside_9 rfl ?_
    refine lv_icmp_ne (tgt := 51) hx hb dX4_isBeside_10 (by decide) (fun c2 => ?_) (fun c2 => ?_)
    · skip
      refine lv_iconst (v := nI 0) hx hb dX4_isBeside_51 rfl ?_
      refine li_topi (show nI 0 = zI (nbr σ w o9) from by simp [nbr, zI, c1, c2]) ?_
      exact hEnd 52 ls locs dX4_isBeside_52 hS
    · skip
      refine lv_aload_n hx hb dX4_isBeside_13 rfl (lv_at hl 1 rfl) ?_
      refine lk_gf4 hx hb hX4 hown hK hP 3 o9 (show o9 < nw by omega) rfl 4 (by decide) f34 rfl dX4_isBeside_14 ?_
      refine lv_iconst (v := nI 1) hx hb dX4_isBeside_17 rfl ?_
      refine lv_icmp_ne (tgt := 51) hx hb dX4_isBeside_18 (by decide) (fun c3 => ?_) (fun c3 => ?_)
      · skip
        refine lv_iconst (v := nI 0) hx hb dX4_isBeside_51 rfl ?_
        refine li_topi (show nI 0 = zI (nbr σ w o9) from by simp [nbr, zI, c1, c2, c3]) ?_
        exact hEnd 52 ls locs dX4_isBeside_52 hS
      · skip
        refine lv_aload_n hx hb dX4_isBeside_21 rfl (lv_at hl 0 rfl) ?_
        refine lk_gf4 hx hb hX4 hown hK hP 3 w (show w < nw by omega) rfl 5 (by decide) f7 rfl dX4_isBeside_22 ?_
        refine lv_aload_n hx hb dX4_isBeside_25 rfl (lv_at hl 1 rfl) ?_
        refine lk_gf4 hx hb hX4 hown hK hP 3 o9 (show o9 < nw by omega) rfl 5 (by decide) f7 rfl dX4_isBeside_26 ?_
        refine lv_isub hx hb dX4_isBeside_29 ?_
        refine lv_iconst (v := nI 2) hx hb dX4_isBeside_30 rfl ?_
        refine lv_icmp_ge (tgt := 51) hx hb dX4_isBeside_31 (by decide) (fun c4 => ?_) (fun c4 => ?_)
        · skip
          refine lv_iconst (v := nI 0) hx hb dX4_isBeside_51 rfl ?_
          refine li_topi (show nI 0 = zI (nbr σ w o9) from by rw [lt2_n] at c4; simp [nbr, zI, c1, c2, c3, c4]) ?_
          exact hEnd 52 ls locs dX4_isBeside_52 hS
        · skip
          refine lv_aload_n hx hb dX4_isBeside_34 rfl (lv_at hl 1 rfl) ?_
          refine lk_gf4 hx hb hX4 hown hK hP 3 o9 (show o9 < nw by omega) rfl 5 (by decide) f7 rfl dX4_isBeside_35 ?_
          refine lv_aload_n hx hb dX4_isBeside_38 rfl (lv_at hl 0 rfl) ?_
          refine lk_gf4 hx hb hX4 hown hK hP 3 w (show w < nw by omega) rfl 5 (by decide) f7 rfl dX4_isBeside_39 ?_
          refine lv_isub hx hb dX4_isBeside_42 ?_
          refine lv_iconst (v := nI 2) hx hb dX4_isBeside_43 rfl ?_
          refine lv_icmp_ge (tgt := 51) hx hb dX4_isBeside_44 (by decide) (fun c5 => ?_) (fun c5 => ?_)
          · skip
            refine lv_iconst (v := nI 0) hx hb dX4_isBeside_51 rfl ?_
            refine li_topi (show nI 0 = zI (nbr σ w o9) from by rw [lt2_n] at c4; rw [lt2_n] at c5; simp [nbr, zI, c1, c2, c3, c4, c5]) ?_
            exact hEnd 52 ls locs dX4_isBeside_52 hS
          · skip
            refine lv_iconst (v := nI 1) hx hb dX4_isBeside_47 rfl ?_
            refine lv_goto (tgt := 52) hx hb dX4_isBeside_48 (by decide) ?_
            refine li_topi (show nI 1 = zI (nbr σ w o9) from by rw [lt2_n] at c4; rw [lt2_n] at c5; simp [nbr, zI, c1, c2, c3, c4, c5]) ?_
            exact hEnd 52 ls locs dX4_isBeside_52 hS
set_option maxHeartbeats 4000000 in
set_option maxRecDepth 100000 in
theorem c_X3_places (l : Launch) (D : va_G) (cI cZ cW cO : ClassId) (X : Nat → va_E) (a : Ka) (n nw ns : Nat) (σ η : Sg) (T : Ke) (H : Heap) (A : Nat → Prop) (hO : kO A (MS n nw) a) (hB : n ≤ 10 ∧ nw ≤ 20 ∧ ns ≤ 6) : Met l yX3_places wsX3_places ({ frames := 0, cells := 0, slots := 0, locals := 0 } : Room) (ro_P D (T4 cI cZ cW cO) (wK (MS n nw) a (eL cI cZ cW cO X a n nw ns σ η T)) H [.ref (a 1 0)]) (ro_Q (plS σ n) H) 0 0 (fun _ => False) := by
  refine ro_of (cc := cX3_places) (maxL := 6) (by decide) rfl (Nat.le_of_ble_eq_true rfl) rfl ?_
  intro p e s m args below meth c Q ls locs hx hb hml hown hts hK hE hP hl hS hEnd
  have hP : kP D (MS n nw) a (eL cI cZ cW cO X a n nw ns σ η T) H := kP.of hP
  have hl : lv_has ls 6 [(0, .ref (a 1 0))] := hl
  have hX3 : ∀ w ∈ wsX30, w.before args s = true := fun w h => hts w (List.mem_cons_of_mem _ (List.mem_append_right _ (h)))
  have f9 : (Cond.fieldLink RX3 9 "LanternWalkLaw$Sim" "route" "[[I").before args s = true := hts _ (List.mem_of_getElem? (i := 1) rfl)
  refine lv_iconst (v := nI 0) hx hb dX3_places_0 rfl ?_
  refine lv_istore_n (lv' := [(1, .int (nI 0)), (0, .ref (a 1 0))]) hx hb dX3_places_1 rfl hl (by decide) rfl (fun ls hl => ?_)
  refine lv_aload_n hx hb dX3_places_2 rfl (lv_at hl 1 rfl) ?_
  refine lk_gf3 hx hb hX3 hown hK hP 1 0 (show 0 < 10 by decide) rfl 0 (by decide) f9 rfl dX3_places_3 ?_
  refine lv_astore_n (lv' := [(2, .ref (a 1 1)), (1, .int (nI 0)), (0, .ref (a 1 0))]) hx hb dX3_places_6 rfl hl (by decide) rfl (fun ls hl => ?_)
  refine lv_aload_n hx hb dX3_places_7 rfl (lv_at hl 0 rfl) ?_
  refine lk_alen hx hb hK hP 1 1 (show 1 < 10 by decide) 3 rfl rfl dX3_places_8 ?_
  refine lv_istore_n (lv' := [(3, .int (nI n)), (2, .ref (a 1 1)), (1, .int (nI 0)), (0, .ref (a 1 0))]) hx hb dX3_places_9 rfl hl (by decide) rfl (fun ls hl => ?_)
  refine lv_iconst (v := nI 0) hx hb dX3_places_10 rfl ?_
  refine lv_istore (lv' := [(4, .int (nI 0)), (3, .int (nI n)), (2, .ref (a 1 1)), (1, .int (nI 0)), (0, .ref (a 1 0))]) hx hb dX3_places_11 hl (by decide) rfl (fun ls hl => ?_)
  have L13_1 : ∀ (fuel : Nat) (k : Nat), (n - k) < fuel → (k ≤ n) → ∀ (locs : List Loc), va_S (fun _ => False) H H locs → ∀ (ls : Array Slot), lv_has ls 6 [(4, .int (nI k)), (3, .int (nI n)), (2, .ref (a 1 1)), (1, .int (plS σ k)), (0, .ref (a 1 0))] → W p l e ({ frames := 0, cells := 0, slots := 0, locals := 0 } : Room) s m args below meth c H locs 0 0 Q (F0 m 13 ls []) := by
    intro fuel
    induction fuel with
    | zero =>
      intro k hfuel
      exact absurd hfuel (Nat.not_lt_zero _)
    | succ fuel ih13 =>
      intro k hfuel13 hk locs hS ls hl
      refine lv_iload hx hb dX3_places_13 (lv_at hl 0 rfl) ?_
      refine lv_iload_n hx hb dX3_places_15 rfl (lv_at hl 1 rfl) ?_
      refine li_ge (tgt := 38) hx hb dX3_places_16 (by decide) (by omega) (by omega) (fun c2 => ?_) (fun c2 => ?_)
      · skip
        refine lv_iload_n hx hb dX3_places_38 rfl (lv_at hl 3 rfl) ?_
        refine li_topi (show plS σ k = plS σ n from by rw [show k = n by omega]) ?_
        exact hEnd 39 ls locs dX3_places_39 hS
      · skip
        refine lv_aload_n hx hb dX3_places_19 rfl (lv_at hl 2 rfl) ?_
        refine lv_iload hx hb dX3_places_20 (lv_at hl 0 rfl) ?_
        refine lk_aldO hx hb hK hP 1 1 (show 1 < 10 by decide) rfl (by omega) (by omega) (rfs_at (by omega)) dX3_places_22 ?_
        refine lv_astore (lv' := [(5, .ref (a 2 k)), (4, .int (nI k)), (3, .int (nI n)), (2, .ref (a 1 1)), (1, .int (plS σ k)), (0, .ref (a 1 0))]) hx hb dX3_places_23 hl (by decide) rfl (fun ls hl => ?_)
        refine lv_iload_n hx hb dX3_places_25 rfl (lv_at hl 4 rfl) ?_
        refine lv_aload hx hb dX3_places_26 (lv_at hl 0 rfl) ?_
        refine lv_iconst (v := nI 0) hx hb dX3_places_28 rfl ?_
        refine lk_ild hx hb hK hP 2 k (show k < n by omega) rfl (by omega) (by decide) dX3_places_29 ?_
        refine li_topi (x' := σ 0 k) rfl ?_
        refine lv_iadd hx hb dX3_places_30 ?_
        refine lv_istore_n (lv' := [(1, .int ((plS σ k) + (σ 0 k))), (5, .ref (a 2 k)), (4, .int (nI k)), (3, .int (nI n)), (2, .ref (a 1 1)), (0, .ref (a 1 0))]) hx hb dX3_places_31 rfl hl (by decide) rfl (fun ls hl => ?_)
        refine lv_iinc (v := nI (k + 1)) (lv' := [(4, .int (nI (k + 1))), (1, .int ((plS σ k) + (σ 0 k))), (5, .ref (a 2 k)), (3, .int (nI n)), (2, .ref (a 1 1)), (0, .ref (a 1 0))]) hx hb dX3_places_32 hl (k := 2) rfl (nI_inc _ _) (by decide) rfl (fun ls hl => ?_)
        refine lv_goto (tgt := 13) hx hb dX3_places_35 (by decide) ?_
        have hl9 : lv_has ls 6 [(4, .int (nI (k + 1))), (3, .int (nI n)), (2, .ref (a 1 1)), (1, .int ((plS σ k) + (σ 0 k))), (0, .ref (a 1 0))] := lv_sub hl [0, 3, 4, 1, 5] rfl
        have hl9 : lv_has ls 6 [(4, .int (nI (k + 1))), (3, .int (nI n)), (2, .ref (a 1 1)), (1, .int (plS σ (k + 1))), (0, .ref (a 1 0))] := lv_re hl9 3 rfl (show (plS σ k) + (σ 0 k) = plS σ (k + 1) from rfl)
        exact ih13 (k + 1) (by omega) (by omega) locs hS ls hl9
  have hl9 : lv_has ls 6 [(4, .int (nI 0)), (3, .int (nI n)), (2, .ref (a 1 1)), (1, .int (nI 0)), (0, .ref (a 1 0))] := lv_sub hl [0, 1, 2, 3, 4] rfl
  have hl9 : lv_has ls 6 [(4, .int (nI 0)), (3, .int (nI n)), (2, .ref (a 1 1)), (1, .int (plS σ 0)), (0, .ref (a 1 0))] := lv_re hl9 3 rfl (show nI 0 = plS σ 0 from rfl)
  exact L13_1 ((n - 0) + 1) 0 (Nat.lt_succ_self _) (by omega) locs hS ls hl9
set_option maxHeartbeats 4000000 in
set_option maxRecDepth 100000 in
theorem c_X3_lets (l : Launch) (D : va_G) (cI cZ cW cO : ClassId) (X : Nat → va_E) (a : Ka) (n nw ns : Nat) (σ η : Sg) (T : Ke) (H : Heap) (sx : Nat) (A : Nat → Prop) (hO : kO A (MS n nw) a) (hB : n ≤ 10 ∧ nw ≤ 20 ∧ ns ≤ 6) (hsx : sx < n) : Met l yX3_lets wsX3_lets ({ frames := 0, cells := 0, slots := 0, locals := 0 } : Room) (ro_P D (T4 cI cZ cW cO) (wK (MS n nw) a (eL cI cZ cW cO X a n nw ns σ η T)) H [.ref (a 1 0), .int (nI sx)]) (ro_Q (lt_ σ sx 2) H) 0 0 (fun _ => False) := by
  refine ro_of (cc := cX3_lets) (maxL := 7) (by decide) rfl (Nat.le_of_ble_eq_true rfl) rfl ?_
  intro p e s m args below meth c Q ls locs hx hb hml hown hts hK hE hP hl hS hEnd
  have hP : kP D (MS n nw) a (eL cI cZ cW cO X a n nw ns σ η T) H := kP.of hP
  have hl : lv_has ls 7 [(0, .ref (a 1 0)), (1, .int (nI sx))] := hl
  have hX3 : ∀ w ∈ wsX30, w.before args s = true := fun w h => hts w (List.mem_cons_of_mem _ (List.mem_append_right _ (h)))
  have f9 : (Cond.fieldLink RX3 9 "LanternWalkLaw$Sim" "route" "[[I").before args s = true := hts _ (List.mem_of_getElem? (i := 1) rfl)
  have f15 : (Cond.fieldLink RX3 15 "LanternWalkLaw$Sim" "stewards" "[I").before args s = true := hts _ (List.mem_of_getElem? (i := 2) rfl)
  refine lv_aload_n hx hb dX3_lets_0 rfl (lv_at hl 0 rfl) ?_
  refine lk_gf3 hx hb hX3 hown hK hP 1 0 (show 0 < 10 by decide) rfl 0 (by decide) f9 rfl dX3_lets_1 ?_
  refine lv_iload_n hx hb dX3_lets_4 rfl (lv_at hl 1 rfl) ?_
  refine lk_aldO hx hb hK hP 1 1 (show 1 < 10 by decide) rfl (by omega) (by omega) (rfs_at (by omega)) dX3_lets_5 ?_
  refine lv_iconst (v := nI 1) hx hb dX3_lets_6 rfl ?_
  refine lk_ild hx hb hK hP 2 sx (show sx < n by omega) rfl (by omega) (by decide) dX3_lets_7 ?_
  refine li_topi (x' := σ 1 sx) rfl ?_
  refine lv_istore_n (lv' := [(2, .int (σ 1 sx)), (0, .ref (a 1 0)), (1, .int (nI sx))]) hx hb dX3_lets_8 rfl hl (by decide) rfl (fun ls hl => ?_)
  refine lv_aload_n hx hb dX3_lets_9 rfl (lv_at hl 1 rfl) ?_
  refine lk_gf3 hx hb hX3 hown hK hP 1 0 (show 0 < 10 by decide) rfl 1 (by decide) f15 rfl dX3_lets_10 ?_
  refine lv_astore_n (lv' := [(3, .ref (a 1 2)), (2, .int (σ 1 sx)), (0, .ref (a 1 0)), (1, .int (nI sx))]) hx hb dX3_lets_13 rfl hl (by decide) rfl (fun ls hl => ?_)
  refine lv_aload_n hx hb dX3_lets_14 rfl (lv_at hl 0 rfl) ?_
  refine lk_alen hx hb hK hP 1 2 (show 2 < 10 by decide) 0 rfl rfl dX3_lets_15 ?_
  refine lv_istore (lv' := [(4, .int (nI 2)), (3, .ref (a 1 2)), (2, .int (σ 1 sx)), (0, .ref (a 1 0)), (1, .int (nI sx))]) hx hb dX3_lets_16 hl (by decide) rfl (fun ls hl => ?_)
  refine lv_iconst (v := nI 0) hx hb dX3_lets_18 rfl ?_
  refine lv_istore (lv' := [(5, .int (nI 0)), (4, .int (nI 2)), (3, .ref (a 1 2)), (2, .int (σ 1 sx)), (0, .ref (a 1 0)), (1, .int (nI sx))]) hx hb dX3_lets_19 hl (by decide) rfl (fun ls hl => ?_)
  have L21_1 : ∀ (fuel : Nat) (k : Nat), (2 - k) < fuel → (k ≤ 2) → ∀ (locs : List Loc), va_S (fun _ => False) H H locs → ∀ (ls : Array Slot), lv_has ls 7 [(5, .int (nI k)), (4, .int (nI 2)), (3, .ref (a 1 2)), (2, .int (lt_ σ sx k)), (0, .ref (a 1 0)), (1, .int (nI sx))] → W p l e ({ frames := 0, cells := 0, slots := 0, locals := 0 } : Room) s m args below meth c H locs 0 0 Q (F0 m 21 ls []) := by
    intro fuel
    induction fuel with
    | zero =>
      intro k hfuel
      exact absurd hfuel (Nat.not_lt_zero _)
    | succ fuel ih21 =>
      intro k hfuel21 hk locs hS ls hl
      refine lv_iload hx hb dX3_lets_21 (lv_at hl 0 rfl) ?_
      refine lv_iload hx hb dX3_lets_23 (lv_at hl 1 rfl) ?_
      refine li_ge (tgt := 49) hx hb dX3_lets_25 (by decide) (by omega) (by omega) (fun c2 => ?_) (fun c2 => ?_)
      · skip
        refine lv_iload_n hx hb dX3_lets_49 rfl (lv_at hl 3 rfl) ?_
        refine li_topi (show lt_ σ sx k = lt_ σ sx 2 from by rw [show k = 2 by omega]) ?_
        exact hEnd 50 ls locs dX3_lets_50 hS
      · skip
        refine lv_aload_n hx hb dX3_lets_28 rfl (lv_at hl 2 rfl) ?_
        refine lv_iload hx hb dX3_lets_29 (lv_at hl 0 rfl) ?_
        refine lk_ild hx hb hK hP 1 2 (show 2 < 10 by decide) rfl (by omega) (by decide) dX3_lets_31 ?_
        refine lv_istore (lv' := [(6, .int (σ 7 k)), (5, .int (nI k)), (4, .int (nI 2)), (3, .ref (a 1 2)), (2, .int (lt_ σ sx k)), (0, .ref (a 1 0)), (1, .int (nI sx))]) hx hb dX3_lets_32 hl (by decide) rfl (fun ls hl => ?_)
        refine lv_iload hx hb dX3_lets_34 (lv_at hl 0 rfl) ?_
        refine lv_iload_n hx hb dX3_lets_36 rfl (lv_at hl 6 rfl) ?_
        refine lv_icmp_ne (tgt := 43) hx hb dX3_lets_37 (by decide) (fun c3 => ?_) (fun c3 => ?_)
        · skip
          refine lv_iinc (v := nI (k + 1)) (lv' := [(5, .int (nI (k + 1))), (6, .int (σ 7 k)), (4, .int (nI 2)), (3, .ref (a 1 2)), (2, .int (lt_ σ sx k)), (0, .ref (a 1 0)), (1, .int (nI sx))]) hx hb dX3_lets_43 hl (k := 1) rfl (nI_inc _ _) (by decide) rfl (fun ls hl => ?_)
          refine lv_goto (tgt := 21) hx hb dX3_lets_46 (by decide) ?_
          have hl9 : lv_has ls 7 [(5, .int (nI (k + 1))), (4, .int (nI 2)), (3, .ref (a 1 2)), (2, .int (lt_ σ sx k)), (0, .ref (a 1 0)), (1, .int (nI sx))] := lv_sub hl [0, 2, 3, 4, 5, 6] rfl
          have hl9 : lv_has ls 7 [(5, .int (nI (k + 1))), (4, .int (nI 2)), (3, .ref (a 1 2)), (2, .int (lt_ σ sx (k + 1))), (0, .ref (a 1 0)), (1, .int (nI sx))] := lv_re hl9 3 rfl (show lt_ σ sx k = lt_ σ sx (k + 1) from by simp [lt_, c2, c3])
          exact ih21 (k + 1) (by omega) (by omega) locs hS ls hl9
        · skip
          refine lv_iinc (v := (lt_ σ sx k) + 1) (lv' := [(2, .int ((lt_ σ sx k) + 1)), (6, .int (σ 7 k)), (5, .int (nI k)), (4, .int (nI 2)), (3, .ref (a 1 2)), (0, .ref (a 1 0)), (1, .int (nI sx))]) hx hb dX3_lets_40 hl (k := 4) rfl (rfl) (by decide) rfl (fun ls hl => ?_)
          refine lv_iinc (v := nI (k + 1)) (lv' := [(5, .int (nI (k + 1))), (2, .int ((lt_ σ sx k) + 1)), (6, .int (σ 7 k)), (4, .int (nI 2)), (3, .ref (a 1 2)), (0, .ref (a 1 0)), (1, .int (nI sx))]) hx hb dX3_lets_43 hl (k := 2) rfl (nI_inc _ _) (by decide) rfl (fun ls hl => ?_)
          refine lv_goto (tgt := 21) hx hb dX3_lets_46 (by decide) ?_
          have hl9 : lv_has ls 7 [(5, .int (nI (k + 1))), (4, .int (nI 2)), (3, .ref (a 1 2)), (2, .int ((lt_ σ sx k) + 1)), (0, .ref (a 1 0)), (1, .int (nI sx))] := lv_sub hl [0, 3, 4, 1, 5, 6] rfl
          have hl9 : lv_has ls 7 [(5, .int (nI (k + 1))), (4, .int (nI 2)), (3, .ref (a 1 2)), (2, .int (lt_ σ sx (k + 1))), (0, .ref (a 1 0)), (1, .int (nI sx))] := lv_re hl9 3 rfl (show (lt_ σ sx k) + 1 = lt_ σ sx (k + 1) from by simp [lt_, c2, c3])
          exact ih21 (k + 1) (by omega) (by omega) locs hS ls hl9
  have hl9 : lv_has ls 7 [(5, .int (nI 0)), (4, .int (nI 2)), (3, .ref (a 1 2)), (2, .int (σ 1 sx)), (0, .ref (a 1 0)), (1, .int (nI sx))] := lv_sub hl [0, 1, 2, 3, 4, 5] rfl
  have hl9 : lv_has ls 7 [(5, .int (nI 0)), (4, .int (nI 2)), (3, .ref (a 1 2)), (2, .int (lt_ σ sx 0)), (0, .ref (a 1 0)), (1, .int (nI sx))] := lv_re hl9 3 rfl (show σ 1 sx = lt_ σ sx 0 from rfl)
  exact L21_1 ((2 - 0) + 1) 0 (Nat.lt_succ_self _) (by omega) locs hS ls hl9
set_option maxHeartbeats 4000000 in
set_option maxRecDepth 100000 in
theorem c_X3_beside (l : Launch) (D : va_G) (cI cZ cW cO : ClassId) (X : Nat → va_E) (a : Ka) (n nw ns : Nat) (σ η : Sg) (T : Ke) (H : Heap) (w : Nat) (A : Nat → Prop) (hO : kO A (MS n nw) a) (hB : n ≤ 10 ∧ nw ≤ 20 ∧ ns ≤ 6) (hw : w < nw) : Met l yX3_beside wsX3_beside ({ frames := 1, cells := 0, slots := 0, locals := 21 } : Room) (ro_P D (T4 cI cZ cW cO) (wK (MS n nw) a (eL cI cZ cW cO X a n nw ns σ η T)) H [.ref (a 1 0), .ref (a 3 w)]) (ro_Q (nI (nb σ nw w)) H) 0 0 (fun _ => False) := by
  refine ro_of (cc := cX3_beside) (maxL := 7) (by decide) rfl (Nat.le_of_ble_eq_true rfl) rfl ?_
  intro p e s m args below meth c Q ls locs hx hb hml hown hts hK hE hP hl hS hEnd
  have hP : kP D (MS n nw) a (eL cI cZ cW cO X a n nw ns σ η T) H := kP.of hP
  have hl : lv_has ls 7 [(0, .ref (a 1 0)), (1, .ref (a 3 w))] := hl
  have hX3 : ∀ w ∈ wsX30, w.before args s = true := fun w h => hts w (List.mem_cons_of_mem _ (List.mem_append_left _ (List.mem_append_right _ (h))))
  have f23 : (Cond.fieldLink RX3 23 "LanternWalkLaw$Sim" "walkers" "[LLanternWalkLaw$Walker;").before args s = true := hts _ (List.mem_of_getElem? (i := 1) rfl)
  refine lv_iconst (v := nI 0) hx hb dX3_beside_0 rfl ?_
  refine lv_istore_n (lv' := [(2, .int (nI 0)), (0, .ref (a 1 0)), (1, .ref (a 3 w))]) hx hb dX3_beside_1 rfl hl (by decide) rfl (fun ls hl => ?_)
  refine lv_aload_n hx hb dX3_beside_2 rfl (lv_at hl 1 rfl) ?_
  refine lk_gf3 hx hb hX3 hown hK hP 1 0 (show 0 < 10 by decide) rfl 3 (by decide) f23 rfl dX3_beside_3 ?_
  refine lv_astore_n (lv' := [(3, .ref (a 1 4)), (2, .int (nI 0)), (0, .ref (a 1 0)), (1, .ref (a 3 w))]) hx hb dX3_beside_6 rfl hl (by decide) rfl (fun ls hl => ?_)
  refine lv_aload_n hx hb dX3_beside_7 rfl (lv_at hl 0 rfl) ?_
  refine lk_alen hx hb hK hP 1 4 (show 4 < 10 by decide) 2 rfl rfl dX3_beside_8 ?_
  refine lv_istore (lv' := [(4, .int (nI nw)), (3, .ref (a 1 4)), (2, .int (nI 0)), (0, .ref (a 1 0)), (1, .ref (a 3 w))]) hx hb dX3_beside_9 hl (by decide) rfl (fun ls hl => ?_)
  refine lv_iconst (v := nI 0) hx hb dX3_beside_11 rfl ?_
  refine lv_istore (lv' := [(5, .int (nI 0)), (4, .int (nI nw)), (3, .ref (a 1 4)), (2, .int (nI 0)), (0, .ref (a 1 0)), (1, .ref (a 3 w))]) hx hb dX3_beside_12 hl (by decide) rfl (fun ls hl => ?_)
  have L14_1 : ∀ (fuel : Nat) (k : Nat), (nw - k) < fuel → (k ≤ nw) → ∀ (locs : List Loc), va_S (fun _ => False) H H locs → ∀ (ls : Array Slot), lv_has ls 7 [(5, .int (nI k)), (4, .int (nI nw)), (3, .ref (a 1 4)), (2, .int (nI (cnt (nbr σ w) k))), (0, .ref (a 1 0)), (1, .ref (a 3 w))] → W p l e ({ frames := 1, cells := 0, slots := 0, locals := 21 } : Room) s m args below meth c H locs 0 0 Q (F0 m 14 ls []) := by
    intro fuel
    induction fuel with
    | zero =>
      intro k hfuel
      exact absurd hfuel (Nat.not_lt_zero _)
    | succ fuel ih14 =>
      intro k hfuel14 hk locs hS ls hl
      refine lv_iload hx hb dX3_beside_14 (lv_at hl 0 rfl) ?_
      refine lv_iload hx hb dX3_beside_16 (lv_at hl 1 rfl) ?_
      refine li_ge (tgt := 50) hx hb dX3_beside_18 (by decide) (by omega) (by omega) (fun c2 => ?_) (fun c2 => ?_)
      · skip
        refine lv_iload_n hx hb dX3_beside_50 rfl (lv_at hl 3 rfl) ?_
        refine li_topi (show nI (cnt (nbr σ w) k) = nI (nb σ nw w) from by rw [show k = nw by omega]; rfl) ?_
        exact hEnd 51 ls locs dX3_beside_51 hS
      · skip
        refine lv_aload_n hx hb dX3_beside_21 rfl (lv_at hl 2 rfl) ?_
        refine lv_iload hx hb dX3_beside_22 (lv_at hl 0 rfl) ?_
        refine lk_aldW hx hb hK hP 1 4 (show 4 < 10 by decide) rfl (by omega) (by omega) (rfs_at (by omega)) dX3_beside_24 ?_
        refine lv_astore (lv' := [(6, .ref (a 3 k)), (5, .int (nI k)), (4, .int (nI nw)), (3, .ref (a 1 4)), (2, .int (nI (cnt (nbr σ w) k))), (0, .ref (a 1 0)), (1, .ref (a 3 w))]) hx hb dX3_beside_25 hl (by decide) rfl (fun ls hl => ?_)
        refine lv_iload_n hx hb dX3_beside_27 rfl (lv_at hl 4 rfl) ?_
        refine lv_aload_n hx hb dX3_beside_28 rfl (lv_at hl 6 rfl) ?_
        refine lv_aload hx hb dX3_beside_29 (lv_at hl 0 rfl) ?_
        obtain ⟨q9, hq9, -⟩ := wK_at (M := MS n nw) (a := a) (e := eL cI cZ cW cO X a n nw ns σ η T) (c := 3) (i := w) (show w < nw by omega)
        refine roV (As := [.ref (a 3 k)]) (q0 := q9) (ci := 4) hx hb hml hown hts (c_X4_isBeside l D cI cZ cW cO X a n nw ns σ η T H w k A hO hB (by omega) (by omega)) (cwV 1 hts gX3_beside_X4_isBeside rfl rfl rfl (by decide +kernel) ⟨by decide, by decide⟩) hK hE hP.w rfl rfl hq9 rfl hl.1 rfl (Nat.le_of_ble_eq_true rfl) hS dX3_beside_31 ⟨Nat.zero_le _, Nat.zero_le _⟩ (fun locs hS => ?_)
        refine li_zeq (tgt := 41) hx hb dX3_beside_34 (by decide) (fun c3 => ?_) (fun c3 => ?_)
        · skip
          refine lv_iconst (v := nI 0) hx hb dX3_beside_41 rfl ?_
          refine lv_iadd hx hb dX3_beside_42 ?_
          refine li_topi (nI_add _ _) ?_
          refine lv_istore_n (lv' := [(2, .int (nI ((cnt (nbr σ w) k) + 0))), (6, .ref (a 3 k)), (5, .int (nI k)), (4, .int (nI nw)), (3, .ref (a 1 4)), (0, .ref (a 1 0)), (1, .ref (a 3 w))]) hx hb dX3_beside_43 rfl hl (by decide) rfl (fun ls hl => ?_)
          refine lv_iinc (v := nI (k + 1)) (lv' := [(5, .int (nI (k + 1))), (2, .int (nI ((cnt (nbr σ w) k) + 0))), (6, .ref (a 3 k)), (4, .int (nI nw)), (3, .ref (a 1 4)), (0, .ref (a 1 0)), (1, .ref (a 3 w))]) hx hb dX3_beside_44 hl (k := 2) rfl (nI_inc _ _) (by decide) rfl (fun ls hl => ?_)
          refine lv_goto (tgt := 14) hx hb dX3_beside_47 (by decide) ?_
          have hl9 : lv_has ls 7 [(5, .int (nI (k + 1))), (4, .int (nI nw)), (3, .ref (a 1 4)), (2, .int (nI ((cnt (nbr σ w) k) + 0))), (0, .ref (a 1 0)), (1, .ref (a 3 w))] := lv_sub hl [0, 3, 4, 1, 5, 6] rfl
          have hl9 : lv_has ls 7 [(5, .int (nI (k + 1))), (4, .int (nI nw)), (3, .ref (a 1 4)), (2, .int (nI (cnt (nbr σ w) (k + 1)))), (0, .ref (a 1 0)), (1, .ref (a 3 w))] := lv_re hl9 3 rfl (show nI ((cnt (nbr σ w) k) + 0) = nI (cnt (nbr σ w) (k + 1)) from by first | exact cnt_t (by simp [c2, c3]) | exact cnt_f (by simp [c2, c3]))
          exact ih14 (k + 1) (by omega) (by omega) locs hS ls hl9
        · skip
          refine lv_iconst (v := nI 1) hx hb dX3_beside_37 rfl ?_
          refine lv_goto (tgt := 42) hx hb dX3_beside_38 (by decide) ?_
          refine lv_iadd hx hb dX3_beside_42 ?_
          refine li_topi (nI_add _ _) ?_
          refine lv_istore_n (lv' := [(2, .int (nI ((cnt (nbr σ w) k) + 1))), (6, .ref (a 3 k)), (5, .int (nI k)), (4, .int (nI nw)), (3, .ref (a 1 4)), (0, .ref (a 1 0)), (1, .ref (a 3 w))]) hx hb dX3_beside_43 rfl hl (by decide) rfl (fun ls hl => ?_)
          refine lv_iinc (v := nI (k + 1)) (lv' := [(5, .int (nI (k + 1))), (2, .int (nI ((cnt (nbr σ w) k) + 1))), (6, .ref (a 3 k)), (4, .int (nI nw)), (3, .ref (a 1 4)), (0, .ref (a 1 0)), (1, .ref (a 3 w))]) hx hb dX3_beside_44 hl (k := 2) rfl (nI_inc _ _) (by decide) rfl (fun ls hl => ?_)
          refine lv_goto (tgt := 14) hx hb dX3_beside_47 (by decide) ?_
          have hl9 : lv_has ls 7 [(5, .int (nI (k + 1))), (4, .int (nI nw)), (3, .ref (a 1 4)), (2, .int (nI ((cnt (nbr σ w) k) + 1))), (0, .ref (a 1 0)), (1, .ref (a 3 w))] := lv_sub hl [0, 3, 4, 1, 5, 6] rfl
          have hl9 : lv_has ls 7 [(5, .int (nI (k + 1))), (4, .int (nI nw)), (3, .ref (a 1 4)), (2, .int (nI (cnt (nbr σ w) (k + 1)))), (0, .ref (a 1 0)), (1, .ref (a 3 w))] := lv_re hl9 3 rfl (show nI ((cnt (nbr σ w) k) + 1) = nI (cnt (nbr σ w) (k + 1)) from by first | exact cnt_t (by simp [c2, c3]) | exact cnt_f (by simp [c2, c3]))
          exact ih14 (k + 1) (by omega) (by omega) locs hS ls hl9
  have hl9 : lv_has ls 7 [(5, .int (nI 0)), (4, .int (nI nw)), (3, .ref (a 1 4)), (2, .int (nI 0)), (0, .ref (a 1 0)), (1, .ref (a 3 w))] := lv_sub hl [0, 1, 2, 3, 4, 5] rfl
  have hl9 : lv_has ls 7 [(5, .int (nI 0)), (4, .int (nI nw)), (3, .ref (a 1 4)), (2, .int (nI (cnt (nbr σ w) 0))), (0, .ref (a 1 0)), (1, .ref (a 3 w))] := lv_re hl9 3 rfl (show nI 0 = nI (cnt (nbr σ w) 0) from rfl)
  exact L14_1 ((nw - 0) + 1) 0 (Nat.lt_succ_self _) (by omega) locs hS ls hl9
set_option maxHeartbeats 4000000 in
set_option maxRecDepth 100000 in
theorem c_X3_on (l : Launch) (D : va_G) (cI cZ cW cO : ClassId) (X : Nat → va_E) (a : Ka) (n nw ns : Nat) (σ η : Sg) (T : Ke) (H : Heap) (z : Int32) (A : Nat → Prop) (hO : kO A (MS n nw) a) (hB : n ≤ 10 ∧ nw ≤ 20 ∧ ns ≤ 6) : Met l yX3_on wsX3_on ({ frames := 0, cells := 0, slots := 0, locals := 0 } : Room) (ro_P D (T4 cI cZ cW cO) (wK (MS n nw) a (eL cI cZ cW cO X a n nw ns σ η T)) H [.ref (a 1 0), .int z]) (ro_Q (nI (wa σ nw z)) H) 0 0 (fun _ => False) := by
  refine ro_of (cc := cX3_on) (maxL := 7) (by decide) rfl (Nat.le_of_ble_eq_true rfl) rfl ?_
  intro p e s m args below meth c Q ls locs hx hb hml hown hts hK hE hP hl hS hEnd
  have hP : kP D (MS n nw) a (eL cI cZ cW cO X a n nw ns σ η T) H := kP.of hP
  have hl : lv_has ls 7 [(0, .ref (a 1 0)), (1, .int z)] := hl
  have hX3 : ∀ w ∈ wsX30, w.before args s = true := fun w h => hts w (List.mem_cons_of_mem _ (List.mem_append_left _ (List.mem_append_right _ (h))))
  have hX4 : ∀ w ∈ wsX40, w.before args s = true := fun w h => hts w (List.mem_cons_of_mem _ (List.mem_append_right _ (h)))
  have f23 : (Cond.fieldLink RX3 23 "LanternWalkLaw$Sim" "walkers" "[LLanternWalkLaw$Walker;").before args s = true := hts _ (List.mem_of_getElem? (i := 1) rfl)
  have f74 : (Cond.fieldLink RX3 74 "LanternWalkLaw$Walker" "state" "I").before args s = true := hts _ (List.mem_of_getElem? (i := 2) rfl)
  have f77 : (Cond.fieldLink RX3 77 "LanternWalkLaw$Walker" "place" "I").before args s = true := hts _ (List.mem_of_getElem? (i := 3) rfl)
  refine lv_iconst (v := nI 0) hx hb dX3_on_0 rfl ?_
  refine lv_istore_n (lv' := [(2, .int (nI 0)), (0, .ref (a 1 0)), (1, .int z)]) hx hb dX3_on_1 rfl hl (by decide) rfl (fun ls hl => ?_)
  refine lv_aload_n hx hb dX3_on_2 rfl (lv_at hl 1 rfl) ?_
  refine lk_gf3 hx hb hX3 hown hK hP 1 0 (show 0 < 10 by decide) rfl 3 (by decide) f23 rfl dX3_on_3 ?_
  refine lv_astore_n (lv' := [(3, .ref (a 1 4)), (2, .int (nI 0)), (0, .ref (a 1 0)), (1, .int z)]) hx hb dX3_on_6 rfl hl (by decide) rfl (fun ls hl => ?_)
  refine lv_aload_n hx hb dX3_on_7 rfl (lv_at hl 0 rfl) ?_
  refine lk_alen hx hb hK hP 1 4 (show 4 < 10 by decide) 2 rfl rfl dX3_on_8 ?_
  refine lv_istore (lv' := [(4, .int (nI nw)), (3, .ref (a 1 4)), (2, .int (nI 0)), (0, .ref (a 1 0)), (1, .int z)]) hx hb dX3_on_9 hl (by decide) rfl (fun ls hl => ?_)
  refine lv_iconst (v := nI 0) hx hb dX3_on_11 rfl ?_
  refine lv_istore (lv' := [(5, .int (nI 0)), (4, .int (nI nw)), (3, .ref (a 1 4)), (2, .int (nI 0)), (0, .ref (a 1 0)), (1, .int z)]) hx hb dX3_on_12 hl (by decide) rfl (fun ls hl => ?_)
  have L14_1 : ∀ (fuel : Nat) (k : Nat), (nw - k) < fuel → (k ≤ nw) → ∀ (locs : List Loc), va_S (fun _ => False) H H locs → ∀ (ls : Array Slot), lv_has ls 7 [(5, .int (nI k)), (4, .int (nI nw)), (3, .ref (a 1 4)), (2, .int (nI (cnt (waS σ z) k))), (0, .ref (a 1 0)), (1, .int z)] → W p l e ({ frames := 0, cells := 0, slots := 0, locals := 0 } : Room) s m args below meth c H locs 0 0 Q (F0 m 14 ls []) := by
    intro fuel
    induction fuel with
    | zero =>
      intro k hfuel
      exact absurd hfuel (Nat.not_lt_zero _)
    | succ fuel ih14 =>
      intro k hfuel14 hk locs hS ls hl
      refine lv_iload hx hb dX3_on_14 (lv_at hl 0 rfl) ?_
      refine lv_iload hx hb dX3_on_16 (lv_at hl 1 rfl) ?_
      refine li_ge (tgt := 59) hx hb dX3_on_18 (by decide) (by omega) (by omega) (fun c2 => ?_) (fun c2 => ?_)
      · skip
        refine lv_iload_n hx hb dX3_on_59 rfl (lv_at hl 3 rfl) ?_
        refine li_topi (show nI (cnt (waS σ z) k) = nI (wa σ nw z) from by rw [show k = nw by omega]; rfl) ?_
        exact hEnd 60 ls locs dX3_on_60 hS
      · skip
        refine lv_aload_n hx hb dX3_on_21 rfl (lv_at hl 2 rfl) ?_
        refine lv_iload hx hb dX3_on_22 (lv_at hl 0 rfl) ?_
        refine lk_aldW hx hb hK hP 1 4 (show 4 < 10 by decide) rfl (by omega) (by omega) (rfs_at (by omega)) dX3_on_24 ?_
        refine lv_astore (lv' := [(6, .ref (a 3 k)), (5, .int (nI k)), (4, .int (nI nw)), (3, .ref (a 1 4)), (2, .int (nI (cnt (waS σ z) k))), (0, .ref (a 1 0)), (1, .int z)]) hx hb dX3_on_25 hl (by decide) rfl (fun ls hl => ?_)
        refine lv_iload_n hx hb dX3_on_27 rfl (lv_at hl 4 rfl) ?_
        refine lv_aload hx hb dX3_on_28 (lv_at hl 0 rfl) ?_
        refine lk_gf4 hx hb hX4 hown hK hP 3 k (show k < nw by omega) rfl 4 (by decide) f74 rfl dX3_on_30 ?_
        refine lv_iconst (v := nI 1) hx hb dX3_on_33 rfl ?_
        refine lv_icmp_ne (tgt := 50) hx hb dX3_on_34 (by decide) (fun c3 => ?_) (fun c3 => ?_)
        · skip
          refine lv_iconst (v := nI 0) hx hb dX3_on_50 rfl ?_
          refine lv_iadd hx hb dX3_on_51 ?_
          refine li_topi (nI_add _ _) ?_
          refine lv_istore_n (lv' := [(2, .int (nI ((cnt (waS σ z) k) + 0))), (6, .ref (a 3 k)), (5, .int (nI k)), (4, .int (nI nw)), (3, .ref (a 1 4)), (0, .ref (a 1 0)), (1, .int z)]) hx hb dX3_on_52 rfl hl (by decide) rfl (fun ls hl => ?_)
          refine lv_iinc (v := nI (k + 1)) (lv' := [(5, .int (nI (k + 1))), (2, .int (nI ((cnt (waS σ z) k) + 0))), (6, .ref (a 3 k)), (4, .int (nI nw)), (3, .ref (a 1 4)), (0, .ref (a 1 0)), (1, .int z)]) hx hb dX3_on_53 hl (k := 2) rfl (nI_inc _ _) (by decide) rfl (fun ls hl => ?_)
          refine lv_goto (tgt := 14) hx hb dX3_on_56 (by decide) ?_
          have hl9 : lv_has ls 7 [(5, .int (nI (k + 1))), (4, .int (nI nw)), (3, .ref (a 1 4)), (2, .int (nI ((cnt (waS σ z) k) + 0))), (0, .ref (a 1 0)), (1, .int z)] := lv_sub hl [0, 3, 4, 1, 5, 6] rfl
          have hl9 : lv_has ls 7 [(5, .int (nI (k + 1))), (4, .int (nI nw)), (3, .ref (a 1 4)), (2, .int (nI (cnt (waS σ z) (k + 1)))), (0, .ref (a 1 0)), (1, .int z)] := lv_re hl9 3 rfl (show nI ((cnt (waS σ z) k) + 0) = nI (cnt (waS σ z) (k + 1)) from by first | exact cnt_t (by simp [waS, c2, c3]) | exact cnt_f (by simp [waS, c2, c3]))
          exact ih14 (k + 1) (by omega) (by omega) locs hS ls hl9
        · skip
          refine lv_aload hx hb dX3_on_37 (lv_at hl 0 rfl) ?_
          refine lk_gf4 hx hb hX4 hown hK hP 3 k (show k < nw by omega) rfl 5 (by decide) f77 rfl dX3_on_39 ?_
          refine lv_iload_n hx hb dX3_on_42 rfl (lv_at hl 6 rfl) ?_
          refine lv_icmp_ne (tgt := 50) hx hb dX3_on_43 (by decide) (fun c4 => ?_) (fun c4 => ?_)
          · skip
            refine lv_iconst (v := nI 0) hx hb dX3_on_50 rfl ?_
            refine lv_iadd hx hb dX3_on_51 ?_
            refine li_topi (nI_add _ _) ?_
            refine lv_istore_n (lv' := [(2, .int (nI ((cnt (waS σ z) k) + 0))), (6, .ref (a 3 k)), (5, .int (nI k)), (4, .int (nI nw)), (3, .ref (a 1 4)), (0, .ref (a 1 0)), (1, .int z)]) hx hb dX3_on_52 rfl hl (by decide) rfl (fun ls hl => ?_)
            refine lv_iinc (v := nI (k + 1)) (lv' := [(5, .int (nI (k + 1))), (2, .int (nI ((cnt (waS σ z) k) + 0))), (6, .ref (a 3 k)), (4, .int (nI nw)), (3, .ref (a 1 4)), (0, .ref (a 1 0)), (1, .int z)]) hx hb dX3_on_53 hl (k := 2) rfl (nI_inc _ _) (by decide) rfl (fun ls hl => ?_)
            refine lv_goto (tgt := 14) hx hb dX3_on_56 (by decide) ?_
            have hl9 : lv_has ls 7 [(5, .int (nI (k + 1))), (4, .int (nI nw)), (3, .ref (a 1 4)), (2, .int (nI ((cnt (waS σ z) k) + 0))), (0, .ref (a 1 0)), (1, .int z)] := lv_sub hl [0, 3, 4, 1, 5, 6] rfl
            have hl9 : lv_has ls 7 [(5, .int (nI (k + 1))), (4, .int (nI nw)), (3, .ref (a 1 4)), (2, .int (nI (cnt (waS σ z) (k + 1)))), (0, .ref (a 1 0)), (1, .int z)] := lv_re hl9 3 rfl (show nI ((cnt (waS σ z) k) + 0) = nI (cnt (waS σ z) (k + 1)) from by first | exact cnt_t (by simp [waS, c2, c3, c4]) | exact cnt_f (by simp [waS, c2, c3, c4]))
            exact ih14 (k + 1) (by omega) (by omega) locs hS ls hl9
          · skip
            refine lv_iconst (v := nI 1) hx hb dX3_on_46 rfl ?_
            refine lv_goto (tgt := 51) hx hb dX3_on_47 (by decide) ?_
            refine lv_iadd hx hb dX3_on_51 ?_
            refine li_topi (nI_add _ _) ?_
            refine lv_istore_n (lv' := [(2, .int (nI ((cnt (waS σ z) k) + 1))), (6, .ref (a 3 k)), (5, .int (nI k)), (4, .int (nI nw)), (3, .ref (a 1 4)), (0, .ref (a 1 0)), (1, .int z)]) hx hb dX3_on_52 rfl hl (by decide) rfl (fun ls hl => ?_)
            refine lv_iinc (v := nI (k + 1)) (lv' := [(5, .int (nI (k + 1))), (2, .int (nI ((cnt (waS σ z) k) + 1))), (6, .ref (a 3 k)), (4, .int (nI nw)), (3, .ref (a 1 4)), (0, .ref (a 1 0)), (1, .int z)]) hx hb dX3_on_53 hl (k := 2) rfl (nI_inc _ _) (by decide) rfl (fun ls hl => ?_)
            refine lv_goto (tgt := 14) hx hb dX3_on_56 (by decide) ?_
            have hl9 : lv_has ls 7 [(5, .int (nI (k + 1))), (4, .int (nI nw)), (3, .ref (a 1 4)), (2, .int (nI ((cnt (waS σ z) k) + 1))), (0, .ref (a 1 0)), (1, .int z)] := lv_sub hl [0, 3, 4, 1, 5, 6] rfl
            have hl9 : lv_has ls 7 [(5, .int (nI (k + 1))), (4, .int (nI nw)), (3, .ref (a 1 4)), (2, .int (nI (cnt (waS σ z) (k + 1)))), (0, .ref (a 1 0)), (1, .int z)] := lv_re hl9 3 rfl (show nI ((cnt (waS σ z) k) + 1) = nI (cnt (waS σ z) (k + 1)) from by first | exact cnt_t (by simp [waS, c2, c3, c4]) | exact cnt_f (by simp [waS, c2, c3, c4]))
            exact ih14 (k + 1) (by omega) (by omega) locs hS ls hl9
  have hl9 : lv_has ls 7 [(5, .int (nI 0)), (4, .int (nI nw)), (3, .ref (a 1 4)), (2, .int (nI 0)), (0, .ref (a 1 0)), (1, .int z)] := lv_sub hl [0, 1, 2, 3, 4, 5] rfl
  have hl9 : lv_has ls 7 [(5, .int (nI 0)), (4, .int (nI nw)), (3, .ref (a 1 4)), (2, .int (nI (cnt (waS σ z) 0))), (0, .ref (a 1 0)), (1, .int z)] := lv_re hl9 3 rfl (show nI 0 = nI (cnt (waS σ z) 0) from rfl)
  exact L14_1 ((nw - 0) + 1) 0 (Nat.lt_succ_self _) (by omega) locs hS ls hl9
set_option maxHeartbeats 4000000 in
set_option maxRecDepth 100000 in
theorem c_X3_corner (l : Launch) (D : va_G) (cI cZ cW cO : ClassId) (X : Nat → va_E) (a : Ka) (n nw ns : Nat) (σ η : Sg) (T : Ke) (H : Heap) (z : Int32) (A : Nat → Prop) (hO : kO A (MS n nw) a) (hB : n ≤ 10 ∧ nw ≤ 20 ∧ ns ≤ 6) : Met l yX3_corner wsX3_corner ({ frames := 0, cells := 0, slots := 0, locals := 0 } : Room) (ro_P D (T4 cI cZ cW cO) (wK (MS n nw) a (eL cI cZ cW cO X a n nw ns σ η T)) H [.ref (a 1 0), .int z]) (ro_Q (oI (se σ n z)) H) 0 0 (fun _ => False) := by
  refine ro_of (cc := cX3_corner) (maxL := 3) (by decide) rfl (Nat.le_of_ble_eq_true rfl) rfl ?_
  intro p e s m args below meth c Q ls locs hx hb hml hown hts hK hE hP hl hS hEnd
  have hP : kP D (MS n nw) a (eL cI cZ cW cO X a n nw ns σ η T) H := kP.of hP
  have hl : lv_has ls 3 [(0, .ref (a 1 0)), (1, .int z)] := hl
  have hX3 : ∀ w ∈ wsX30, w.before args s = true := fun w h => hts w (List.mem_cons_of_mem _ (List.mem_append_right _ (h)))
  have f9 : (Cond.fieldLink RX3 9 "LanternWalkLaw$Sim" "route" "[[I").before args s = true := hts _ (List.mem_of_getElem? (i := 1) rfl)
  refine lv_iconst (v := nI 0) hx hb dX3_corner_0 rfl ?_
  refine lv_istore_n (lv' := [(2, .int (nI 0)), (0, .ref (a 1 0)), (1, .int z)]) hx hb dX3_corner_1 rfl hl (by decide) rfl (fun ls hl => ?_)
  have L2_1 : ∀ (fuel : Nat) (k : Nat), (n - k) < fuel → (k ≤ n) → (fnd (seS σ z) k = none) → ∀ (locs : List Loc), va_S (fun _ => False) H H locs → ∀ (ls : Array Slot), lv_has ls 3 [(2, .int (nI k)), (0, .ref (a 1 0)), (1, .int z)] → W p l e ({ frames := 0, cells := 0, slots := 0, locals := 0 } : Room) s m args below meth c H locs 0 0 Q (F0 m 2 ls []) := by
    intro fuel
    induction fuel with
    | zero =>
      intro k hfuel
      exact absurd hfuel (Nat.not_lt_zero _)
    | succ fuel ih2 =>
      intro k hfuel2 hk ha locs hS ls hl
      refine lv_iload_n hx hb dX3_corner_2 rfl (lv_at hl 0 rfl) ?_
      refine lv_aload_n hx hb dX3_corner_3 rfl (lv_at hl 1 rfl) ?_
      refine lk_gf3 hx hb hX3 hown hK hP 1 0 (show 0 < 10 by decide) rfl 0 (by decide) f9 rfl dX3_corner_4 ?_
      refine lk_alen hx hb hK hP 1 1 (show 1 < 10 by decide) 3 rfl rfl dX3_corner_7 ?_
      refine li_ge (tgt := 42) hx hb dX3_corner_8 (by decide) (by omega) (by omega) (fun c2 => ?_) (fun c2 => ?_)
      · skip
        refine lv_iconst (v := (-1)) hx hb dX3_corner_42 rfl ?_
        refine li_topi (show (-1) = oI (se σ n z) from by first | (rw [show se σ n z = some k from fnd_s (by omega) ha (by simp [seS, c2])]; rfl) | (rw [show se σ n z = none from by unfold se; rw [show n = k by omega]; exact ha]; rfl)) ?_
        exact hEnd 43 ls locs dX3_corner_43 hS
      · skip
        refine lv_aload_n hx hb dX3_corner_11 rfl (lv_at hl 1 rfl) ?_
        refine lk_gf3 hx hb hX3 hown hK hP 1 0 (show 0 < 10 by decide) rfl 0 (by decide) f9 rfl dX3_corner_12 ?_
        refine lv_iload_n hx hb dX3_corner_15 rfl (lv_at hl 0 rfl) ?_
        refine lk_aldO hx hb hK hP 1 1 (show 1 < 10 by decide) rfl (by omega) (by omega) (rfs_at (by omega)) dX3_corner_16 ?_
        refine lv_iconst (v := nI 2) hx hb dX3_corner_17 rfl ?_
        refine lk_ild hx hb hK hP 2 k (show k < n by omega) rfl (by omega) (by decide) dX3_corner_18 ?_
        refine li_topi (x' := σ 2 k) rfl ?_
        refine lv_aload_n hx hb dX3_corner_19 rfl (lv_at hl 1 rfl) ?_
        refine lk_gf3 hx hb hX3 hown hK hP 1 0 (show 0 < 10 by decide) rfl 0 (by decide) f9 rfl dX3_corner_20 ?_
        refine lv_iload_n hx hb dX3_corner_23 rfl (lv_at hl 0 rfl) ?_
        refine lk_aldO hx hb hK hP 1 1 (show 1 < 10 by decide) rfl (by omega) (by omega) (rfs_at (by omega)) dX3_corner_24 ?_
        refine lv_iconst (v := nI 0) hx hb dX3_corner_25 rfl ?_
        refine lk_ild hx hb hK hP 2 k (show k < n by omega) rfl (by omega) (by decide) dX3_corner_26 ?_
        refine li_topi (x' := σ 0 k) rfl ?_
        refine lv_iadd hx hb dX3_corner_27 ?_
        refine lv_iconst (v := nI 1) hx hb dX3_corner_28 rfl ?_
        refine lv_isub hx hb dX3_corner_29 ?_
        refine lv_iload_n hx hb dX3_corner_30 rfl (lv_at hl 2 rfl) ?_
        refine lv_icmp_ne (tgt := 36) hx hb dX3_corner_31 (by decide) (fun c3 => ?_) (fun c3 => ?_)
        · skip
          refine lv_iinc (v := nI (k + 1)) (lv' := [(2, .int (nI (k + 1))), (0, .ref (a 1 0)), (1, .int z)]) hx hb dX3_corner_36 hl (k := 0) rfl (nI_inc _ _) (by decide) rfl (fun ls hl => ?_)
          refine lv_goto (tgt := 2) hx hb dX3_corner_39 (by decide) ?_
          have hl9 : lv_has ls 3 [(2, .int (nI (k + 1))), (0, .ref (a 1 0)), (1, .int z)] := lv_sub hl [0, 1, 2] rfl
          exact ih2 (k + 1) (by omega) (by omega) (fnd_n ha (by simp [seS, c2, c3])) locs hS ls hl9
        · skip
          refine lv_iload_n hx hb dX3_corner_34 rfl (lv_at hl 0 rfl) ?_
          refine li_topi (show nI k = oI (se σ n z) from by first | (rw [show se σ n z = some k from fnd_s (by omega) ha (by simp [seS, c2, c3])]; rfl) | (rw [show se σ n z = none from by unfold se; rw [show n = k by omega]; exact ha]; rfl)) ?_
          exact hEnd 35 ls locs dX3_corner_35 hS
  have hl9 : lv_has ls 3 [(2, .int (nI 0)), (0, .ref (a 1 0)), (1, .int z)] := lv_sub hl [0, 1, 2] rfl
  exact L2_1 ((n - 0) + 1) 0 (Nat.lt_succ_self _) (by omega) (rfl) locs hS ls hl9
set_option maxHeartbeats 4000000 in
set_option maxRecDepth 100000 in
theorem c_X3_in (l : Launch) (D : va_G) (cI cZ cW cO : ClassId) (X : Nat → va_E) (a : Ka) (n nw ns : Nat) (σ η : Sg) (T : Ke) (H : Heap) (x : Int32) (A : Nat → Prop) (hO : kO A (MS n nw) a) (hB : n ≤ 10 ∧ nw ≤ 20 ∧ ns ≤ 6) : Met l yX3_in wsX3_in ({ frames := 0, cells := 0, slots := 0, locals := 0 } : Room) (ro_P D (T4 cI cZ cW cO) (wK (MS n nw) a (eL cI cZ cW cO X a n nw ns σ η T)) H [.ref (a 1 0), .int x]) (ro_Q (nI (hm σ nw x)) H) 0 0 (fun _ => False) := by
  refine ro_of (cc := cX3_in) (maxL := 7) (by decide) rfl (Nat.le_of_ble_eq_true rfl) rfl ?_
  intro p e s m args below meth c Q ls locs hx hb hml hown hts hK hE hP hl hS hEnd
  have hP : kP D (MS n nw) a (eL cI cZ cW cO X a n nw ns σ η T) H := kP.of hP
  have hl : lv_has ls 7 [(0, .ref (a 1 0)), (1, .int x)] := hl
  have hX3 : ∀ w ∈ wsX30, w.before args s = true := fun w h => hts w (List.mem_cons_of_mem _ (List.mem_append_left _ (List.mem_append_right _ (h))))
  have hX4 : ∀ w ∈ wsX40, w.before args s = true := fun w h => hts w (List.mem_cons_of_mem _ (List.mem_append_right _ (h)))
  have f23 : (Cond.fieldLink RX3 23 "LanternWalkLaw$Sim" "walkers" "[LLanternWalkLaw$Walker;").before args s = true := hts _ (List.mem_of_getElem? (i := 1) rfl)
  have f74 : (Cond.fieldLink RX3 74 "LanternWalkLaw$Walker" "state" "I").before args s = true := hts _ (List.mem_of_getElem? (i := 2) rfl)
  refine lv_iconst (v := nI 0) hx hb dX3_in_0 rfl ?_
  refine lv_istore_n (lv' := [(2, .int (nI 0)), (0, .ref (a 1 0)), (1, .int x)]) hx hb dX3_in_1 rfl hl (by decide) rfl (fun ls hl => ?_)
  refine lv_aload_n hx hb dX3_in_2 rfl (lv_at hl 1 rfl) ?_
  refine lk_gf3 hx hb hX3 hown hK hP 1 0 (show 0 < 10 by decide) rfl 3 (by decide) f23 rfl dX3_in_3 ?_
  refine lv_astore_n (lv' := [(3, .ref (a 1 4)), (2, .int (nI 0)), (0, .ref (a 1 0)), (1, .int x)]) hx hb dX3_in_6 rfl hl (by decide) rfl (fun ls hl => ?_)
  refine lv_aload_n hx hb dX3_in_7 rfl (lv_at hl 0 rfl) ?_
  refine lk_alen hx hb hK hP 1 4 (show 4 < 10 by decide) 2 rfl rfl dX3_in_8 ?_
  refine lv_istore (lv' := [(4, .int (nI nw)), (3, .ref (a 1 4)), (2, .int (nI 0)), (0, .ref (a 1 0)), (1, .int x)]) hx hb dX3_in_9 hl (by decide) rfl (fun ls hl => ?_)
  refine lv_iconst (v := nI 0) hx hb dX3_in_11 rfl ?_
  refine lv_istore (lv' := [(5, .int (nI 0)), (4, .int (nI nw)), (3, .ref (a 1 4)), (2, .int (nI 0)), (0, .ref (a 1 0)), (1, .int x)]) hx hb dX3_in_12 hl (by decide) rfl (fun ls hl => ?_)
  have L14_1 : ∀ (fuel : Nat) (k : Nat), (nw - k) < fuel → (k ≤ nw) → ∀ (locs : List Loc), va_S (fun _ => False) H H locs → ∀ (ls : Array Slot), lv_has ls 7 [(5, .int (nI k)), (4, .int (nI nw)), (3, .ref (a 1 4)), (2, .int (nI (cnt (hmS σ x) k))), (0, .ref (a 1 0)), (1, .int x)] → W p l e ({ frames := 0, cells := 0, slots := 0, locals := 0 } : Room) s m args below meth c H locs 0 0 Q (F0 m 14 ls []) := by
    intro fuel
    induction fuel with
    | zero =>
      intro k hfuel
      exact absurd hfuel (Nat.not_lt_zero _)
    | succ fuel ih14 =>
      intro k hfuel14 hk locs hS ls hl
      refine lv_iload hx hb dX3_in_14 (lv_at hl 0 rfl) ?_
      refine lv_iload hx hb dX3_in_16 (lv_at hl 1 rfl) ?_
      refine li_ge (tgt := 50) hx hb dX3_in_18 (by decide) (by omega) (by omega) (fun c2 => ?_) (fun c2 => ?_)
      · skip
        refine lv_iload_n hx hb dX3_in_50 rfl (lv_at hl 3 rfl) ?_
        refine li_topi (show nI (cnt (hmS σ x) k) = nI (hm σ nw x) from by rw [show k = nw by omega]; rfl) ?_
        exact hEnd 51 ls locs dX3_in_51 hS
      · skip
        refine lv_aload_n hx hb dX3_in_21 rfl (lv_at hl 2 rfl) ?_
        refine lv_iload hx hb dX3_in_22 (lv_at hl 0 rfl) ?_
        refine lk_aldW hx hb hK hP 1 4 (show 4 < 10 by decide) rfl (by omega) (by omega) (rfs_at (by omega)) dX3_in_24 ?_
        refine lv_astore (lv' := [(6, .ref (a 3 k)), (5, .int (nI k)), (4, .int (nI nw)), (3, .ref (a 1 4)), (2, .int (nI (cnt (hmS σ x) k))), (0, .ref (a 1 0)), (1, .int x)]) hx hb dX3_in_25 hl (by decide) rfl (fun ls hl => ?_)
        refine lv_iload_n hx hb dX3_in_27 rfl (lv_at hl 4 rfl) ?_
        refine lv_aload hx hb dX3_in_28 (lv_at hl 0 rfl) ?_
        refine lk_gf4 hx hb hX4 hown hK hP 3 k (show k < nw by omega) rfl 4 (by decide) f74 rfl dX3_in_30 ?_
        refine lv_iload_n hx hb dX3_in_33 rfl (lv_at hl 6 rfl) ?_
        refine lv_icmp_ne (tgt := 41) hx hb dX3_in_34 (by decide) (fun c3 => ?_) (fun c3 => ?_)
        · skip
          refine lv_iconst (v := nI 0) hx hb dX3_in_41 rfl ?_
          refine lv_iadd hx hb dX3_in_42 ?_
          refine li_topi (nI_add _ _) ?_
          refine lv_istore_n (lv' := [(2, .int (nI ((cnt (hmS σ x) k) + 0))), (6, .ref (a 3 k)), (5, .int (nI k)), (4, .int (nI nw)), (3, .ref (a 1 4)), (0, .ref (a 1 0)), (1, .int x)]) hx hb dX3_in_43 rfl hl (by decide) rfl (fun ls hl => ?_)
          refine lv_iinc (v := nI (k + 1)) (lv' := [(5, .int (nI (k + 1))), (2, .int (nI ((cnt (hmS σ x) k) + 0))), (6, .ref (a 3 k)), (4, .int (nI nw)), (3, .ref (a 1 4)), (0, .ref (a 1 0)), (1, .int x)]) hx hb dX3_in_44 hl (k := 2) rfl (nI_inc _ _) (by decide) rfl (fun ls hl => ?_)
          refine lv_goto (tgt := 14) hx hb dX3_in_47 (by decide) ?_
          have hl9 : lv_has ls 7 [(5, .int (nI (k + 1))), (4, .int (nI nw)), (3, .ref (a 1 4)), (2, .int (nI ((cnt (hmS σ x) k) + 0))), (0, .ref (a 1 0)), (1, .int x)] := lv_sub hl [0, 3, 4, 1, 5, 6] rfl
          have hl9 : lv_has ls 7 [(5, .int (nI (k + 1))), (4, .int (nI nw)), (3, .ref (a 1 4)), (2, .int (nI (cnt (hmS σ x) (k + 1)))), (0, .ref (a 1 0)), (1, .int x)] := lv_re hl9 3 rfl (show nI ((cnt (hmS σ x) k) + 0) = nI (cnt (hmS σ x) (k + 1)) from by first | exact cnt_t (by simp [hmS, c2, c3]) | exact cnt_f (by simp [hmS, c2, c3]))
          exact ih14 (k + 1) (by omega) (by omega) locs hS ls hl9
        · skip
          refine lv_iconst (v := nI 1) hx hb dX3_in_37 rfl ?_
          refine lv_goto (tgt := 42) hx hb dX3_in_38 (by decide) ?_
          refine lv_iadd hx hb dX3_in_42 ?_
          refine li_topi (nI_add _ _) ?_
          refine lv_istore_n (lv' := [(2, .int (nI ((cnt (hmS σ x) k) + 1))), (6, .ref (a 3 k)), (5, .int (nI k)), (4, .int (nI nw)), (3, .ref (a 1 4)), (0, .ref (a 1 0)), (1, .int x)]) hx hb dX3_in_43 rfl hl (by decide) rfl (fun ls hl => ?_)
          refine lv_iinc (v := nI (k + 1)) (lv' := [(5, .int (nI (k + 1))), (2, .int (nI ((cnt (hmS σ x) k) + 1))), (6, .ref (a 3 k)), (4, .int (nI nw)), (3, .ref (a 1 4)), (0, .ref (a 1 0)), (1, .int x)]) hx hb dX3_in_44 hl (k := 2) rfl (nI_inc _ _) (by decide) rfl (fun ls hl => ?_)
          refine lv_goto (tgt := 14) hx hb dX3_in_47 (by decide) ?_
          have hl9 : lv_has ls 7 [(5, .int (nI (k + 1))), (4, .int (nI nw)), (3, .ref (a 1 4)), (2, .int (nI ((cnt (hmS σ x) k) + 1))), (0, .ref (a 1 0)), (1, .int x)] := lv_sub hl [0, 3, 4, 1, 5, 6] rfl
          have hl9 : lv_has ls 7 [(5, .int (nI (k + 1))), (4, .int (nI nw)), (3, .ref (a 1 4)), (2, .int (nI (cnt (hmS σ x) (k + 1)))), (0, .ref (a 1 0)), (1, .int x)] := lv_re hl9 3 rfl (show nI ((cnt (hmS σ x) k) + 1) = nI (cnt (hmS σ x) (k + 1)) from by first | exact cnt_t (by simp [hmS, c2, c3]) | exact cnt_f (by simp [hmS, c2, c3]))
          exact ih14 (k + 1) (by omega) (by omega) locs hS ls hl9
  have hl9 : lv_has ls 7 [(5, .int (nI 0)), (4, .int (nI nw)), (3, .ref (a 1 4)), (2, .int (nI 0)), (0, .ref (a 1 0)), (1, .int x)] := lv_sub hl [0, 1, 2, 3, 4, 5] rfl
  have hl9 : lv_has ls 7 [(5, .int (nI 0)), (4, .int (nI nw)), (3, .ref (a 1 4)), (2, .int (nI (cnt (hmS σ x) 0))), (0, .ref (a 1 0)), (1, .int x)] := lv_re hl9 3 rfl (show nI 0 = nI (cnt (hmS σ x) 0) from rfl)
  exact L14_1 ((nw - 0) + 1) 0 (Nat.lt_succ_self _) (by omega) locs hS ls hl9
set_option maxHeartbeats 4000000 in
set_option maxRecDepth 100000 in
theorem c_X3_burning (l : Launch) (D : va_G) (cI cZ cW cO : ClassId) (X : Nat → va_E) (a : Ka) (n nw ns : Nat) (σ η : Sg) (T : Ke) (H : Heap) (A : Nat → Prop) (hO : kO A (MS n nw) a) (hB : n ≤ 10 ∧ nw ≤ 20 ∧ ns ≤ 6) : Met l yX3_burning wsX3_burning ({ frames := 0, cells := 0, slots := 0, locals := 0 } : Room) (ro_P D (T4 cI cZ cW cO) (wK (MS n nw) a (eL cI cZ cW cO X a n nw ns σ η T)) H [.ref (a 1 0)]) (ro_Q (nI (lb σ nw)) H) 0 0 (fun _ => False) := by
  refine ro_of (cc := cX3_burning) (maxL := 6) (by decide) rfl (Nat.le_of_ble_eq_true rfl) rfl ?_
  intro p e s m args below meth c Q ls locs hx hb hml hown hts hK hE hP hl hS hEnd
  have hP : kP D (MS n nw) a (eL cI cZ cW cO X a n nw ns σ η T) H := kP.of hP
  have hl : lv_has ls 6 [(0, .ref (a 1 0))] := hl
  have hX3 : ∀ w ∈ wsX30, w.before args s = true := fun w h => hts w (List.mem_cons_of_mem _ (List.mem_append_left _ (List.mem_append_right _ (h))))
  have hX4 : ∀ w ∈ wsX40, w.before args s = true := fun w h => hts w (List.mem_cons_of_mem _ (List.mem_append_right _ (h)))
  have f23 : (Cond.fieldLink RX3 23 "LanternWalkLaw$Sim" "walkers" "[LLanternWalkLaw$Walker;").before args s = true := hts _ (List.mem_of_getElem? (i := 1) rfl)
  have f74 : (Cond.fieldLink RX3 74 "LanternWalkLaw$Walker" "state" "I").before args s = true := hts _ (List.mem_of_getElem? (i := 2) rfl)
  have f66 : (Cond.fieldLink RX3 66 "LanternWalkLaw$Walker" "burns" "Z").before args s = true := hts _ (List.mem_of_getElem? (i := 3) rfl)
  refine lv_iconst (v := nI 0) hx hb dX3_burning_0 rfl ?_
  refine lv_istore_n (lv' := [(1, .int (nI 0)), (0, .ref (a 1 0))]) hx hb dX3_burning_1 rfl hl (by decide) rfl (fun ls hl => ?_)
  refine lv_aload_n hx hb dX3_burning_2 rfl (lv_at hl 1 rfl) ?_
  refine lk_gf3 hx hb hX3 hown hK hP 1 0 (show 0 < 10 by decide) rfl 3 (by decide) f23 rfl dX3_burning_3 ?_
  refine lv_astore_n (lv' := [(2, .ref (a 1 4)), (1, .int (nI 0)), (0, .ref (a 1 0))]) hx hb dX3_burning_6 rfl hl (by decide) rfl (fun ls hl => ?_)
  refine lv_aload_n hx hb dX3_burning_7 rfl (lv_at hl 0 rfl) ?_
  refine lk_alen hx hb hK hP 1 4 (show 4 < 10 by decide) 2 rfl rfl dX3_burning_8 ?_
  refine lv_istore_n (lv' := [(3, .int (nI nw)), (2, .ref (a 1 4)), (1, .int (nI 0)), (0, .ref (a 1 0))]) hx hb dX3_burning_9 rfl hl (by decide) rfl (fun ls hl => ?_)
  refine lv_iconst (v := nI 0) hx hb dX3_burning_10 rfl ?_
  refine lv_istore (lv' := [(4, .int (nI 0)), (3, .int (nI nw)), (2, .ref (a 1 4)), (1, .int (nI 0)), (0, .ref (a 1 0))]) hx hb dX3_burning_11 hl (by decide) rfl (fun ls hl => ?_)
  have L13_1 : ∀ (fuel : Nat) (k : Nat), (nw - k) < fuel → (k ≤ nw) → ∀ (locs : List Loc), va_S (fun _ => False) H H locs → ∀ (ls : Array Slot), lv_has ls 6 [(4, .int (nI k)), (3, .int (nI nw)), (2, .ref (a 1 4)), (1, .int (nI (cnt (lbS σ) k))), (0, .ref (a 1 0))] → W p l e ({ frames := 0, cells := 0, slots := 0, locals := 0 } : Room) s m args below meth c H locs 0 0 Q (F0 m 13 ls []) := by
    intro fuel
    induction fuel with
    | zero =>
      intro k hfuel
      exact absurd hfuel (Nat.not_lt_zero _)
    | succ fuel ih13 =>
      intro k hfuel13 hk locs hS ls hl
      refine lv_iload hx hb dX3_burning_13 (lv_at hl 0 rfl) ?_
      refine lv_iload_n hx hb dX3_burning_15 rfl (lv_at hl 1 rfl) ?_
      refine li_ge (tgt := 56) hx hb dX3_burning_16 (by decide) (by omega) (by omega) (fun c2 => ?_) (fun c2 => ?_)
      · skip
        refine lv_iload_n hx hb dX3_burning_56 rfl (lv_at hl 3 rfl) ?_
        refine li_topi (show nI (cnt (lbS σ) k) = nI (lb σ nw) from by rw [show k = nw by omega]; rfl) ?_
        exact hEnd 57 ls locs dX3_burning_57 hS
      · skip
        refine lv_aload_n hx hb dX3_burning_19 rfl (lv_at hl 2 rfl) ?_
        refine lv_iload hx hb dX3_burning_20 (lv_at hl 0 rfl) ?_
        refine lk_aldW hx hb hK hP 1 4 (show 4 < 10 by decide) rfl (by omega) (by omega) (rfs_at (by omega)) dX3_burning_22 ?_
        refine lv_astore (lv' := [(5, .ref (a 3 k)), (4, .int (nI k)), (3, .int (nI nw)), (2, .ref (a 1 4)), (1, .int (nI (cnt (lbS σ) k))), (0, .ref (a 1 0))]) hx hb dX3_burning_23 hl (by decide) rfl (fun ls hl => ?_)
        refine lv_iload_n hx hb dX3_burning_25 rfl (lv_at hl 4 rfl) ?_
        refine lv_aload hx hb dX3_burning_26 (lv_at hl 0 rfl) ?_
        refine lk_gf4 hx hb hX4 hown hK hP 3 k (show k < nw by omega) rfl 4 (by decide) f74 rfl dX3_burning_28 ?_
        refine lv_iconst (v := nI 1) hx hb dX3_burning_31 rfl ?_
        refine lv_icmp_ne (tgt := 47) hx hb dX3_burning_32 (by decide) (fun c3 => ?_) (fun c3 => ?_)
        · skip
          refine lv_iconst (v := nI 0) hx hb dX3_burning_47 rfl ?_
          refine lv_iadd hx hb dX3_burning_48 ?_
          refine li_topi (nI_add _ _) ?_
          refine lv_istore_n (lv' := [(1, .int (nI ((cnt (lbS σ) k) + 0))), (5, .ref (a 3 k)), (4, .int (nI k)), (3, .int (nI nw)), (2, .ref (a 1 4)), (0, .ref (a 1 0))]) hx hb dX3_burning_49 rfl hl (by decide) rfl (fun ls hl => ?_)
          refine lv_iinc (v := nI (k + 1)) (lv' := [(4, .int (nI (k + 1))), (1, .int (nI ((cnt (lbS σ) k) + 0))), (5, .ref (a 3 k)), (3, .int (nI nw)), (2, .ref (a 1 4)), (0, .ref (a 1 0))]) hx hb dX3_burning_50 hl (k := 2) rfl (nI_inc _ _) (by decide) rfl (fun ls hl => ?_)
          refine lv_goto (tgt := 13) hx hb dX3_burning_53 (by decide) ?_
          have hl9 : lv_has ls 6 [(4, .int (nI (k + 1))), (3, .int (nI nw)), (2, .ref (a 1 4)), (1, .int (nI ((cnt (lbS σ) k) + 0))), (0, .ref (a 1 0))] := lv_sub hl [0, 3, 4, 1, 5] rfl
          have hl9 : lv_has ls 6 [(4, .int (nI (k + 1))), (3, .int (nI nw)), (2, .ref (a 1 4)), (1, .int (nI (cnt (lbS σ) (k + 1)))), (0, .ref (a 1 0))] := lv_re hl9 3 rfl (show nI ((cnt (lbS σ) k) + 0) = nI (cnt (lbS σ) (k + 1)) from by first | exact cnt_t (by simp [lbS, c2, c3]) | exact cnt_f (by simp [lbS, c2, c3]))
          exact ih13 (k + 1) (by omega) (by omega) locs hS ls hl9
        · skip
          refine lv_aload hx hb dX3_burning_35 (lv_at hl 0 rfl) ?_
          refine lk_gf4 hx hb hX4 hown hK hP 3 k (show k < nw by omega) rfl 3 (by decide) f66 rfl dX3_burning_37 ?_
          refine lv_if_eq (tgt := 47) hx hb dX3_burning_40 (by decide) (fun c4 => ?_) (fun c4 => ?_)
          · skip
            refine lv_iconst (v := nI 0) hx hb dX3_burning_47 rfl ?_
            refine lv_iadd hx hb dX3_burning_48 ?_
            refine li_topi (nI_add _ _) ?_
            refine lv_istore_n (lv' := [(1, .int (nI ((cnt (lbS σ) k) + 0))), (5, .ref (a 3 k)), (4, .int (nI k)), (3, .int (nI nw)), (2, .ref (a 1 4)), (0, .ref (a 1 0))]) hx hb dX3_burning_49 rfl hl (by decide) rfl (fun ls hl => ?_)
            refine lv_iinc (v := nI (k + 1)) (lv' := [(4, .int (nI (k + 1))), (1, .int (nI ((cnt (lbS σ) k) + 0))), (5, .ref (a 3 k)), (3, .int (nI nw)), (2, .ref (a 1 4)), (0, .ref (a 1 0))]) hx hb dX3_burning_50 hl (k := 2) rfl (nI_inc _ _) (by decide) rfl (fun ls hl => ?_)
            refine lv_goto (tgt := 13) hx hb dX3_burning_53 (by decide) ?_
            have hl9 : lv_has ls 6 [(4, .int (nI (k + 1))), (3, .int (nI nw)), (2, .ref (a 1 4)), (1, .int (nI ((cnt (lbS σ) k) + 0))), (0, .ref (a 1 0))] := lv_sub hl [0, 3, 4, 1, 5] rfl
            have hl9 : lv_has ls 6 [(4, .int (nI (k + 1))), (3, .int (nI nw)), (2, .ref (a 1 4)), (1, .int (nI (cnt (lbS σ) (k + 1)))), (0, .ref (a 1 0))] := lv_re hl9 3 rfl (show nI ((cnt (lbS σ) k) + 0) = nI (cnt (lbS σ) (k + 1)) from by first | exact cnt_t (by simp [lbS, c2, c3, c4]) | exact cnt_f (by simp [lbS, c2, c3, c4]))
            exact ih13 (k + 1) (by omega) (by omega) locs hS ls hl9
          · skip
            refine lv_iconst (v := nI 1) hx hb dX3_burning_43 rfl ?_
            refine lv_goto (tgt := 48) hx hb dX3_burning_44 (by decide) ?_
            refine lv_iadd hx hb dX3_burning_48 ?_
            refine li_topi (nI_add _ _) ?_
            refine lv_istore_n (lv' := [(1, .int (nI ((cnt (lbS σ) k) + 1))), (5, .ref (a 3 k)), (4, .int (nI k)), (3, .int (nI nw)), (2, .ref (a 1 4)), (0, .ref (a 1 0))]) hx hb dX3_burning_49 rfl hl (by decide) rfl (fun ls hl => ?_)
            refine lv_iinc (v := nI (k + 1)) (lv' := [(4, .int (nI (k + 1))), (1, .int (nI ((cnt (lbS σ) k) + 1))), (5, .ref (a 3 k)), (3, .int (nI nw)), (2, .ref (a 1 4)), (0, .ref (a 1 0))]) hx hb dX3_burning_50 hl (k := 2) rfl (nI_inc _ _) (by decide) rfl (fun ls hl => ?_)
            refine lv_goto (tgt := 13) hx hb dX3_burning_53 (by decide) ?_
            have hl9 : lv_has ls 6 [(4, .int (nI (k + 1))), (3, .int (nI nw)), (2, .ref (a 1 4)), (1, .int (nI ((cnt (lbS σ) k) + 1))), (0, .ref (a 1 0))] := lv_sub hl [0, 3, 4, 1, 5] rfl
            have hl9 : lv_has ls 6 [(4, .int (nI (k + 1))), (3, .int (nI nw)), (2, .ref (a 1 4)), (1, .int (nI (cnt (lbS σ) (k + 1)))), (0, .ref (a 1 0))] := lv_re hl9 3 rfl (show nI ((cnt (lbS σ) k) + 1) = nI (cnt (lbS σ) (k + 1)) from by first | exact cnt_t (by simp [lbS, c2, c3, c4]) | exact cnt_f (by simp [lbS, c2, c3, c4]))
            exact ih13 (k + 1) (by omega) (by omega) locs hS ls hl9
  have hl9 : lv_has ls 6 [(4, .int (nI 0)), (3, .int (nI nw)), (2, .ref (a 1 4)), (1, .int (nI 0)), (0, .ref (a 1 0))] := lv_sub hl [0, 1, 2, 3, 4] rfl
  have hl9 : lv_has ls 6 [(4, .int (nI 0)), (3, .int (nI nw)), (2, .ref (a 1 4)), (1, .int (nI (cnt (lbS σ) 0))), (0, .ref (a 1 0))] := lv_re hl9 3 rfl (show nI 0 = nI (cnt (lbS σ) 0) from rfl)
  exact L13_1 ((nw - 0) + 1) 0 (Nat.lt_succ_self _) (by omega) locs hS ls hl9
