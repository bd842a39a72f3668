/-! the model: questions that change nothing -/
set_option maxHeartbeats 4000000 in
set_option maxRecDepth 100000 in
theorem c_X3_thrown (l : Launch) (D : va_G) (cI cZ cL cO : ClassId) (a : Nat → Nat) (th : Int32) (n nw ns : Nat) (σ η : Sg) (H : Heap) (hB : n ≤ 10 ∧ nw ≤ 20 ∧ ns ≤ 6) : Met l yX3_thrown wsX3_thrown ({ frames := 0, cells := 0, slots := 0, locals := 0 } : Room) (ro_P D (T4 cI cZ cL cO) (wM cI cZ a th n nw ns σ η) H [.ref (a 0)]) (ro_Q th H) 0 0 (fun _ => False) := by
  refine ro_of (cc := cX3_thrown) (maxL := 1) (by decide) rfl (Nat.le_of_ble_eq_true rfl) rfl ?_
  intro p e s m args below meth c Q ls locs hx hb hml hown hts hK hE hP hl hS hEnd
  have hl : lv_has ls 1 [(0, .ref (a 0))] := hl
  have hX3 : ∀ w ∈ wsX30, w.before args s = true := fun w h => hts w (List.mem_cons_of_mem _ (List.mem_append_right _ (h)))
  have f47 : (Cond.fieldLink RX3 47 "LanternWalkModel" "thrown" "I").before args s = true := hts _ (List.mem_of_getElem? (i := 1) rfl)
  refine lv_aload_n hx hb dX3_thrown_0 rfl (lv_at hl 0 rfl) ?_
  refine li_gf3 hx hb hX3 hown hK hP 0 rfl 0 (by decide) f47 rfl dX3_thrown_1 ?_
  exact hEnd 4 ls locs dX3_thrown_4 hS
set_option maxHeartbeats 4000000 in
set_option maxRecDepth 100000 in
theorem c_X3_isIn (l : Launch) (D : va_G) (cI cZ cL cO : ClassId) (H : Heap) (v : Int32) (lo : Int32) (hi : Int32) : Met l yX3_isIn wsX3_isIn ({ frames := 0, cells := 0, slots := 0, locals := 0 } : Room) (ro_P D (T4 cI cZ cL cO) ([]) H [.int v, .int lo, .int hi]) (ro_Q (zI (decide (¬ v < lo) && decide (¬ hi < v))) H) 0 0 (fun _ => False) := by
  refine ro_of (cc := cX3_isIn) (maxL := 3) (by decide) rfl (Nat.le_of_ble_eq_true rfl) (zI_n _) ?_
  intro p e s m args below meth c Q ls locs hx hb hml hown hts hK hE hP hl hS hEnd
  have hl : lv_has ls 3 [(0, .int v), (1, .int lo), (2, .int hi)] := hl
  refine lv_iload_n hx hb dX3_isIn_0 rfl (lv_at hl 0 rfl) ?_
  refine lv_iload_n hx hb dX3_isIn_1 rfl (lv_at hl 1 rfl) ?_
  refine lv_icmp_lt (tgt := 14) hx hb dX3_isIn_2 (by decide) (fun c1 => ?_) (fun c1 => ?_)
  · skip
    refine lv_iconst (v := nI 0) hx hb dX3_isIn_14 rfl ?_
    refine li_topi (show nI 0 = zI (decide (¬ v < lo) && decide (¬ hi < v)) from by simp [zI, c1]) ?_
    exact hEnd 15 ls locs dX3_isIn_15 hS
  · skip
    refine lv_iload_n hx hb dX3_isIn_5 rfl (lv_at hl 0 rfl) ?_
    refine lv_iload_n hx hb dX3_isIn_6 rfl (lv_at hl 2 rfl) ?_
    refine lv_icmp_gt (tgt := 14) hx hb dX3_isIn_7 (by decide) (fun c2 => ?_) (fun c2 => ?_)
    · skip
      refine lv_iconst (v := nI 0) hx hb dX3_isIn_14 rfl ?_
      refine li_topi (show nI 0 = zI (decide (¬ v < lo) && decide (¬ hi < v)) from by simp [zI, c1, c2]) ?_
      exact hEnd 15 ls locs dX3_isIn_15 hS
    · skip
      refine lv_iconst (v := nI 1) hx hb dX3_isIn_10 rfl ?_
      refine lv_goto (tgt := 15) hx hb dX3_isIn_11 (by decide) ?_
      refine li_topi (show nI 1 = zI (decide (¬ v < lo) && decide (¬ hi < v)) from by simp [zI, c1, c2]) ?_
      exact hEnd 15 ls locs dX3_isIn_15 hS
set_option maxHeartbeats 4000000 in
set_option maxRecDepth 100000 in
theorem c_X3_isStretch (l : Launch) (D : va_G) (cI cZ cL cO : ClassId) (a : Nat → Nat) (th : Int32) (n nw ns : Nat) (σ η : Sg) (H : Heap) (sx : Int32) (hB : n ≤ 10 ∧ nw ≤ 20 ∧ ns ≤ 6) : Met l yX3_isStretch wsX3_isStretch ({ frames := 1, cells := 0, slots := 0, locals := 22 } : Room) (ro_P D (T4 cI cZ cL cO) (wM cI cZ a th n nw ns σ η) H [.ref (a 0), .int sx]) (ro_Q (zI (has n sx)) H) 0 0 (fun _ => False) := by
  refine ro_of (cc := cX3_isStretch) (maxL := 2) (by decide) rfl (Nat.le_of_ble_eq_true rfl) (zI_n _) ?_
  intro p e s m args below meth c Q ls locs hx hb hml hown hts hK hE hP hl hS hEnd
  have hl : lv_has ls 2 [(0, .ref (a 0)), (1, .int sx)] := hl
  have hX3 : ∀ w ∈ wsX30, w.before args s = true := fun w h => hts w (List.mem_cons_of_mem _ (List.mem_append_right _ (h)))
  have f51 : (Cond.fieldLink RX3 51 "LanternWalkModel" "stretches" "I").before args s = true := hts _ (List.mem_of_getElem? (i := 1) rfl)
  refine lv_iload_n hx hb dX3_isStretch_0 rfl (lv_at hl 1 rfl) ?_
  refine lv_iconst (v := nI 0) hx hb dX3_isStretch_1 rfl ?_
  refine lv_aload_n hx hb dX3_isStretch_2 rfl (lv_at hl 0 rfl) ?_
  refine li_gf3 hx hb hX3 hown hK hP 0 rfl 1 (by decide) f51 rfl dX3_isStretch_3 ?_
  refine lv_iconst (v := nI 1) hx hb dX3_isStretch_6 rfl ?_
  refine lv_isub hx hb dX3_isStretch_7 ?_
  refine roS (As := [.int sx, .int (nI 0), .int ((nI n) - (nI 1))]) hx hb hml hown hts (c_X3_isIn l D cI cZ cL cO H sx (nI 0) ((nI n) - (nI 1))) (va_cwS 3 hts gX3_isStretch_X3_isIn rfl rfl rfl (by decide +kernel) ⟨by decide, by decide⟩) hK hE (hP.sub (ws' := []) [] rfl) rfl hl.1 rfl (Nat.le_of_ble_eq_true rfl) hS dX3_isStretch_8 ⟨Nat.zero_le _, Nat.zero_le _⟩ (fun locs hS => ?_)
  refine li_topi (show zI (decide (¬ sx < (nI 0)) && decide (¬ ((nI n) - (nI 1)) < sx)) = zI (has n sx) from by rw [has_isIn (by omega)]) ?_
  exact hEnd 11 ls locs dX3_isStretch_11 hS
set_option maxHeartbeats 4000000 in
set_option maxRecDepth 100000 in
theorem c_X3_isWalker (l : Launch) (D : va_G) (cI cZ cL cO : ClassId) (a : Nat → Nat) (th : Int32) (n nw ns : Nat) (σ η : Sg) (H : Heap) (w : Int32) (hB : n ≤ 10 ∧ nw ≤ 20 ∧ ns ≤ 6) : Met l yX3_isWalker wsX3_isWalker ({ frames := 1, cells := 0, slots := 0, locals := 22 } : Room) (ro_P D (T4 cI cZ cL cO) (wM cI cZ a th n nw ns σ η) H [.ref (a 0), .int w]) (ro_Q (zI (has nw w)) H) 0 0 (fun _ => False) := by
  refine ro_of (cc := cX3_isWalker) (maxL := 2) (by decide) rfl (Nat.le_of_ble_eq_true rfl) (zI_n _) ?_
  intro p e s m args below meth c Q ls locs hx hb hml hown hts hK hE hP hl hS hEnd
  have hl : lv_has ls 2 [(0, .ref (a 0)), (1, .int w)] := hl
  have hX3 : ∀ w ∈ wsX30, w.before args s = true := fun w h => hts w (List.mem_cons_of_mem _ (List.mem_append_right _ (h)))
  have f58 : (Cond.fieldLink RX3 58 "LanternWalkModel" "walkers" "I").before args s = true := hts _ (List.mem_of_getElem? (i := 1) rfl)
  refine lv_iload_n hx hb dX3_isWalker_0 rfl (lv_at hl 1 rfl) ?_
  refine lv_iconst (v := nI 0) hx hb dX3_isWalker_1 rfl ?_
  refine lv_aload_n hx hb dX3_isWalker_2 rfl (lv_at hl 0 rfl) ?_
  refine li_gf3 hx hb hX3 hown hK hP 0 rfl 5 (by decide) f58 rfl dX3_isWalker_3 ?_
  refine lv_iconst (v := nI 1) hx hb dX3_isWalker_6 rfl ?_
  refine lv_isub hx hb dX3_isWalker_7 ?_
  refine roS (As := [.int w, .int (nI 0), .int ((nI nw) - (nI 1))]) hx hb hml hown hts (c_X3_isIn l D cI cZ cL cO H w (nI 0) ((nI nw) - (nI 1))) (va_cwS 3 hts gX3_isWalker_X3_isIn rfl rfl rfl (by decide +kernel) ⟨by decide, by decide⟩) hK hE (hP.sub (ws' := []) [] rfl) rfl hl.1 rfl (Nat.le_of_ble_eq_true rfl) hS dX3_isWalker_8 ⟨Nat.zero_le _, Nat.zero_le _⟩ (fun locs hS => ?_)
  refine li_topi (show zI (decide (¬ w < (nI 0)) && decide (¬ ((nI nw) - (nI 1)) < w)) = zI (has nw w) from by rw [has_isIn (by omega)]) ?_
  exact hEnd 11 ls locs dX3_isWalker_11 hS
set_option maxHeartbeats 4000000 in
set_option maxRecDepth 100000 in
theorem c_X3_isSong (l : Launch) (D : va_G) (cI cZ cL cO : ClassId) (a : Nat → Nat) (th : Int32) (n nw ns : Nat) (σ η : Sg) (H : Heap) (sg : Int32) (hB : n ≤ 10 ∧ nw ≤ 20 ∧ ns ≤ 6) : Met l yX3_isSong wsX3_isSong ({ frames := 1, cells := 0, slots := 0, locals := 22 } : Room) (ro_P D (T4 cI cZ cL cO) (wM cI cZ a th n nw ns σ η) H [.ref (a 0), .int sg]) (ro_Q (zI (has ns sg)) H) 0 0 (fun _ => False) := by
  refine ro_of (cc := cX3_isSong) (maxL := 2) (by decide) rfl (Nat.le_of_ble_eq_true rfl) (zI_n _) ?_
  intro p e s m args below meth c Q ls locs hx hb hml hown hts hK hE hP hl hS hEnd
  have hl : lv_has ls 2 [(0, .ref (a 0)), (1, .int sg)] := hl
  have hX3 : ∀ w ∈ wsX30, w.before args s = true := fun w h => hts w (List.mem_cons_of_mem _ (List.mem_append_right _ (h)))
  have f61 : (Cond.fieldLink RX3 61 "LanternWalkModel" "songs" "I").before args s = true := hts _ (List.mem_of_getElem? (i := 1) rfl)
  refine lv_iload_n hx hb dX3_isSong_0 rfl (lv_at hl 1 rfl) ?_
  refine lv_iconst (v := nI 0) hx hb dX3_isSong_1 rfl ?_
  refine lv_aload_n hx hb dX3_isSong_2 rfl (lv_at hl 0 rfl) ?_
  refine li_gf3 hx hb hX3 hown hK hP 0 rfl 7 (by decide) f61 rfl dX3_isSong_3 ?_
  refine lv_iconst (v := nI 1) hx hb dX3_isSong_6 rfl ?_
  refine lv_isub hx hb dX3_isSong_7 ?_
  refine roS (As := [.int sg, .int (nI 0), .int ((nI ns) - (nI 1))]) hx hb hml hown hts (c_X3_isIn l D cI cZ cL cO H sg (nI 0) ((nI ns) - (nI 1))) (va_cwS 3 hts gX3_isSong_X3_isIn rfl rfl rfl (by decide +kernel) ⟨by decide, by decide⟩) hK hE (hP.sub (ws' := []) [] rfl) rfl hl.1 rfl (Nat.le_of_ble_eq_true rfl) hS dX3_isSong_8 ⟨Nat.zero_le _, Nat.zero_le _⟩ (fun locs hS => ?_)
  refine li_topi (show zI (decide (¬ sg < (nI 0)) && decide (¬ ((nI ns) - (nI 1)) < sg)) = zI (has ns sg) from by rw [has_isIn (by omega)]) ?_
  exact hEnd 11 ls locs dX3_isSong_11 hS
set_option maxHeartbeats 4000000 in
set_option maxRecDepth 100000 in
theorem c_X3_ro (l : Launch) (D : va_G) (cI cZ cL cO : ClassId) (a : Nat → Nat) (th : Int32) (n nw ns : Nat) (σ η : Sg) (H : Heap) (sx : Nat) (q : Nat) (hB : n ≤ 10 ∧ nw ≤ 20 ∧ ns ≤ 6) (hsx : sx < 10) (hq : q < 5) : Met l yX3_ro wsX3_ro ({ frames := 0, cells := 0, slots := 0, locals := 0 } : Room) (ro_P D (T4 cI cZ cL cO) (wM cI cZ a th n nw ns σ η) H [.ref (a 0), .int (nI sx), .int (nI q)]) (ro_Q (σ (rid q) sx) H) 0 0 (fun _ => False) := by
  refine ro_of (cc := cX3_ro) (maxL := 3) (by decide) rfl (Nat.le_of_ble_eq_true rfl) rfl ?_
  intro p e s m args below meth c Q ls locs hx hb hml hown hts hK hE hP hl hS hEnd
  have hl : lv_has ls 3 [(0, .ref (a 0)), (1, .int (nI sx)), (2, .int (nI q))] := hl
  have hX3 : ∀ w ∈ wsX30, w.before args s = true := fun w h => hts w (List.mem_cons_of_mem _ (List.mem_append_right _ (h)))
  have f9 : (Cond.fieldLink RX3 9 "LanternWalkModel" "route" "[I").before args s = true := hts _ (List.mem_of_getElem? (i := 1) rfl)
  refine lv_aload_n hx hb dX3_ro_0 rfl (lv_at hl 0 rfl) ?_
  refine li_gf3 hx hb hX3 hown hK hP 0 rfl 2 (by decide) f9 rfl dX3_ro_1 ?_
  refine lv_iconst (v := nI 5) hx hb dX3_ro_4 rfl ?_
  refine lv_iload_n hx hb dX3_ro_5 rfl (lv_at hl 1 rfl) ?_
  refine lv_imul hx hb dX3_ro_6 ?_
  refine li_topi (pk_mul _ _) ?_
  refine lv_iload_n hx hb dX3_ro_7 rfl (lv_at hl 2 rfl) ?_
  refine lv_iadd hx hb dX3_ro_8 ?_
  refine li_topi (nI_add _ _) ?_
  refine li_ild hx hb hK hP 1 0 rfl rfl (by omega) (by decide) dX3_ro_9 ?_
  refine li_topi (show encR σ (5 * sx + q) = σ (rid q) sx from encR_at (by omega)) ?_
  exact hEnd 10 ls locs dX3_ro_10 hS
set_option maxHeartbeats 4000000 in
set_option maxRecDepth 100000 in
theorem c_X3_pe (l : Launch) (D : va_G) (cI cZ cL cO : ClassId) (a : Nat → Nat) (th : Int32) (n nw ns : Nat) (σ η : Sg) (H : Heap) (w : Nat) (q : Nat) (hB : n ≤ 10 ∧ nw ≤ 20 ∧ ns ≤ 6) (hw : w < nw) (hq : q < 8) : Met l yX3_pe wsX3_pe ({ frames := 0, cells := 0, slots := 0, locals := 0 } : Room) (ro_P D (T4 cI cZ cL cO) (wM cI cZ a th n nw ns σ η) H [.ref (a 0), .int (nI w), .int (nI q)]) (ro_Q (σ (pid q) w) H) 0 0 (fun _ => False) := by
  refine ro_of (cc := cX3_pe) (maxL := 3) (by decide) rfl (Nat.le_of_ble_eq_true rfl) rfl ?_
  intro p e s m args below meth c Q ls locs hx hb hml hown hts hK hE hP hl hS hEnd
  have hl : lv_has ls 3 [(0, .ref (a 0)), (1, .int (nI w)), (2, .int (nI q))] := hl
  have hX3 : ∀ w ∈ wsX30, w.before args s = true := fun w h => hts w (List.mem_cons_of_mem _ (List.mem_append_right _ (h)))
  have f19 : (Cond.fieldLink RX3 19 "LanternWalkModel" "people" "[I").before args s = true := hts _ (List.mem_of_getElem? (i := 1) rfl)
  refine lv_aload_n hx hb dX3_pe_0 rfl (lv_at hl 0 rfl) ?_
  refine li_gf3 hx hb hX3 hown hK hP 0 rfl 6 (by decide) f19 rfl dX3_pe_1 ?_
  refine lv_bipush (v := nI 8) hx hb dX3_pe_4 rfl ?_
  refine lv_iload_n hx hb dX3_pe_6 rfl (lv_at hl 1 rfl) ?_
  refine lv_imul hx hb dX3_pe_7 ?_
  refine li_topi (pk_mul _ _) ?_
  refine lv_iload_n hx hb dX3_pe_8 rfl (lv_at hl 2 rfl) ?_
  refine lv_iadd hx hb dX3_pe_9 ?_
  refine li_topi (nI_add _ _) ?_
  refine li_ild hx hb hK hP 4 0 rfl rfl (by omega) (by decide) dX3_pe_10 ?_
  refine li_topi (show encP nw σ (8 * w + q) = σ (pid q) w from encP_at (by omega) (by omega)) ?_
  exact hEnd 11 ls locs dX3_pe_11 hS
set_option maxHeartbeats 4000000 in
set_option maxRecDepth 100000 in
theorem c_X3_set (l : Launch) (D : va_G) (cI cZ cL cO : ClassId) (a : Nat → Nat) (th : Int32) (n nw ns : Nat) (σ η : Sg) (H : Heap) (w : Nat) (q : Nat) (x : Int32) (A : Nat → Prop) (hA : okP A a 13) (hB : n ≤ 10 ∧ nw ≤ 20 ∧ ns ≤ 6) (hw : w < nw) (hq : q < 8) : Met l yX3_set wsX3_set ({ frames := 0, cells := 0, slots := 0, locals := 0 } : Room) (ro_P D (T4 cI cZ cL cO) (wM cI cZ a th n nw ns σ η) H [.ref (a 0), .int (nI w), .int (nI q), .int x]) (mu_Q D (wM cI cZ a th n nw ns (up2 σ (pid q) w x) η) A) 0 0 A := by
  refine mu_of (cc := cX3_set) (maxL := 4) (by decide) rfl (Nat.le_of_ble_eq_true rfl) ?_
  intro p e s m args below meth c Q ls locs hx hb hml hown hts hK hE hP hl hS hEnd
  have hl : lv_has ls 4 [(0, .ref (a 0)), (1, .int (nI w)), (2, .int (nI q)), (3, .int x)] := hl
  have hX3 : ∀ w ∈ wsX30, w.before args s = true := fun w h => hts w (List.mem_cons_of_mem _ (List.mem_append_right _ (h)))
  have f19 : (Cond.fieldLink RX3 19 "LanternWalkModel" "people" "[I").before args s = true := hts _ (List.mem_of_getElem? (i := 1) rfl)
  refine lv_aload_n hx hb dX3_set_0 rfl (lv_at hl 0 rfl) ?_
  refine li_gf3 hx hb hX3 hown hK hP 0 rfl 6 (by decide) f19 rfl dX3_set_1 ?_
  refine lv_bipush (v := nI 8) hx hb dX3_set_4 rfl ?_
  refine lv_iload_n hx hb dX3_set_6 rfl (lv_at hl 1 rfl) ?_
  refine lv_imul hx hb dX3_set_7 ?_
  refine li_topi (pk_mul _ _) ?_
  refine lv_iload_n hx hb dX3_set_8 rfl (lv_at hl 2 rfl) ?_
  refine lv_iadd hx hb dX3_set_9 ?_
  refine li_topi (nI_add _ _) ?_
  refine lv_iload_n hx hb dX3_set_10 rfl (lv_at hl 3 rfl) ?_
  refine li_ist hx hb hK hP hA.DM hS 4 0 rfl rfl (by omega) (by decide) (stM_P (by omega) (by omega)) dX3_set_11 (fun G locs hP hS => ?_)
  exact hEnd 12 ls G locs dX3_set_12 hP hS
set_option maxHeartbeats 4000000 in
set_option maxRecDepth 100000 in
theorem c_X3_places (l : Launch) (D : va_G) (cI cZ cL cO : ClassId) (a : Nat → Nat) (th : Int32) (n nw ns : Nat) (σ η : Sg) (H : Heap) (hB : n ≤ 10 ∧ nw ≤ 20 ∧ ns ≤ 6) : Met l yX3_places wsX3_places ({ frames := 1, cells := 0, slots := 0, locals := 22 } : Room) (ro_P D (T4 cI cZ cL cO) (wM cI cZ a th n nw ns σ η) H [.ref (a 0)]) (ro_Q (plv σ n) H) 0 0 (fun _ => False) := by
  refine ro_of (cc := cX3_places) (maxL := 1) (by decide) rfl (Nat.le_of_ble_eq_true rfl) rfl ?_
  intro p e s m args below meth c Q ls locs hx hb hml hown hts hK hE hP hl hS hEnd
  have hl : lv_has ls 1 [(0, .ref (a 0))] := hl
  have hX3 : ∀ w ∈ wsX30, w.before args s = true := fun w h => hts w (List.mem_cons_of_mem _ (List.mem_append_right _ (h)))
  have f51 : (Cond.fieldLink RX3 51 "LanternWalkModel" "stretches" "I").before args s = true := hts _ (List.mem_of_getElem? (i := 1) rfl)
  refine lv_aload_n hx hb dX3_places_0 rfl (lv_at hl 0 rfl) ?_
  refine li_gf3 hx hb hX3 hown hK hP 0 rfl 1 (by decide) f51 rfl dX3_places_1 ?_
  refine li_ne0 (tgt := 11) hx hb dX3_places_4 (by decide) (by omega) (fun c1 => ?_) (fun c1 => ?_)
  · skip
    refine lv_aload_n hx hb dX3_places_11 rfl (lv_at hl 0 rfl) ?_
    refine lv_aload_n hx hb dX3_places_12 rfl (lv_at hl 0 rfl) ?_
    refine li_gf3 hx hb hX3 hown hK hP 0 rfl 1 (by decide) f51 rfl dX3_places_13 ?_
    refine lv_iconst (v := nI 1) hx hb dX3_places_16 rfl ?_
    refine lv_isub hx hb dX3_places_17 ?_
    refine li_topi (show (nI n) - (nI 1) = nI (n - 1) from pk_sub (by omega)) ?_
    refine lv_iconst (v := nI 2) hx hb dX3_places_18 rfl ?_
    refine roV (As := [.int (nI (n - 1)), .int (nI 2)]) (q0 := 0) (ci := 3) hx hb hml hown hts (c_X3_ro l D cI cZ cL cO a th n nw ns σ η H (n - 1) 2 (hB) (by omega) (by omega)) (cwV 2 hts gX3_places_X3_ro rfl rfl rfl (by decide +kernel) ⟨by decide, by decide⟩) hK hE hP rfl rfl rfl rfl hl.1 rfl (Nat.le_of_ble_eq_true rfl) hS dX3_places_19 ⟨Nat.zero_le _, Nat.zero_le _⟩ (fun locs hS => ?_)
    refine li_topi (show σ (rid 2) (n - 1) = σ 2 (n - 1) from rfl) ?_
    refine lv_aload_n hx hb dX3_places_22 rfl (lv_at hl 0 rfl) ?_
    refine lv_aload_n hx hb dX3_places_23 rfl (lv_at hl 0 rfl) ?_
    refine li_gf3 hx hb hX3 hown hK hP 0 rfl 1 (by decide) f51 rfl dX3_places_24 ?_
    refine lv_iconst (v := nI 1) hx hb dX3_places_27 rfl ?_
    refine lv_isub hx hb dX3_places_28 ?_
    refine li_topi (show (nI n) - (nI 1) = nI (n - 1) from pk_sub (by omega)) ?_
    refine lv_iconst (v := nI 0) hx hb dX3_places_29 rfl ?_
    refine roV (As := [.int (nI (n - 1)), .int (nI 0)]) (q0 := 0) (ci := 3) hx hb hml hown hts (c_X3_ro l D cI cZ cL cO a th n nw ns σ η H (n - 1) 0 (hB) (by omega) (by omega)) (cwV 2 hts gX3_places_X3_ro rfl rfl rfl (by decide +kernel) ⟨by decide, by decide⟩) hK hE hP rfl rfl rfl rfl hl.1 rfl (Nat.le_of_ble_eq_true rfl) hS dX3_places_30 ⟨Nat.zero_le _, Nat.zero_le _⟩ (fun locs hS => ?_)
    refine li_topi (show σ (rid 0) (n - 1) = σ 0 (n - 1) from rfl) ?_
    refine lv_iadd hx hb dX3_places_33 ?_
    refine li_topi (show (σ 2 (n - 1)) + (σ 0 (n - 1)) = plv σ n from by unfold plv; first | rw [if_pos (by assumption)] | rw [if_neg (by assumption)]) ?_
    exact hEnd 34 ls locs dX3_places_34 hS
  · skip
    refine lv_iconst (v := nI 0) hx hb dX3_places_7 rfl ?_
    refine lv_goto (tgt := 34) hx hb dX3_places_8 (by decide) ?_
    refine li_topi (show nI 0 = plv σ n from by unfold plv; first | rw [if_pos (by assumption)] | rw [if_neg (by assumption)]) ?_
    exact hEnd 34 ls locs dX3_places_34 hS
set_option maxHeartbeats 4000000 in
set_option maxRecDepth 100000 in
theorem c_X3_walks (l : Launch) (D : va_G) (cI cZ cL cO : ClassId) (a : Nat → Nat) (th : Int32) (n nw ns : Nat) (σ η : Sg) (H : Heap) (w : Nat) (hB : n ≤ 10 ∧ nw ≤ 20 ∧ ns ≤ 6) (hw : w < nw) : Met l yX3_walks wsX3_walks ({ frames := 1, cells := 0, slots := 0, locals := 22 } : Room) (ro_P D (T4 cI cZ cL cO) (wM cI cZ a th n nw ns σ η) H [.ref (a 0), .int (nI w)]) (ro_Q (zI (decide (σ 12 w = nI 1))) H) 0 0 (fun _ => False) := by
  refine ro_of (cc := cX3_walks) (maxL := 2) (by decide) rfl (Nat.le_of_ble_eq_true rfl) (zI_n _) ?_
  intro p e s m args below meth c Q ls locs hx hb hml hown hts hK hE hP hl hS hEnd
  have hl : lv_has ls 2 [(0, .ref (a 0)), (1, .int (nI w))] := hl
  refine lv_aload_n hx hb dX3_walks_0 rfl (lv_at hl 0 rfl) ?_
  refine lv_iload_n hx hb dX3_walks_1 rfl (lv_at hl 1 rfl) ?_
  refine lv_iconst (v := nI 4) hx hb dX3_walks_2 rfl ?_
  refine roV (As := [.int (nI w), .int (nI 4)]) (q0 := 0) (ci := 3) hx hb hml hown hts (c_X3_pe l D cI cZ cL cO a th n nw ns σ η H w 4 (hB) (by omega) (by omega)) (cwV 2 hts gX3_walks_X3_pe rfl rfl rfl (by decide +kernel) ⟨by decide, by decide⟩) hK hE hP rfl rfl rfl rfl hl.1 rfl (Nat.le_of_ble_eq_true rfl) hS dX3_walks_3 ⟨Nat.zero_le _, Nat.zero_le _⟩ (fun locs hS => ?_)
  refine li_topi (show σ (pid 4) w = σ 12 w from rfl) ?_
  refine lv_iconst (v := nI 1) hx hb dX3_walks_6 rfl ?_
  refine lv_icmp_ne (tgt := 14) hx hb dX3_walks_7 (by decide) (fun c1 => ?_) (fun c1 => ?_)
  · skip
    refine lv_iconst (v := nI 0) hx hb dX3_walks_14 rfl ?_
    refine li_topi (show nI 0 = zI (decide (σ 12 w = nI 1)) from by simp [zI, c1]) ?_
    exact hEnd 15 ls locs dX3_walks_15 hS
  · skip
    refine lv_iconst (v := nI 1) hx hb dX3_walks_10 rfl ?_
    refine lv_goto (tgt := 15) hx hb dX3_walks_11 (by decide) ?_
    refine li_topi (show nI 1 = zI (decide (σ 12 w = nI 1)) from by simp [zI, c1]) ?_
    exact hEnd 15 ls locs dX3_walks_15 hS
set_option maxHeartbeats 4000000 in
set_option maxRecDepth 100000 in
theorem c_X3_at (l : Launch) (D : va_G) (cI cZ cL cO : ClassId) (a : Nat → Nat) (th : Int32) (n nw ns : Nat) (σ η : Sg) (H : Heap) (z : Int32) (hB : n ≤ 10 ∧ nw ≤ 20 ∧ ns ≤ 6) : Met l yX3_at wsX3_at ({ frames := 2, cells := 0, slots := 0, locals := 43 } : Room) (ro_P D (T4 cI cZ cL cO) (wM cI cZ a th n nw ns σ η) H [.ref (a 0), .int z]) (ro_Q (nI (wa σ nw z)) H) 0 0 (fun _ => False) := by
  refine ro_of (cc := cX3_at) (maxL := 4) (by decide) rfl (Nat.le_of_ble_eq_true rfl) rfl ?_
  intro p e s m args below meth c Q ls locs hx hb hml hown hts hK hE hP hl hS hEnd
  have hl : lv_has ls 4 [(0, .ref (a 0)), (1, .int z)] := hl
  have hX3 : ∀ w ∈ wsX30, w.before args s = true := fun w h => hts w (List.mem_cons_of_mem _ (List.mem_append_right _ (h)))
  have f58 : (Cond.fieldLink RX3 58 "LanternWalkModel" "walkers" "I").before args s = true := hts _ (List.mem_of_getElem? (i := 1) rfl)
  refine lv_iconst (v := nI 0) hx hb dX3_at_0 rfl ?_
  refine lv_istore_n (lv' := [(2, .int (nI 0)), (0, .ref (a 0)), (1, .int z)]) hx hb dX3_at_1 rfl hl (by decide) rfl (fun ls hl => ?_)
  refine lv_iconst (v := nI 0) hx hb dX3_at_2 rfl ?_
  refine lv_istore_n (lv' := [(3, .int (nI 0)), (2, .int (nI 0)), (0, .ref (a 0)), (1, .int z)]) hx hb dX3_at_3 rfl hl (by decide) rfl (fun ls hl => ?_)
  have L4_1 : ∀ (fuel : Nat) (k : Nat), (nw - k) < fuel → (k ≤ nw) → ∀ (locs : List Loc), va_S (fun _ => False) H H locs → ∀ (ls : Array Slot), lv_has ls 4 [(3, .int (nI k)), (2, .int (nI (cnt (waS σ z) k))), (0, .ref (a 0)), (1, .int z)] → W p l e ({ frames := 2, cells := 0, slots := 0, locals := 43 } : Room) s m args below meth c H locs 0 0 Q (F0 m 4 ls []) := by
    intro fuel
    induction fuel with
    | zero =>
      intro k hfuel
      exact absurd hfuel (Nat.not_lt_zero _)
    | succ fuel ih4 =>
      intro k hfuel4 hk locs hS ls hl
      refine lv_iload_n hx hb dX3_at_4 rfl (lv_at hl 0 rfl) ?_
      refine lv_aload_n hx hb dX3_at_5 rfl (lv_at hl 2 rfl) ?_
      refine li_gf3 hx hb hX3 hown hK hP 0 rfl 5 (by decide) f58 rfl dX3_at_6 ?_
      refine li_ge (tgt := 44) hx hb dX3_at_9 (by decide) (by omega) (by omega) (fun c2 => ?_) (fun c2 => ?_)
      · skip
        refine lv_iload_n hx hb dX3_at_44 rfl (lv_at hl 1 rfl) ?_
        refine li_topi (show nI (cnt (waS σ z) k) = nI (wa σ nw z) from by rw [show k = nw by omega]; rfl) ?_
        exact hEnd 45 ls locs dX3_at_45 hS
      · skip
        refine lv_iload_n hx hb dX3_at_12 rfl (lv_at hl 1 rfl) ?_
        refine lv_aload_n hx hb dX3_at_13 rfl (lv_at hl 2 rfl) ?_
        refine lv_iload_n hx hb dX3_at_14 rfl (lv_at hl 0 rfl) ?_
        refine roV (As := [.int (nI k)]) (q0 := 0) (ci := 3) hx hb hml hown hts (c_X3_walks l D cI cZ cL cO a th n nw ns σ η H k (hB) (by omega)) (cwV 1 hts gX3_at_X3_walks rfl rfl rfl (by decide +kernel) ⟨by decide, by decide⟩) hK hE hP rfl rfl rfl rfl hl.1 rfl (Nat.le_of_ble_eq_true rfl) hS dX3_at_15 ⟨Nat.zero_le _, Nat.zero_le _⟩ (fun locs hS => ?_)
        refine li_zeq (tgt := 35) hx hb dX3_at_18 (by decide) (fun c3 => ?_) (fun c3 => ?_)
        · skip
          replace c3 := of_decide_eq_false c3
          refine lv_iconst (v := nI 0) hx hb dX3_at_35 rfl ?_
          refine lv_iadd hx hb dX3_at_36 ?_
          refine li_topi (nI_add _ _) ?_
          refine lv_istore_n (lv' := [(2, .int (nI ((cnt (waS σ z) k) + 0))), (3, .int (nI k)), (0, .ref (a 0)), (1, .int z)]) hx hb dX3_at_37 rfl hl (by decide) rfl (fun ls hl => ?_)
          refine lv_iinc (v := nI (k + 1)) (lv' := [(3, .int (nI (k + 1))), (2, .int (nI ((cnt (waS σ z) k) + 0))), (0, .ref (a 0)), (1, .int z)]) hx hb dX3_at_38 hl (k := 1) rfl (nI_inc _ _) (by decide) rfl (fun ls hl => ?_)
          refine lv_goto (tgt := 4) hx hb dX3_at_41 (by decide) ?_
          have hl9 : lv_has ls 4 [(3, .int (nI (k + 1))), (2, .int (nI ((cnt (waS σ z) k) + 0))), (0, .ref (a 0)), (1, .int z)] := lv_sub hl [0, 1, 2, 3] rfl
          have hl9 : lv_has ls 4 [(3, .int (nI (k + 1))), (2, .int (nI (cnt (waS σ z) (k + 1)))), (0, .ref (a 0)), (1, .int z)] := lv_re hl9 1 rfl (show nI ((cnt (waS σ z) k) + 0) = nI (cnt (waS σ z) (k + 1)) from by first | exact cnt_t (by simp [waS, c2, c3]) | exact cnt_f (by simp [waS, c2, c3]))
          exact ih4 (k + 1) (by omega) (by omega) locs hS ls hl9
        · skip
          replace c3 := of_decide_eq_true c3
          refine lv_aload_n hx hb dX3_at_21 rfl (lv_at hl 2 rfl) ?_
          refine lv_iload_n hx hb dX3_at_22 rfl (lv_at hl 0 rfl) ?_
          refine lv_iconst (v := nI 5) hx hb dX3_at_23 rfl ?_
          refine roV (As := [.int (nI k), .int (nI 5)]) (q0 := 0) (ci := 3) hx hb hml hown hts (c_X3_pe l D cI cZ cL cO a th n nw ns σ η H k 5 (hB) (by omega) (by omega)) (cwV 2 hts gX3_at_X3_pe rfl rfl rfl (by decide +kernel) ⟨by decide, by decide⟩) hK hE hP rfl rfl rfl rfl hl.1 rfl (Nat.le_of_ble_eq_true rfl) hS dX3_at_24 ⟨Nat.zero_le _, Nat.zero_le _⟩ (fun locs hS => ?_)
          refine li_topi (show σ (pid 5) k = σ 13 k from rfl) ?_
          refine lv_iload_n hx hb dX3_at_27 rfl (lv_at hl 3 rfl) ?_
          refine lv_icmp_ne (tgt := 35) hx hb dX3_at_28 (by decide) (fun c4 => ?_) (fun c4 => ?_)
          · skip
            refine lv_iconst (v := nI 0) hx hb dX3_at_35 rfl ?_
            refine lv_iadd hx hb dX3_at_36 ?_
            refine li_topi (nI_add _ _) ?_
            refine lv_istore_n (lv' := [(2, .int (nI ((cnt (waS σ z) k) + 0))), (3, .int (nI k)), (0, .ref (a 0)), (1, .int z)]) hx hb dX3_at_37 rfl hl (by decide) rfl (fun ls hl => ?_)
            refine lv_iinc (v := nI (k + 1)) (lv' := [(3, .int (nI (k + 1))), (2, .int (nI ((cnt (waS σ z) k) + 0))), (0, .ref (a 0)), (1, .int z)]) hx hb dX3_at_38 hl (k := 1) rfl (nI_inc _ _) (by decide) rfl (fun ls hl => ?_)
            refine lv_goto (tgt := 4) hx hb dX3_at_41 (by decide) ?_
            have hl9 : lv_has ls 4 [(3, .int (nI (k + 1))), (2, .int (nI ((cnt (waS σ z) k) + 0))), (0, .ref (a 0)), (1, .int z)] := lv_sub hl [0, 1, 2, 3] rfl
            have hl9 : lv_has ls 4 [(3, .int (nI (k + 1))), (2, .int (nI (cnt (waS σ z) (k + 1)))), (0, .ref (a 0)), (1, .int z)] := lv_re hl9 1 rfl (show nI ((cnt (waS σ z) k) + 0) = nI (cnt (waS σ z) (k + 1)) from by first | exact cnt_t (by simp [waS, c2, c3, c4]) | exact cnt_f (by simp [waS, c2, c3, c4]))
            exact ih4 (k + 1) (by omega) (by omega) locs hS ls hl9
          · skip
            refine lv_iconst (v := nI 1) hx hb dX3_at_31 rfl ?_
            refine lv_goto (tgt := 36) hx hb dX3_at_32 (by decide) ?_
            refine lv_iadd hx hb dX3_at_36 ?_
            refine li_topi (nI_add _ _) ?_
            refine lv_istore_n (lv' := [(2, .int (nI ((cnt (waS σ z) k) + 1))), (3, .int (nI k)), (0, .ref (a 0)), (1, .int z)]) hx hb dX3_at_37 rfl hl (by decide) rfl (fun ls hl => ?_)
            refine lv_iinc (v := nI (k + 1)) (lv' := [(3, .int (nI (k + 1))), (2, .int (nI ((cnt (waS σ z) k) + 1))), (0, .ref (a 0)), (1, .int z)]) hx hb dX3_at_38 hl (k := 1) rfl (nI_inc _ _) (by decide) rfl (fun ls hl => ?_)
            refine lv_goto (tgt := 4) hx hb dX3_at_41 (by decide) ?_
            have hl9 : lv_has ls 4 [(3, .int (nI (k + 1))), (2, .int (nI ((cnt (waS σ z) k) + 1))), (0, .ref (a 0)), (1, .int z)] := lv_sub hl [0, 1, 2, 3] rfl
            have hl9 : lv_has ls 4 [(3, .int (nI (k + 1))), (2, .int (nI (cnt (waS σ z) (k + 1)))), (0, .ref (a 0)), (1, .int z)] := lv_re hl9 1 rfl (show nI ((cnt (waS σ z) k) + 1) = nI (cnt (waS σ z) (k + 1)) from by first | exact cnt_t (by simp [waS, c2, c3, c4]) | exact cnt_f (by simp [waS, c2, c3, c4]))
            exact ih4 (k + 1) (by omega) (by omega) locs hS ls hl9
  have hl9 : lv_has ls 4 [(3, .int (nI 0)), (2, .int (nI 0)), (0, .ref (a 0)), (1, .int z)] := lv_sub hl [0, 1, 2, 3] rfl
  have hl9 : lv_has ls 4 [(3, .int (nI 0)), (2, .int (nI (cnt (waS σ z) 0))), (0, .ref (a 0)), (1, .int z)] := lv_re hl9 1 rfl (show nI 0 = nI (cnt (waS σ z) 0) from rfl)
  exact L4_1 ((nw - 0) + 1) 0 (Nat.lt_succ_self _) (by omega) locs hS ls hl9
set_option maxHeartbeats 4000000 in
set_option maxRecDepth 100000 in
theorem c_X3_stretchOf (l : Launch) (D : va_G) (cI cZ cL cO : ClassId) (a : Nat → Nat) (th : Int32) (n nw ns : Nat) (σ η : Sg) (H : Heap) (z : Int32) (hB : n ≤ 10 ∧ nw ≤ 20 ∧ ns ≤ 6) (j0 : Nat) (hso : so σ n z = some j0) : Met l yX3_stretchOf wsX3_stretchOf ({ frames := 1, cells := 0, slots := 0, locals := 22 } : Room) (ro_P D (T4 cI cZ cL cO) (wM cI cZ a th n nw ns σ η) H [.ref (a 0), .int z]) (ro_Q (nI j0) H) 0 0 (fun _ => False) := by
  refine ro_of (cc := cX3_stretchOf) (maxL := 3) (by decide) rfl (Nat.le_of_ble_eq_true rfl) rfl ?_
  intro p e s m args below meth c Q ls locs hx hb hml hown hts hK hE hP hl hS hEnd
  have hl : lv_has ls 3 [(0, .ref (a 0)), (1, .int z)] := hl
  refine lv_iconst (v := nI 0) hx hb dX3_stretchOf_0 rfl ?_
  refine lv_istore_n (lv' := [(2, .int (nI 0)), (0, .ref (a 0)), (1, .int z)]) hx hb dX3_stretchOf_1 rfl hl (by decide) rfl (fun ls hl => ?_)
  have L2_1 : ∀ (fuel : Nat) (k : Nat), (n - k) < fuel → (k ≤ n) → (fnd (soS σ z) k = none) → ∀ (locs : List Loc), va_S (fun _ => False) H H locs → ∀ (ls : Array Slot), lv_has ls 3 [(2, .int (nI k)), (0, .ref (a 0)), (1, .int z)] → W p l e ({ frames := 1, cells := 0, slots := 0, locals := 22 } : Room) s m args below meth c H locs 0 0 Q (F0 m 2 ls []) := by
    intro fuel
    induction fuel with
    | zero =>
      intro k hfuel
      exact absurd hfuel (Nat.not_lt_zero _)
    | succ fuel ih2 =>
      intro k hfuel2 hk ha locs hS ls hl
      have hkn : k < n := by
        rcases Nat.lt_or_ge k n with q | q
        · exact q
        · have : k = n := by omega
          subst this
          exact absurd (ha.symm.trans hso) (by simp)
      refine lv_iload_n hx hb dX3_stretchOf_2 rfl (lv_at hl 2 rfl) ?_
      refine lv_aload_n hx hb dX3_stretchOf_3 rfl (lv_at hl 1 rfl) ?_
      refine lv_iload_n hx hb dX3_stretchOf_4 rfl (lv_at hl 0 rfl) ?_
      refine lv_iconst (v := nI 2) hx hb dX3_stretchOf_5 rfl ?_
      refine roV (As := [.int (nI k), .int (nI 2)]) (q0 := 0) (ci := 3) hx hb hml hown hts (c_X3_ro l D cI cZ cL cO a th n nw ns σ η H k 2 (hB) (by omega) (by omega)) (cwV 2 hts gX3_stretchOf_X3_ro rfl rfl rfl (by decide +kernel) ⟨by decide, by decide⟩) hK hE hP rfl rfl rfl rfl hl.1 rfl (Nat.le_of_ble_eq_true rfl) hS dX3_stretchOf_6 ⟨Nat.zero_le _, Nat.zero_le _⟩ (fun locs hS => ?_)
      refine li_topi (show σ (rid 2) k = σ 2 k from rfl) ?_
      refine lv_aload_n hx hb dX3_stretchOf_9 rfl (lv_at hl 1 rfl) ?_
      refine lv_iload_n hx hb dX3_stretchOf_10 rfl (lv_at hl 0 rfl) ?_
      refine lv_iconst (v := nI 0) hx hb dX3_stretchOf_11 rfl ?_
      refine roV (As := [.int (nI k), .int (nI 0)]) (q0 := 0) (ci := 3) hx hb hml hown hts (c_X3_ro l D cI cZ cL cO a th n nw ns σ η H k 0 (hB) (by omega) (by omega)) (cwV 2 hts gX3_stretchOf_X3_ro rfl rfl rfl (by decide +kernel) ⟨by decide, by decide⟩) hK hE hP rfl rfl rfl rfl hl.1 rfl (Nat.le_of_ble_eq_true rfl) hS dX3_stretchOf_12 ⟨Nat.zero_le _, Nat.zero_le _⟩ (fun locs hS => ?_)
      refine li_topi (show σ (rid 0) k = σ 0 k from rfl) ?_
      refine lv_iadd hx hb dX3_stretchOf_15 ?_
      refine lv_icmp_lt (tgt := 25) hx hb dX3_stretchOf_16 (by decide) (fun c2 => ?_) (fun c2 => ?_)
      · skip
        refine lv_iload_n hx hb dX3_stretchOf_25 rfl (lv_at hl 0 rfl) ?_
        refine li_topi (show nI k = nI j0 from by have h9 : so σ n z = some k := fnd_s hkn ha (by simp [soS, c2]); rw [Option.some.inj (h9.symm.trans hso)]) ?_
        exact hEnd 26 ls locs dX3_stretchOf_26 hS
      · skip
        refine lv_iinc (v := nI (k + 1)) (lv' := [(2, .int (nI (k + 1))), (0, .ref (a 0)), (1, .int z)]) hx hb dX3_stretchOf_19 hl (k := 0) rfl (nI_inc _ _) (by decide) rfl (fun ls hl => ?_)
        refine lv_goto (tgt := 2) hx hb dX3_stretchOf_22 (by decide) ?_
        have hl9 : lv_has ls 3 [(2, .int (nI (k + 1))), (0, .ref (a 0)), (1, .int z)] := lv_sub hl [0, 1, 2] rfl
        exact ih2 (k + 1) (by omega) (by omega) (fnd_n ha (by simp [soS, c2])) locs hS ls hl9
  have hl9 : lv_has ls 3 [(2, .int (nI 0)), (0, .ref (a 0)), (1, .int z)] := lv_sub hl [0, 1, 2] rfl
  exact L2_1 ((n - 0) + 1) 0 (Nat.lt_succ_self _) (by omega) (rfl) locs hS ls hl9
set_option maxHeartbeats 4000000 in
set_option maxRecDepth 100000 in
theorem c_X3_lets (l : Launch) (D : va_G) (cI cZ cL cO : ClassId) (a : Nat → Nat) (th : Int32) (n nw ns : Nat) (σ η : Sg) (H : Heap) (sx : Nat) (hB : n ≤ 10 ∧ nw ≤ 20 ∧ ns ≤ 6) (hsx : sx < 10) : Met l yX3_lets wsX3_lets ({ frames := 1, cells := 0, slots := 0, locals := 22 } : Room) (ro_P D (T4 cI cZ cL cO) (wM cI cZ a th n nw ns σ η) H [.ref (a 0), .int (nI sx)]) (ro_Q (lt_ σ sx 2) H) 0 0 (fun _ => False) := by
  refine ro_of (cc := cX3_lets) (maxL := 2) (by decide) rfl (Nat.le_of_ble_eq_true rfl) rfl ?_
  intro p e s m args below meth c Q ls locs hx hb hml hown hts hK hE hP hl hS hEnd
  have hl : lv_has ls 2 [(0, .ref (a 0)), (1, .int (nI sx))] := hl
  have hX3 : ∀ w ∈ wsX30, w.before args s = true := fun w h => hts w (List.mem_cons_of_mem _ (List.mem_append_right _ (h)))
  have f13 : (Cond.fieldLink RX3 13 "LanternWalkModel" "stewards" "[I").before args s = true := hts _ (List.mem_of_getElem? (i := 1) rfl)
  refine lv_aload_n hx hb dX3_lets_0 rfl (lv_at hl 0 rfl) ?_
  refine lv_iload_n hx hb dX3_lets_1 rfl (lv_at hl 1 rfl) ?_
  refine lv_iconst (v := nI 1) hx hb dX3_lets_2 rfl ?_
  refine roV (As := [.int (nI sx), .int (nI 1)]) (q0 := 0) (ci := 3) hx hb hml hown hts (c_X3_ro l D cI cZ cL cO a th n nw ns σ η H sx 1 (hB) (by omega) (by omega)) (cwV 2 hts gX3_lets_X3_ro rfl rfl rfl (by decide +kernel) ⟨by decide, by decide⟩) hK hE hP rfl rfl rfl rfl hl.1 rfl (Nat.le_of_ble_eq_true rfl) hS dX3_lets_3 ⟨Nat.zero_le _, Nat.zero_le _⟩ (fun locs hS => ?_)
  refine li_topi (show σ (rid 1) sx = σ 1 sx from rfl) ?_
  refine lv_aload_n hx hb dX3_lets_6 rfl (lv_at hl 0 rfl) ?_
  refine li_gf3 hx hb hX3 hown hK hP 0 rfl 3 (by decide) f13 rfl dX3_lets_7 ?_
  refine lv_iconst (v := nI 0) hx hb dX3_lets_10 rfl ?_
  refine li_ild hx hb hK hP 2 0 rfl rfl (by omega) (by decide) dX3_lets_11 ?_
  refine lv_iload_n hx hb dX3_lets_12 rfl (lv_at hl 1 rfl) ?_
  refine lv_icmp_ne (tgt := 20) hx hb dX3_lets_13 (by decide) (fun c1 => ?_) (fun c1 => ?_)
  · skip
    refine lv_iconst (v := nI 0) hx hb dX3_lets_20 rfl ?_
    refine lv_iadd hx hb dX3_lets_21 ?_
    refine lv_aload_n hx hb dX3_lets_22 rfl (lv_at hl 0 rfl) ?_
    refine li_gf3 hx hb hX3 hown hK hP 0 rfl 3 (by decide) f13 rfl dX3_lets_23 ?_
    refine lv_iconst (v := nI 1) hx hb dX3_lets_26 rfl ?_
    refine li_ild hx hb hK hP 2 0 rfl rfl (by omega) (by decide) dX3_lets_27 ?_
    refine lv_iload_n hx hb dX3_lets_28 rfl (lv_at hl 1 rfl) ?_
    refine lv_icmp_ne (tgt := 36) hx hb dX3_lets_29 (by decide) (fun c2 => ?_) (fun c2 => ?_)
    · skip
      refine lv_iconst (v := nI 0) hx hb dX3_lets_36 rfl ?_
      refine lv_iadd hx hb dX3_lets_37 ?_
      refine li_topi (show ((σ 1 sx) + (nI 0)) + (nI 0) = lt_ σ sx 2 from by simp [lt_, nI_0, c1, c2]; try rfl) ?_
      exact hEnd 38 ls locs dX3_lets_38 hS
    · skip
      refine lv_iconst (v := nI 1) hx hb dX3_lets_32 rfl ?_
      refine lv_goto (tgt := 37) hx hb dX3_lets_33 (by decide) ?_
      refine lv_iadd hx hb dX3_lets_37 ?_
      refine li_topi (show ((σ 1 sx) + (nI 0)) + (nI 1) = lt_ σ sx 2 from by simp [lt_, nI_0, c1, c2]; try rfl) ?_
      exact hEnd 38 ls locs dX3_lets_38 hS
  · skip
    refine lv_iconst (v := nI 1) hx hb dX3_lets_16 rfl ?_
    refine lv_goto (tgt := 21) hx hb dX3_lets_17 (by decide) ?_
    refine lv_iadd hx hb dX3_lets_21 ?_
    refine lv_aload_n hx hb dX3_lets_22 rfl (lv_at hl 0 rfl) ?_
    refine li_gf3 hx hb hX3 hown hK hP 0 rfl 3 (by decide) f13 rfl dX3_lets_23 ?_
    refine lv_iconst (v := nI 1) hx hb dX3_lets_26 rfl ?_
    refine li_ild hx hb hK hP 2 0 rfl rfl (by omega) (by decide) dX3_lets_27 ?_
    refine lv_iload_n hx hb dX3_lets_28 rfl (lv_at hl 1 rfl) ?_
    refine lv_icmp_ne (tgt := 36) hx hb dX3_lets_29 (by decide) (fun c3 => ?_) (fun c3 => ?_)
    · skip
      refine lv_iconst (v := nI 0) hx hb dX3_lets_36 rfl ?_
      refine lv_iadd hx hb dX3_lets_37 ?_
      refine li_topi (show ((σ 1 sx) + (nI 1)) + (nI 0) = lt_ σ sx 2 from by simp [lt_, nI_0, c1, c3]; try rfl) ?_
      exact hEnd 38 ls locs dX3_lets_38 hS
    · skip
      refine lv_iconst (v := nI 1) hx hb dX3_lets_32 rfl ?_
      refine lv_goto (tgt := 37) hx hb dX3_lets_33 (by decide) ?_
      refine lv_iadd hx hb dX3_lets_37 ?_
      refine li_topi (show ((σ 1 sx) + (nI 1)) + (nI 1) = lt_ σ sx 2 from by simp [lt_, nI_0, c1, c3]; try rfl) ?_
      exact hEnd 38 ls locs dX3_lets_38 hS
set_option maxHeartbeats 4000000 in
set_option maxRecDepth 100000 in
theorem c_X3_isNeighbour (l : Launch) (D : va_G) (cI cZ cL cO : ClassId) (a : Nat → Nat) (th : Int32) (n nw ns : Nat) (σ η : Sg) (H : Heap) (w : Nat) (o9 : Nat) (hB : n ≤ 10 ∧ nw ≤ 20 ∧ ns ≤ 6) (hw : w < nw) (ho : o9 < nw) : Met l yX3_isNeighbour wsX3_isNeighbour ({ frames := 2, cells := 0, slots := 0, locals := 43 } : Room) (ro_P D (T4 cI cZ cL cO) (wM cI cZ a th n nw ns σ η) H [.ref (a 0), .int (nI w), .int (nI o9)]) (ro_Q (zI (nbr σ w o9)) H) 0 0 (fun _ => False) := by
  refine ro_of (cc := cX3_isNeighbour) (maxL := 3) (by decide) rfl (Nat.le_of_ble_eq_true rfl) (zI_n _) ?_
  intro p e s m args below meth c Q ls locs hx hb hml hown hts hK hE hP hl hS hEnd
  have hl : lv_has ls 3 [(0, .ref (a 0)), (1, .int (nI w)), (2, .int (nI o9))] := hl
  have g0 : (Cond.methodLink RX3 116 Lib.Math.abs.name).before args s = true := hts _ (List.mem_of_getElem? (i := 1) rfl)
  have g1 : (Cond.static Lib.Math.abs.name).before args s = true := hts _ (List.mem_of_getElem? (i := 2) rfl)
  have g2 : (Cond.initialized "java/lang/Math").before args s = true := hts _ (List.mem_of_getElem? (i := 3) rfl)
  have g3 : (Cond.code Lib.Math.abs.name Lib.Math.abs.code 1 (some .int)).before args s = true := hts _ (List.mem_of_getElem? (i := 4) rfl)
  refine lv_iload_n hx hb dX3_isNeighbour_0 rfl (lv_at hl 1 rfl) ?_
  refine lv_iload_n hx hb dX3_isNeighbour_1 rfl (lv_at hl 2 rfl) ?_
  refine li_eq (tgt := 45) hx hb dX3_isNeighbour_2 (by decide) (by omega) (by omega) (fun c1 => ?_) (fun c1 => ?_)
  · skip
    refine lv_iconst (v := nI 0) hx hb dX3_isNeighbour_45 rfl ?_
    refine li_topi (show nI 0 = zI (nbr σ w o9) from by rw [nbr_abs]; simp [zI, c1]) ?_
    exact hEnd 46 ls locs dX3_isNeighbour_46 hS
  · skip
    refine lv_aload_n hx hb dX3_isNeighbour_5 rfl (lv_at hl 0 rfl) ?_
    refine lv_iload_n hx hb dX3_isNeighbour_6 rfl (lv_at hl 1 rfl) ?_
    refine roV (As := [.int (nI w)]) (q0 := 0) (ci := 3) hx hb hml hown hts (c_X3_walks l D cI cZ cL cO a th n nw ns σ η H w (hB) (by omega)) (cwV 1 hts gX3_isNeighbour_X3_walks rfl rfl rfl (by decide +kernel) ⟨by decide, by decide⟩) hK hE hP rfl rfl rfl rfl hl.1 rfl (Nat.le_of_ble_eq_true rfl) hS dX3_isNeighbour_7 ⟨Nat.zero_le _, Nat.zero_le _⟩ (fun locs hS => ?_)
    refine li_zeq (tgt := 45) hx hb dX3_isNeighbour_10 (by decide) (fun c2 => ?_) (fun c2 => ?_)
    · skip
      replace c2 := of_decide_eq_false c2
      refine lv_iconst (v := nI 0) hx hb dX3_isNeighbour_45 rfl ?_
      refine li_topi (show nI 0 = zI (nbr σ w o9) from by rw [nbr_abs]; simp [zI, c1, c2]) ?_
      exact hEnd 46 ls locs dX3_isNeighbour_46 hS
    · skip
      replace c2 := of_decide_eq_true c2
      refine lv_aload_n hx hb dX3_isNeighbour_13 rfl (lv_at hl 0 rfl) ?_
      refine lv_iload_n hx hb dX3_isNeighbour_14 rfl (lv_at hl 2 rfl) ?_
      refine roV (As := [.int (nI o9)]) (q0 := 0) (ci := 3) hx hb hml hown hts (c_X3_walks l D cI cZ cL cO a th n nw ns σ η H o9 (hB) (by omega)) (cwV 1 hts gX3_isNeighbour_X3_walks rfl rfl rfl (by decide +kernel) ⟨by decide, by decide⟩) hK hE hP rfl rfl rfl rfl hl.1 rfl (Nat.le_of_ble_eq_true rfl) hS dX3_isNeighbour_15 ⟨Nat.zero_le _, Nat.zero_le _⟩ (fun locs hS => ?_)
      refine li_zeq (tgt := 45) hx hb dX3_isNeighbour_18 (by decide) (fun c3 => ?_) (fun c3 => ?_)
      · skip
        replace c3 := of_decide_eq_false c3
        refine lv_iconst (v := nI 0) hx hb dX3_isNeighbour_45 rfl ?_
        refine li_topi (show nI 0 = zI (nbr σ w o9) from by rw [nbr_abs]; simp [zI, c1, c2, c3]) ?_
        exact hEnd 46 ls locs dX3_isNeighbour_46 hS
      · skip
        replace c3 := of_decide_eq_true c3
        refine lv_aload_n hx hb dX3_isNeighbour_21 rfl (lv_at hl 0 rfl) ?_
        refine lv_iload_n hx hb dX3_isNeighbour_22 rfl (lv_at hl 1 rfl) ?_
        refine lv_iconst (v := nI 5) hx hb dX3_isNeighbour_23 rfl ?_
        refine roV (As := [.int (nI w), .int (nI 5)]) (q0 := 0) (ci := 3) hx hb hml hown hts (c_X3_pe l D cI cZ cL cO a th n nw ns σ η H w 5 (hB) (by omega) (by omega)) (cwV 2 hts gX3_isNeighbour_X3_pe rfl rfl rfl (by decide +kernel) ⟨by decide, by decide⟩) hK hE hP rfl rfl rfl rfl hl.1 rfl (Nat.le_of_ble_eq_true rfl) hS dX3_isNeighbour_24 ⟨Nat.zero_le _, Nat.zero_le _⟩ (fun locs hS => ?_)
        refine li_topi (show σ (pid 5) w = σ 13 w from rfl) ?_
        refine lv_aload_n hx hb dX3_isNeighbour_27 rfl (lv_at hl 0 rfl) ?_
        refine lv_iload_n hx hb dX3_isNeighbour_28 rfl (lv_at hl 2 rfl) ?_
        refine lv_iconst (v := nI 5) hx hb dX3_isNeighbour_29 rfl ?_
        refine roV (As := [.int (nI o9), .int (nI 5)]) (q0 := 0) (ci := 3) hx hb hml hown hts (c_X3_pe l D cI cZ cL cO a th n nw ns σ η H o9 5 (hB) (by omega) (by omega)) (cwV 2 hts gX3_isNeighbour_X3_pe rfl rfl rfl (by decide +kernel) ⟨by decide, by decide⟩) hK hE hP rfl rfl rfl rfl hl.1 rfl (Nat.le_of_ble_eq_true rfl) hS dX3_isNeighbour_30 ⟨Nat.zero_le _, Nat.zero_le _⟩ (fun locs hS => ?_)
        refine li_topi (show σ (pid 5) o9 = σ 13 o9 from rfl) ?_
        refine lv_isub hx hb dX3_isNeighbour_33 ?_
        refine va_mabs hx hb (hml.trans hl.1.symm) hown g0 g1 g2 g3 (by decide) (Nat.le_of_ble_eq_true rfl) (Nat.zero_le _) (Nat.zero_le _) dX3_isNeighbour_34 ?_
        refine li_topi (show (if 0 ≤ (σ 13 w) - (σ 13 o9) then (σ 13 w) - (σ 13 o9) else 0 - ((σ 13 w) - (σ 13 o9))) = absI (σ 13 w - σ 13 o9) from rfl) ?_
        refine lv_iconst (v := nI 1) hx hb dX3_isNeighbour_37 rfl ?_
        refine lv_icmp_gt (tgt := 45) hx hb dX3_isNeighbour_38 (by decide) (fun c4 => ?_) (fun c4 => ?_)
        · skip
          refine lv_iconst (v := nI 0) hx hb dX3_isNeighbour_45 rfl ?_
          refine li_topi (show nI 0 = zI (nbr σ w o9) from by rw [nbr_abs]; simp [zI, c1, c2, c3, c4]) ?_
          exact hEnd 46 ls locs dX3_isNeighbour_46 hS
        · skip
          refine lv_iconst (v := nI 1) hx hb dX3_isNeighbour_41 rfl ?_
          refine lv_goto (tgt := 46) hx hb dX3_isNeighbour_42 (by decide) ?_
          refine li_topi (show nI 1 = zI (nbr σ w o9) from by rw [nbr_abs]; simp [zI, c1, c2, c3, c4]) ?_
          exact hEnd 46 ls locs dX3_isNeighbour_46 hS
set_option maxHeartbeats 4000000 in
set_option maxRecDepth 100000 in
theorem c_X3_neighbours (l : Launch) (D : va_G) (cI cZ cL cO : ClassId) (a : Nat → Nat) (th : Int32) (n nw ns : Nat) (σ η : Sg) (H : Heap) (w : Nat) (hB : n ≤ 10 ∧ nw ≤ 20 ∧ ns ≤ 6) (hw : w < nw) : Met l yX3_neighbours wsX3_neighbours ({ frames := 3, cells := 0, slots := 0, locals := 65 } : Room) (ro_P D (T4 cI cZ cL cO) (wM cI cZ a th n nw ns σ η) H [.ref (a 0), .int (nI w)]) (ro_Q (nI (nb σ nw w)) H) 0 0 (fun _ => False) := by
  refine ro_of (cc := cX3_neighbours) (maxL := 4) (by decide) rfl (Nat.le_of_ble_eq_true rfl) rfl ?_
  intro p e s m args below meth c Q ls locs hx hb hml hown hts hK hE hP hl hS hEnd
  have hl : lv_has ls 4 [(0, .ref (a 0)), (1, .int (nI w))] := hl
  have hX3 : ∀ w ∈ wsX30, w.before args s = true := fun w h => hts w (List.mem_cons_of_mem _ (List.mem_append_right _ (h)))
  have f58 : (Cond.fieldLink RX3 58 "LanternWalkModel" "walkers" "I").before args s = true := hts _ (List.mem_of_getElem? (i := 1) rfl)
  refine lv_iconst (v := nI 0) hx hb dX3_neighbours_0 rfl ?_
  refine lv_istore_n (lv' := [(2, .int (nI 0)), (0, .ref (a 0)), (1, .int (nI w))]) hx hb dX3_neighbours_1 rfl hl (by decide) rfl (fun ls hl => ?_)
  refine lv_iconst (v := nI 0) hx hb dX3_neighbours_2 rfl ?_
  refine lv_istore_n (lv' := [(3, .int (nI 0)), (2, .int (nI 0)), (0, .ref (a 0)), (1, .int (nI w))]) hx hb dX3_neighbours_3 rfl hl (by decide) rfl (fun ls hl => ?_)
  have L4_1 : ∀ (fuel : Nat) (k : Nat), (nw - k) < fuel → (k ≤ nw) → ∀ (locs : List Loc), va_S (fun _ => False) H H locs → ∀ (ls : Array Slot), lv_has ls 4 [(3, .int (nI k)), (2, .int (nI (cnt (nbr σ w) k))), (0, .ref (a 0)), (1, .int (nI w))] → W p l e ({ frames := 3, cells := 0, slots := 0, locals := 65 } : Room) s m args below meth c H locs 0 0 Q (F0 m 4 ls []) := by
    intro fuel
    induction fuel with
    | zero =>
      intro k hfuel
      exact absurd hfuel (Nat.not_lt_zero _)
    | succ fuel ih4 =>
      intro k hfuel4 hk locs hS ls hl
      refine lv_iload_n hx hb dX3_neighbours_4 rfl (lv_at hl 0 rfl) ?_
      refine lv_aload_n hx hb dX3_neighbours_5 rfl (lv_at hl 2 rfl) ?_
      refine li_gf3 hx hb hX3 hown hK hP 0 rfl 5 (by decide) f58 rfl dX3_neighbours_6 ?_
      refine li_ge (tgt := 35) hx hb dX3_neighbours_9 (by decide) (by omega) (by omega) (fun c2 => ?_) (fun c2 => ?_)
      · skip
        refine lv_iload_n hx hb dX3_neighbours_35 rfl (lv_at hl 1 rfl) ?_
        refine li_topi (show nI (cnt (nbr σ w) k) = nI (nb σ nw w) from by rw [show k = nw by omega]; rfl) ?_
        exact hEnd 36 ls locs dX3_neighbours_36 hS
      · skip
        refine lv_iload_n hx hb dX3_neighbours_12 rfl (lv_at hl 1 rfl) ?_
        refine lv_aload_n hx hb dX3_neighbours_13 rfl (lv_at hl 2 rfl) ?_
        refine lv_iload_n hx hb dX3_neighbours_14 rfl (lv_at hl 3 rfl) ?_
        refine lv_iload_n hx hb dX3_neighbours_15 rfl (lv_at hl 0 rfl) ?_
        refine roV (As := [.int (nI w), .int (nI k)]) (q0 := 0) (ci := 3) hx hb hml hown hts (c_X3_isNeighbour l D cI cZ cL cO a th n nw ns σ η H w k (hB) (by omega) (by omega)) (cwV 2 hts gX3_neighbours_X3_isNeighbour rfl rfl rfl (by decide +kernel) ⟨by decide, by decide⟩) hK hE hP rfl rfl rfl rfl hl.1 rfl (Nat.le_of_ble_eq_true rfl) hS dX3_neighbours_16 ⟨Nat.zero_le _, Nat.zero_le _⟩ (fun locs hS => ?_)
        refine li_zeq (tgt := 26) hx hb dX3_neighbours_19 (by decide) (fun c3 => ?_) (fun c3 => ?_)
        · skip
          refine lv_iconst (v := nI 0) hx hb dX3_neighbours_26 rfl ?_
          refine lv_iadd hx hb dX3_neighbours_27 ?_
          refine li_topi (nI_add _ _) ?_
          refine lv_istore_n (lv' := [(2, .int (nI ((cnt (nbr σ w) k) + 0))), (3, .int (nI k)), (0, .ref (a 0)), (1, .int (nI w))]) hx hb dX3_neighbours_28 rfl hl (by decide) rfl (fun ls hl => ?_)
          refine lv_iinc (v := nI (k + 1)) (lv' := [(3, .int (nI (k + 1))), (2, .int (nI ((cnt (nbr σ w) k) + 0))), (0, .ref (a 0)), (1, .int (nI w))]) hx hb dX3_neighbours_29 hl (k := 1) rfl (nI_inc _ _) (by decide) rfl (fun ls hl => ?_)
          refine lv_goto (tgt := 4) hx hb dX3_neighbours_32 (by decide) ?_
          have hl9 : lv_has ls 4 [(3, .int (nI (k + 1))), (2, .int (nI ((cnt (nbr σ w) k) + 0))), (0, .ref (a 0)), (1, .int (nI w))] := lv_sub hl [0, 1, 2, 3] rfl
          have hl9 : lv_has ls 4 [(3, .int (nI (k + 1))), (2, .int (nI (cnt (nbr σ w) (k + 1)))), (0, .ref (a 0)), (1, .int (nI w))] := lv_re hl9 1 rfl (show nI ((cnt (nbr σ w) k) + 0) = nI (cnt (nbr σ w) (k + 1)) from by first | exact cnt_t (by simp [c2, c3]) | exact cnt_f (by simp [c2, c3]))
          exact ih4 (k + 1) (by omega) (by omega) locs hS ls hl9
        · skip
          refine lv_iconst (v := nI 1) hx hb dX3_neighbours_22 rfl ?_
          refine lv_goto (tgt := 27) hx hb dX3_neighbours_23 (by decide) ?_
          refine lv_iadd hx hb dX3_neighbours_27 ?_
          refine li_topi (nI_add _ _) ?_
          refine lv_istore_n (lv' := [(2, .int (nI ((cnt (nbr σ w) k) + 1))), (3, .int (nI k)), (0, .ref (a 0)), (1, .int (nI w))]) hx hb dX3_neighbours_28 rfl hl (by decide) rfl (fun ls hl => ?_)
          refine lv_iinc (v := nI (k + 1)) (lv' := [(3, .int (nI (k + 1))), (2, .int (nI ((cnt (nbr σ w) k) + 1))), (0, .ref (a 0)), (1, .int (nI w))]) hx hb dX3_neighbours_29 hl (k := 1) rfl (nI_inc _ _) (by decide) rfl (fun ls hl => ?_)
          refine lv_goto (tgt := 4) hx hb dX3_neighbours_32 (by decide) ?_
          have hl9 : lv_has ls 4 [(3, .int (nI (k + 1))), (2, .int (nI ((cnt (nbr σ w) k) + 1))), (0, .ref (a 0)), (1, .int (nI w))] := lv_sub hl [0, 1, 2, 3] rfl
          have hl9 : lv_has ls 4 [(3, .int (nI (k + 1))), (2, .int (nI (cnt (nbr σ w) (k + 1)))), (0, .ref (a 0)), (1, .int (nI w))] := lv_re hl9 1 rfl (show nI ((cnt (nbr σ w) k) + 1) = nI (cnt (nbr σ w) (k + 1)) from by first | exact cnt_t (by simp [c2, c3]) | exact cnt_f (by simp [c2, c3]))
          exact ih4 (k + 1) (by omega) (by omega) locs hS ls hl9
  have hl9 : lv_has ls 4 [(3, .int (nI 0)), (2, .int (nI 0)), (0, .ref (a 0)), (1, .int (nI w))] := lv_sub hl [0, 1, 2, 3] rfl
  have hl9 : lv_has ls 4 [(3, .int (nI 0)), (2, .int (nI (cnt (nbr σ w) 0))), (0, .ref (a 0)), (1, .int (nI w))] := lv_re hl9 1 rfl (show nI 0 = nI (cnt (nbr σ w) 0) from rfl)
  exact L4_1 ((nw - 0) + 1) 0 (Nat.lt_succ_self _) (by omega) locs hS ls hl9
set_option maxHeartbeats 4000000 in
set_option maxRecDepth 100000 in
theorem c_X3_inState (l : Launch) (D : va_G) (cI cZ cL cO : ClassId) (a : Nat → Nat) (th : Int32) (n nw ns : Nat) (σ η : Sg) (H : Heap) (x : Int32) (hB : n ≤ 10 ∧ nw ≤ 20 ∧ ns ≤ 6) : Met l yX3_inState wsX3_inState ({ frames := 1, cells := 0, slots := 0, locals := 22 } : Room) (ro_P D (T4 cI cZ cL cO) (wM cI cZ a th n nw ns σ η) H [.ref (a 0), .int x]) (ro_Q (nI (hm σ nw x)) H) 0 0 (fun _ => False) := by
  refine ro_of (cc := cX3_inState) (maxL := 4) (by decide) rfl (Nat.le_of_ble_eq_true rfl) rfl ?_
  intro p e s m args below meth c Q ls locs hx hb hml hown hts hK hE hP hl hS hEnd
  have hl : lv_has ls 4 [(0, .ref (a 0)), (1, .int x)] := hl
  have hX3 : ∀ w ∈ wsX30, w.before args s = true := fun w h => hts w (List.mem_cons_of_mem _ (List.mem_append_right _ (h)))
  have f58 : (Cond.fieldLink RX3 58 "LanternWalkModel" "walkers" "I").before args s = true := hts _ (List.mem_of_getElem? (i := 1) rfl)
  refine lv_iconst (v := nI 0) hx hb dX3_inState_0 rfl ?_
  refine lv_istore_n (lv' := [(2, .int (nI 0)), (0, .ref (a 0)), (1, .int x)]) hx hb dX3_inState_1 rfl hl (by decide) rfl (fun ls hl => ?_)
  refine lv_iconst (v := nI 0) hx hb dX3_inState_2 rfl ?_
  refine lv_istore_n (lv' := [(3, .int (nI 0)), (2, .int (nI 0)), (0, .ref (a 0)), (1, .int x)]) hx hb dX3_inState_3 rfl hl (by decide) rfl (fun ls hl => ?_)
  have L4_1 : ∀ (fuel : Nat) (k : Nat), (nw - k) < fuel → (k ≤ nw) → ∀ (locs : List Loc), va_S (fun _ => False) H H locs → ∀ (ls : Array Slot), lv_has ls 4 [(3, .int (nI k)), (2, .int (nI (cnt (hmS σ x) k))), (0, .ref (a 0)), (1, .int x)] → W p l e ({ frames := 1, cells := 0, slots := 0, locals := 22 } : Room) s m args below meth c H locs 0 0 Q (F0 m 4 ls []) := by
    intro fuel
    induction fuel with
    | zero =>
      intro k hfuel
      exact absurd hfuel (Nat.not_lt_zero _)
    | succ fuel ih4 =>
      intro k hfuel4 hk locs hS ls hl
      refine lv_iload_n hx hb dX3_inState_4 rfl (lv_at hl 0 rfl) ?_
      refine lv_aload_n hx hb dX3_inState_5 rfl (lv_at hl 2 rfl) ?_
      refine li_gf3 hx hb hX3 hown hK hP 0 rfl 5 (by decide) f58 rfl dX3_inState_6 ?_
      refine li_ge (tgt := 36) hx hb dX3_inState_9 (by decide) (by omega) (by omega) (fun c2 => ?_) (fun c2 => ?_)
      · skip
        refine lv_iload_n hx hb dX3_inState_36 rfl (lv_at hl 1 rfl) ?_
        refine li_topi (show nI (cnt (hmS σ x) k) = nI (hm σ nw x) from by rw [show k = nw by omega]; rfl) ?_
        exact hEnd 37 ls locs dX3_inState_37 hS
      · skip
        refine lv_iload_n hx hb dX3_inState_12 rfl (lv_at hl 1 rfl) ?_
        refine lv_aload_n hx hb dX3_inState_13 rfl (lv_at hl 2 rfl) ?_
        refine lv_iload_n hx hb dX3_inState_14 rfl (lv_at hl 0 rfl) ?_
        refine lv_iconst (v := nI 4) hx hb dX3_inState_15 rfl ?_
        refine roV (As := [.int (nI k), .int (nI 4)]) (q0 := 0) (ci := 3) hx hb hml hown hts (c_X3_pe l D cI cZ cL cO a th n nw ns σ η H k 4 (hB) (by omega) (by omega)) (cwV 2 hts gX3_inState_X3_pe rfl rfl rfl (by decide +kernel) ⟨by decide, by decide⟩) hK hE hP rfl rfl rfl rfl hl.1 rfl (Nat.le_of_ble_eq_true rfl) hS dX3_inState_16 ⟨Nat.zero_le _, Nat.zero_le _⟩ (fun locs hS => ?_)
        refine li_topi (show σ (pid 4) k = σ 12 k from rfl) ?_
        refine lv_iload_n hx hb dX3_inState_19 rfl (lv_at hl 3 rfl) ?_
        refine lv_icmp_ne (tgt := 27) hx hb dX3_inState_20 (by decide) (fun c3 => ?_) (fun c3 => ?_)
        · skip
          refine lv_iconst (v := nI 0) hx hb dX3_inState_27 rfl ?_
          refine lv_iadd hx hb dX3_inState_28 ?_
          refine li_topi (nI_add _ _) ?_
          refine lv_istore_n (lv' := [(2, .int (nI ((cnt (hmS σ x) k) + 0))), (3, .int (nI k)), (0, .ref (a 0)), (1, .int x)]) hx hb dX3_inState_29 rfl hl (by decide) rfl (fun ls hl => ?_)
          refine lv_iinc (v := nI (k + 1)) (lv' := [(3, .int (nI (k + 1))), (2, .int (nI ((cnt (hmS σ x) k) + 0))), (0, .ref (a 0)), (1, .int x)]) hx hb dX3_inState_30 hl (k := 1) rfl (nI_inc _ _) (by decide) rfl (fun ls hl => ?_)
          refine lv_goto (tgt := 4) hx hb dX3_inState_33 (by decide) ?_
          have hl9 : lv_has ls 4 [(3, .int (nI (k + 1))), (2, .int (nI ((cnt (hmS σ x) k) + 0))), (0, .ref (a 0)), (1, .int x)] := lv_sub hl [0, 1, 2, 3] rfl
          have hl9 : lv_has ls 4 [(3, .int (nI (k + 1))), (2, .int (nI (cnt (hmS σ x) (k + 1)))), (0, .ref (a 0)), (1, .int x)] := lv_re hl9 1 rfl (show nI ((cnt (hmS σ x) k) + 0) = nI (cnt (hmS σ x) (k + 1)) from by first | exact cnt_t (by simp [hmS, c2, c3]) | exact cnt_f (by simp [hmS, c2, c3]))
          exact ih4 (k + 1) (by omega) (by omega) locs hS ls hl9
        · skip
          refine lv_iconst (v := nI 1) hx hb dX3_inState_23 rfl ?_
          refine lv_goto (tgt := 28) hx hb dX3_inState_24 (by decide) ?_
          refine lv_iadd hx hb dX3_inState_28 ?_
          refine li_topi (nI_add _ _) ?_
          refine lv_istore_n (lv' := [(2, .int (nI ((cnt (hmS σ x) k) + 1))), (3, .int (nI k)), (0, .ref (a 0)), (1, .int x)]) hx hb dX3_inState_29 rfl hl (by decide) rfl (fun ls hl => ?_)
          refine lv_iinc (v := nI (k + 1)) (lv' := [(3, .int (nI (k + 1))), (2, .int (nI ((cnt (hmS σ x) k) + 1))), (0, .ref (a 0)), (1, .int x)]) hx hb dX3_inState_30 hl (k := 1) rfl (nI_inc _ _) (by decide) rfl (fun ls hl => ?_)
          refine lv_goto (tgt := 4) hx hb dX3_inState_33 (by decide) ?_
          have hl9 : lv_has ls 4 [(3, .int (nI (k + 1))), (2, .int (nI ((cnt (hmS σ x) k) + 1))), (0, .ref (a 0)), (1, .int x)] := lv_sub hl [0, 1, 2, 3] rfl
          have hl9 : lv_has ls 4 [(3, .int (nI (k + 1))), (2, .int (nI (cnt (hmS σ x) (k + 1)))), (0, .ref (a 0)), (1, .int x)] := lv_re hl9 1 rfl (show nI ((cnt (hmS σ x) k) + 1) = nI (cnt (hmS σ x) (k + 1)) from by first | exact cnt_t (by simp [hmS, c2, c3]) | exact cnt_f (by simp [hmS, c2, c3]))
          exact ih4 (k + 1) (by omega) (by omega) locs hS ls hl9
  have hl9 : lv_has ls 4 [(3, .int (nI 0)), (2, .int (nI 0)), (0, .ref (a 0)), (1, .int x)] := lv_sub hl [0, 1, 2, 3] rfl
  have hl9 : lv_has ls 4 [(3, .int (nI 0)), (2, .int (nI (cnt (hmS σ x) 0))), (0, .ref (a 0)), (1, .int x)] := lv_re hl9 1 rfl (show nI 0 = nI (cnt (hmS σ x) 0) from rfl)
  exact L4_1 ((nw - 0) + 1) 0 (Nat.lt_succ_self _) (by omega) locs hS ls hl9
set_option maxHeartbeats 4000000 in
set_option maxRecDepth 100000 in
theorem c_X3_with (l : Launch) (D : va_G) (cI cZ cL cO : ClassId) (a : Nat → Nat) (th : Int32) (n nw ns : Nat) (σ η : Sg) (H : Heap) (sg : Nat) (v : Int32) (hB : n ≤ 10 ∧ nw ≤ 20 ∧ ns ≤ 6) (hsg : sg < 6) : Met l yX3_with wsX3_with ({ frames := 0, cells := 0, slots := 0, locals := 0 } : Room) (ro_P D (T4 cI cZ cL cO) (wM cI cZ a th n nw ns σ η) H [.ref (a 0), .int (nI sg), .int v]) (ro_Q (nI (kv σ nw sg v)) H) 0 0 (fun _ => False) := by
  refine ro_of (cc := cX3_with) (maxL := 5) (by decide) rfl (Nat.le_of_ble_eq_true rfl) rfl ?_
  intro p e s m args below meth c Q ls locs hx hb hml hown hts hK hE hP hl hS hEnd
  have hl : lv_has ls 5 [(0, .ref (a 0)), (1, .int (nI sg)), (2, .int v)] := hl
  have hX3 : ∀ w ∈ wsX30, w.before args s = true := fun w h => hts w (List.mem_cons_of_mem _ (List.mem_append_right _ (h)))
  have f58 : (Cond.fieldLink RX3 58 "LanternWalkModel" "walkers" "I").before args s = true := hts _ (List.mem_of_getElem? (i := 1) rfl)
  have f25 : (Cond.fieldLink RX3 25 "LanternWalkModel" "known" "[I").before args s = true := hts _ (List.mem_of_getElem? (i := 2) rfl)
  refine lv_iconst (v := nI 0) hx hb dX3_with_0 rfl ?_
  refine lv_istore_n (lv' := [(3, .int (nI 0)), (0, .ref (a 0)), (1, .int (nI sg)), (2, .int v)]) hx hb dX3_with_1 rfl hl (by decide) rfl (fun ls hl => ?_)
  refine lv_iconst (v := nI 0) hx hb dX3_with_2 rfl ?_
  refine lv_istore (lv' := [(4, .int (nI 0)), (3, .int (nI 0)), (0, .ref (a 0)), (1, .int (nI sg)), (2, .int v)]) hx hb dX3_with_3 hl (by decide) rfl (fun ls hl => ?_)
  have L5_1 : ∀ (fuel : Nat) (k : Nat), (nw - k) < fuel → (k ≤ nw) → ∀ (locs : List Loc), va_S (fun _ => False) H H locs → ∀ (ls : Array Slot), lv_has ls 5 [(4, .int (nI k)), (3, .int (nI (cnt (kvS σ sg v) k))), (0, .ref (a 0)), (1, .int (nI sg)), (2, .int v)] → W p l e ({ frames := 0, cells := 0, slots := 0, locals := 0 } : Room) s m args below meth c H locs 0 0 Q (F0 m 5 ls []) := by
    intro fuel
    induction fuel with
    | zero =>
      intro k hfuel
      exact absurd hfuel (Nat.not_lt_zero _)
    | succ fuel ih5 =>
      intro k hfuel5 hk locs hS ls hl
      refine lv_iload hx hb dX3_with_5 (lv_at hl 0 rfl) ?_
      refine lv_aload_n hx hb dX3_with_7 rfl (lv_at hl 2 rfl) ?_
      refine li_gf3 hx hb hX3 hown hK hP 0 rfl 5 (by decide) f58 rfl dX3_with_8 ?_
      refine li_ge (tgt := 44) hx hb dX3_with_11 (by decide) (by omega) (by omega) (fun c2 => ?_) (fun c2 => ?_)
      · skip
        refine lv_iload_n hx hb dX3_with_44 rfl (lv_at hl 1 rfl) ?_
        refine li_topi (show nI (cnt (kvS σ sg v) k) = nI (kv σ nw sg v) from by rw [show k = nw by omega]; rfl) ?_
        exact hEnd 45 ls locs dX3_with_45 hS
      · skip
        refine lv_iload_n hx hb dX3_with_14 rfl (lv_at hl 1 rfl) ?_
        refine lv_aload_n hx hb dX3_with_15 rfl (lv_at hl 2 rfl) ?_
        refine li_gf3 hx hb hX3 hown hK hP 0 rfl 9 (by decide) f25 rfl dX3_with_16 ?_
        refine lv_bipush (v := nI 6) hx hb dX3_with_19 rfl ?_
        refine lv_iload hx hb dX3_with_21 (lv_at hl 0 rfl) ?_
        refine lv_imul hx hb dX3_with_23 ?_
        refine li_topi (pk_mul _ _) ?_
        refine lv_iload_n hx hb dX3_with_24 rfl (lv_at hl 3 rfl) ?_
        refine lv_iadd hx hb dX3_with_25 ?_
        refine li_topi (nI_add _ _) ?_
        refine li_ild hx hb hK hP 6 0 rfl rfl (by omega) (by decide) dX3_with_26 ?_
        refine lv_iload_n hx hb dX3_with_27 rfl (lv_at hl 4 rfl) ?_
        refine lv_icmp_ne (tgt := 35) hx hb dX3_with_28 (by decide) (fun c3 => ?_) (fun c3 => ?_)
        · skip
          refine lv_iconst (v := nI 0) hx hb dX3_with_35 rfl ?_
          refine lv_iadd hx hb dX3_with_36 ?_
          refine li_topi (nI_add _ _) ?_
          refine lv_istore_n (lv' := [(3, .int (nI ((cnt (kvS σ sg v) k) + 0))), (4, .int (nI k)), (0, .ref (a 0)), (1, .int (nI sg)), (2, .int v)]) hx hb dX3_with_37 rfl hl (by decide) rfl (fun ls hl => ?_)
          refine lv_iinc (v := nI (k + 1)) (lv' := [(4, .int (nI (k + 1))), (3, .int (nI ((cnt (kvS σ sg v) k) + 0))), (0, .ref (a 0)), (1, .int (nI sg)), (2, .int v)]) hx hb dX3_with_38 hl (k := 1) rfl (nI_inc _ _) (by decide) rfl (fun ls hl => ?_)
          refine lv_goto (tgt := 5) hx hb dX3_with_41 (by decide) ?_
          have hl9 : lv_has ls 5 [(4, .int (nI (k + 1))), (3, .int (nI ((cnt (kvS σ sg v) k) + 0))), (0, .ref (a 0)), (1, .int (nI sg)), (2, .int v)] := lv_sub hl [0, 1, 2, 3, 4] rfl
          have hl9 : lv_has ls 5 [(4, .int (nI (k + 1))), (3, .int (nI (cnt (kvS σ sg v) (k + 1)))), (0, .ref (a 0)), (1, .int (nI sg)), (2, .int v)] := lv_re hl9 1 rfl (show nI ((cnt (kvS σ sg v) k) + 0) = nI (cnt (kvS σ sg v) (k + 1)) from by first | exact cnt_t (by simp [kvS, c2, c3]) | exact cnt_f (by simp [kvS, c2, c3]))
          exact ih5 (k + 1) (by omega) (by omega) locs hS ls hl9
        · skip
          refine lv_iconst (v := nI 1) hx hb dX3_with_31 rfl ?_
          refine lv_goto (tgt := 36) hx hb dX3_with_32 (by decide) ?_
          refine lv_iadd hx hb dX3_with_36 ?_
          refine li_topi (nI_add _ _) ?_
          refine lv_istore_n (lv' := [(3, .int (nI ((cnt (kvS σ sg v) k) + 1))), (4, .int (nI k)), (0, .ref (a 0)), (1, .int (nI sg)), (2, .int v)]) hx hb dX3_with_37 rfl hl (by decide) rfl (fun ls hl => ?_)
          refine lv_iinc (v := nI (k + 1)) (lv' := [(4, .int (nI (k + 1))), (3, .int (nI ((cnt (kvS σ sg v) k) + 1))), (0, .ref (a 0)), (1, .int (nI sg)), (2, .int v)]) hx hb dX3_with_38 hl (k := 1) rfl (nI_inc _ _) (by decide) rfl (fun ls hl => ?_)
          refine lv_goto (tgt := 5) hx hb dX3_with_41 (by decide) ?_
          have hl9 : lv_has ls 5 [(4, .int (nI (k + 1))), (3, .int (nI ((cnt (kvS σ sg v) k) + 1))), (0, .ref (a 0)), (1, .int (nI sg)), (2, .int v)] := lv_sub hl [0, 1, 2, 3, 4] rfl
          have hl9 : lv_has ls 5 [(4, .int (nI (k + 1))), (3, .int (nI (cnt (kvS σ sg v) (k + 1)))), (0, .ref (a 0)), (1, .int (nI sg)), (2, .int v)] := lv_re hl9 1 rfl (show nI ((cnt (kvS σ sg v) k) + 1) = nI (cnt (kvS σ sg v) (k + 1)) from by first | exact cnt_t (by simp [kvS, c2, c3]) | exact cnt_f (by simp [kvS, c2, c3]))
          exact ih5 (k + 1) (by omega) (by omega) locs hS ls hl9
  have hl9 : lv_has ls 5 [(4, .int (nI 0)), (3, .int (nI 0)), (0, .ref (a 0)), (1, .int (nI sg)), (2, .int v)] := lv_sub hl [0, 1, 2, 3, 4] rfl
  have hl9 : lv_has ls 5 [(4, .int (nI 0)), (3, .int (nI (cnt (kvS σ sg v) 0))), (0, .ref (a 0)), (1, .int (nI sg)), (2, .int v)] := lv_re hl9 1 rfl (show nI 0 = nI (cnt (kvS σ sg v) 0) from rfl)
  exact L5_1 ((nw - 0) + 1) 0 (Nat.lt_succ_self _) (by omega) locs hS ls hl9
