/-! the model: its calls -/
set_option maxHeartbeats 4000000 in
set_option maxRecDepth 100000 in
theorem c_X3_fail (l : Launch) (D : va_G) (cI cZ cL cO : ClassId) (a : Nat → Nat) (th : Int32) (n nw ns : Nat) (σ η : Sg) (H : Heap) (x : Int32) (A : Nat → Prop) (hA : okP A a 13) (hB : n ≤ 10 ∧ nw ≤ 20 ∧ ns ≤ 6) : Met l yX3_fail wsX3_fail ({ frames := 0, cells := 0, slots := 0, locals := 0 } : Room) (ro_P D (T4 cI cZ cL cO) (wM cI cZ a th n nw ns σ η) H [.ref (a 0), .int x]) (mi_Q D (nI 0) (wM cI cZ a x n nw ns σ η) A) 0 0 A := by
  refine mi_of (cc := cX3_fail) (maxL := 2) (by decide) rfl (Nat.le_of_ble_eq_true rfl) rfl ?_
  intro p e s m args below meth c Q ls locs hx hb hml hown hts hK hE hP hl hS hEnd
  have hl : lv_has ls 2 [(0, .ref (a 0)), (1, .int x)] := hl
  have hX3 : ∀ w ∈ wsX30, w.before args s = true := fun w h => hts w (List.mem_cons_of_mem _ (List.mem_append_right _ (h)))
  have f47 : (Cond.fieldLink RX3 47 "LanternWalkModel" "thrown" "I").before args s = true := hts _ (List.mem_of_getElem? (i := 1) rfl)
  refine lv_aload_n hx hb dX3_fail_0 rfl (lv_at hl 0 rfl) ?_
  refine lv_iload_n hx hb dX3_fail_1 rfl (lv_at hl 1 rfl) ?_
  refine li_pf3 hx hb hX3 hown hK hP hA.DM hS 0 rfl 0 (by decide) f47 rfl rfl rfl (Nat.le_of_ble_eq_true rfl) stM_th dX3_fail_2 (fun G locs hP hS => ?_)
  refine lv_iconst (v := nI 0) hx hb dX3_fail_5 rfl ?_
  exact hEnd 6 ls G locs dX3_fail_6 hP hS
set_option maxHeartbeats 4000000 in
set_option maxRecDepth 100000 in
theorem c_X3_post (l : Launch) (D : va_G) (cI cZ cL cO : ClassId) (a : Nat → Nat) (th : Int32) (n nw ns : Nat) (σ η : Sg) (H : Heap) (p0 : Int32) (p1 : Int32) (A : Nat → Prop) (hA : okP A a 13) (hB : n ≤ 10 ∧ nw ≤ 20 ∧ ns ≤ 6) : Met l yX3_post wsX3_post ({ frames := 2, cells := 0, slots := 0, locals := 43 } : Room) (ro_P D (T4 cI cZ cL cO) (wM cI cZ a th n nw ns σ η) H [.ref (a 0), .int p0, .int p1]) (mi_Q D (vPost n σ p0 p1) (wM cI cZ a (nI (kPost n p0 p1)) n nw ns (sPost n σ p0 p1) η) A) 0 0 A := by
  refine mi_of (cc := cX3_post) (maxL := 4) (by decide) rfl (Nat.le_of_ble_eq_true rfl) rfl ?_
  intro p e s m args below meth c Q ls locs hx hb hml hown hts hK hE hP hl hS hEnd
  have hl : lv_has ls 4 [(0, .ref (a 0)), (1, .int p0), (2, .int p1)] := hl
  have hX3 : ∀ w ∈ wsX30, w.before args s = true := fun w h => hts w (List.mem_cons_of_mem _ (List.mem_append_right _ (h)))
  have f47 : (Cond.fieldLink RX3 47 "LanternWalkModel" "thrown" "I").before args s = true := hts _ (List.mem_of_getElem? (i := 1) rfl)
  have f13 : (Cond.fieldLink RX3 13 "LanternWalkModel" "stewards" "[I").before args s = true := hts _ (List.mem_of_getElem? (i := 2) rfl)
  refine lv_aload_n hx hb dX3_post_0 rfl (lv_at hl 0 rfl) ?_
  refine lv_iconst (v := nI 0) hx hb dX3_post_1 rfl ?_
  refine li_pf3 hx hb hX3 hown hK hP hA.DM hS 0 rfl 0 (by decide) f47 rfl rfl rfl (Nat.le_of_ble_eq_true rfl) stM_th dX3_post_2 (fun G locs hP hS => ?_)
  refine lv_iload_n hx hb dX3_post_5 rfl (lv_at hl 1 rfl) ?_
  refine lv_iconst (v := nI 0) hx hb dX3_post_6 rfl ?_
  refine lv_iconst (v := nI 1) hx hb dX3_post_7 rfl ?_
  refine roS (As := [.int p0, .int (nI 0), .int (nI 1)]) hx hb hml hown hts (c_X3_isI l D cI cZ cL cO G p0 (nI 0) (nI 1)) (va_cwS 3 hts gX3_post_X3_isIn rfl rfl rfl (by decide +kernel) ⟨by decide, by decide⟩) hK hE (hP.sub (ws' := []) [] rfl) rfl hl.1 rfl (Nat.le_of_ble_eq_true rfl) hS dX3_post_8 ⟨Nat.zero_le _, Nat.zero_le _⟩ (fun locs hS => ?_)
  refine li_zeq (tgt := 27) hx hb dX3_post_11 (by decide) (fun c1 => ?_) (fun c1 => ?_)
  · skip
    refine lv_aload_n hx hb dX3_post_27 rfl (lv_at hl 0 rfl) ?_
    refine lv_iconst (v := nI 1) hx hb dX3_post_28 rfl ?_
    refine miV (As := [.int (nI 1)]) (q0 := 0) (ci := 3) hx hb hml hown hts (c_X3_fail l D cI cZ cL cO a (nI 0) n nw ns σ η G (nI 1) A hA (hB)) (cwV 1 hts gX3_post_X3_fail rfl rfl rfl (by decide +kernel) ⟨by decide, by decide⟩) hK hE hP rfl rfl rfl rfl hl.1 rfl (Nat.le_of_ble_eq_true rfl) hS (fun _ h => h) dX3_post_29 ⟨Nat.zero_le _, Nat.zero_le _⟩ (fun G locs hP _ _ hS => ?_)
    have hk9 : kPost n p0 p1 = 1 := by simp [kPost, noneOr, Int32.not_lt, c1]
    refine li_topi (show nI 0 = vPost n σ p0 p1 from by unfold vPost; rw [hk9]; first | rfl | (rw [if_pos rfl]; repeat rw [nN_nI (by omega)])) ?_
    have hw9 : (nI 1) = nI (kPost n p0 p1) := by rw [hk9]
    have hP : va_P D vwCl (wM cI cZ a (nI (kPost n p0 p1)) n nw ns σ η) G := Eq.mp (congrArg (fun z9 => va_P D vwCl (wM cI cZ a z9 n nw ns σ η) G) hw9) hP
    clear hw9
    have hw9 : σ = sPost n σ p0 p1 := by unfold sPost; rw [hk9]; first | rfl | (simp only [nN_nI (show _ < 2 ^ 31 by omega)]; rfl) | (rw [if_pos rfl]; repeat rw [nN_nI (by omega)])
    have hP : va_P D vwCl (wM cI cZ a (nI (kPost n p0 p1)) n nw ns (sPost n σ p0 p1) η) G := Eq.mp (congrArg (fun z9 => va_P D vwCl (wM cI cZ a (nI (kPost n p0 p1)) n nw ns z9 η) G) hw9) hP
    clear hw9
    exact hEnd 32 ls G locs dX3_post_32 hP hS
  · skip
    obtain ⟨jp0, hljp0, hhjp0, rfl⟩ := isI_nat (lo := 0) (hi := 1) (by omega) (by omega) c1
    refine lv_iload_n hx hb dX3_post_14 rfl (lv_at hl 2 rfl) ?_
    refine lv_iconst (v := (-1)) hx hb dX3_post_15 rfl ?_
    refine lv_icmp_eq (tgt := 33) hx hb dX3_post_16 (by decide) (fun c2 => ?_) (fun c2 => ?_)
    · skip
      refine lv_aload_n hx hb dX3_post_33 rfl (lv_at hl 0 rfl) ?_
      refine li_gf3 hx hb hX3 hown hK hP 0 rfl 3 (by decide) f13 rfl dX3_post_34 ?_
      refine lv_iload_n hx hb dX3_post_37 rfl (lv_at hl 1 rfl) ?_
      refine li_ild hx hb hK hP 2 0 rfl rfl (by omega) (by decide) dX3_post_38 ?_
      refine lv_istore_n (lv' := [(3, .int (σ 7 jp0)), (0, .ref (a 0)), (1, .int (nI jp0)), (2, .int p1)]) hx hb dX3_post_39 rfl hl (by decide) rfl (fun ls hl => ?_)
      refine lv_aload_n hx hb dX3_post_40 rfl (lv_at hl 1 rfl) ?_
      refine li_gf3 hx hb hX3 hown hK hP 0 rfl 3 (by decide) f13 rfl dX3_post_41 ?_
      refine lv_iload_n hx hb dX3_post_44 rfl (lv_at hl 2 rfl) ?_
      refine lv_iload_n hx hb dX3_post_45 rfl (lv_at hl 3 rfl) ?_
      refine li_ist hx hb hK hP hA.DM hS 2 0 rfl rfl (by omega) (by decide) stM_7 dX3_post_46 (fun G locs hP hS => ?_)
      refine lv_iload_n hx hb dX3_post_47 rfl (lv_at hl 0 rfl) ?_
      have hk9 : kPost n (nI jp0) p1 = 0 := by simp [kPost, noneOr, Int32.not_lt, c1, c2]
      refine li_topi (show σ 7 jp0 = vPost n σ (nI jp0) p1 from by unfold vPost; rw [hk9]; first | rfl | (rw [if_pos rfl]; repeat rw [nN_nI (by omega)])) ?_
      have hw9 : nI 0 = nI (kPost n (nI jp0) p1) := by rw [hk9]
      have hP : va_P D vwCl (wM cI cZ a (nI (kPost n (nI jp0) p1)) n nw ns (up2 σ 7 jp0 p1) η) G := Eq.mp (congrArg (fun z9 => va_P D vwCl (wM cI cZ a z9 n nw ns (up2 σ 7 jp0 p1) η) G) hw9) hP
      clear hw9
      have hw9 : up2 σ 7 jp0 p1 = sPost n σ (nI jp0) p1 := by unfold sPost; rw [hk9]; first | rfl | (simp only [nN_nI (show _ < 2 ^ 31 by omega)]; rfl) | (rw [if_pos rfl]; repeat rw [nN_nI (by omega)])
      have hP : va_P D vwCl (wM cI cZ a (nI (kPost n (nI jp0) p1)) n nw ns (sPost n σ (nI jp0) p1) η) G := Eq.mp (congrArg (fun z9 => va_P D vwCl (wM cI cZ a (nI (kPost n (nI jp0) p1)) n nw ns z9 η) G) hw9) hP
      clear hw9
      exact hEnd 48 ls G locs dX3_post_48 hP hS
    · skip
      refine lv_aload_n hx hb dX3_post_19 rfl (lv_at hl 0 rfl) ?_
      refine lv_iload_n hx hb dX3_post_20 rfl (lv_at hl 2 rfl) ?_
      refine roV (As := [.int p1]) (q0 := 0) (ci := 3) hx hb hml hown hts (c_X3_isStretch l D cI cZ cL cO a (nI 0) n nw ns σ η G p1 (hB)) (cwV 1 hts gX3_post_X3_isStretch rfl rfl rfl (by decide +kernel) ⟨by decide, by decide⟩) hK hE hP rfl rfl rfl rfl hl.1 rfl (Nat.le_of_ble_eq_true rfl) hS dX3_post_21 ⟨Nat.zero_le _, Nat.zero_le _⟩ (fun locs hS => ?_)
      refine li_zne (tgt := 33) hx hb dX3_post_24 (by decide) (fun c3 => ?_) (fun c3 => ?_)
      · skip
        obtain ⟨jp1, hhjp1, rfl⟩ := has_nat (by omega) c3
        refine lv_aload_n hx hb dX3_post_33 rfl (lv_at hl 0 rfl) ?_
        refine li_gf3 hx hb hX3 hown hK hP 0 rfl 3 (by decide) f13 rfl dX3_post_34 ?_
        refine lv_iload_n hx hb dX3_post_37 rfl (lv_at hl 1 rfl) ?_
        refine li_ild hx hb hK hP 2 0 rfl rfl (by omega) (by decide) dX3_post_38 ?_
        refine lv_istore_n (lv' := [(3, .int (σ 7 jp0)), (0, .ref (a 0)), (1, .int (nI jp0)), (2, .int (nI jp1))]) hx hb dX3_post_39 rfl hl (by decide) rfl (fun ls hl => ?_)
        refine lv_aload_n hx hb dX3_post_40 rfl (lv_at hl 1 rfl) ?_
        refine li_gf3 hx hb hX3 hown hK hP 0 rfl 3 (by decide) f13 rfl dX3_post_41 ?_
        refine lv_iload_n hx hb dX3_post_44 rfl (lv_at hl 2 rfl) ?_
        refine lv_iload_n hx hb dX3_post_45 rfl (lv_at hl 3 rfl) ?_
        refine li_ist hx hb hK hP hA.DM hS 2 0 rfl rfl (by omega) (by decide) stM_7 dX3_post_46 (fun G locs hP hS => ?_)
        refine lv_iload_n hx hb dX3_post_47 rfl (lv_at hl 0 rfl) ?_
        have hk9 : kPost n (nI jp0) (nI jp1) = 0 := by simp [kPost, noneOr, Int32.not_lt, c1, c2, c3]
        refine li_topi (show σ 7 jp0 = vPost n σ (nI jp0) (nI jp1) from by unfold vPost; rw [hk9]; first | rfl | (rw [if_pos rfl]; repeat rw [nN_nI (by omega)])) ?_
        have hw9 : nI 0 = nI (kPost n (nI jp0) (nI jp1)) := by rw [hk9]
        have hP : va_P D vwCl (wM cI cZ a (nI (kPost n (nI jp0) (nI jp1))) n nw ns (up2 σ 7 jp0 (nI jp1)) η) G := Eq.mp (congrArg (fun z9 => va_P D vwCl (wM cI cZ a z9 n nw ns (up2 σ 7 jp0 (nI jp1)) η) G) hw9) hP
        clear hw9
        have hw9 : up2 σ 7 jp0 (nI jp1) = sPost n σ (nI jp0) (nI jp1) := by unfold sPost; rw [hk9]; first | rfl | (simp only [nN_nI (show _ < 2 ^ 31 by omega)]; rfl) | (rw [if_pos rfl]; repeat rw [nN_nI (by omega)])
        have hP : va_P D vwCl (wM cI cZ a (nI (kPost n (nI jp0) (nI jp1))) n nw ns (sPost n σ (nI jp0) (nI jp1)) η) G := Eq.mp (congrArg (fun z9 => va_P D vwCl (wM cI cZ a (nI (kPost n (nI jp0) (nI jp1))) n nw ns z9 η) G) hw9) hP
        clear hw9
        exact hEnd 48 ls G locs dX3_post_48 hP hS
      · skip
        refine lv_aload_n hx hb dX3_post_27 rfl (lv_at hl 0 rfl) ?_
        refine lv_iconst (v := nI 1) hx hb dX3_post_28 rfl ?_
        refine miV (As := [.int (nI 1)]) (q0 := 0) (ci := 3) hx hb hml hown hts (c_X3_fail l D cI cZ cL cO a (nI 0) n nw ns σ η G (nI 1) A hA (hB)) (cwV 1 hts gX3_post_X3_fail rfl rfl rfl (by decide +kernel) ⟨by decide, by decide⟩) hK hE hP rfl rfl rfl rfl hl.1 rfl (Nat.le_of_ble_eq_true rfl) hS (fun _ h => h) dX3_post_29 ⟨Nat.zero_le _, Nat.zero_le _⟩ (fun G locs hP _ _ hS => ?_)
        have hk9 : kPost n (nI jp0) p1 = 1 := by simp [kPost, noneOr, Int32.not_lt, c1, c2, c3]
        refine li_topi (show nI 0 = vPost n σ (nI jp0) p1 from by unfold vPost; rw [hk9]; first | rfl | (rw [if_pos rfl]; repeat rw [nN_nI (by omega)])) ?_
        have hw9 : (nI 1) = nI (kPost n (nI jp0) p1) := by rw [hk9]
        have hP : va_P D vwCl (wM cI cZ a (nI (kPost n (nI jp0) p1)) n nw ns σ η) G := Eq.mp (congrArg (fun z9 => va_P D vwCl (wM cI cZ a z9 n nw ns σ η) G) hw9) hP
        clear hw9
        have hw9 : σ = sPost n σ (nI jp0) p1 := by unfold sPost; rw [hk9]; first | rfl | (simp only [nN_nI (show _ < 2 ^ 31 by omega)]; rfl) | (rw [if_pos rfl]; repeat rw [nN_nI (by omega)])
        have hP : va_P D vwCl (wM cI cZ a (nI (kPost n (nI jp0) p1)) n nw ns (sPost n σ (nI jp0) p1) η) G := Eq.mp (congrArg (fun z9 => va_P D vwCl (wM cI cZ a (nI (kPost n (nI jp0) p1)) n nw ns z9 η) G) hw9) hP
        clear hw9
        exact hEnd 32 ls G locs dX3_post_32 hP hS
set_option maxHeartbeats 4000000 in
set_option maxRecDepth 100000 in
theorem c_X3_setWind (l : Launch) (D : va_G) (cI cZ cL cO : ClassId) (a : Nat → Nat) (th : Int32) (n nw ns : Nat) (σ η : Sg) (H : Heap) (p0 : Int32) (p1 : Int32) (A : Nat → Prop) (hA : okP A a 13) (hB : n ≤ 10 ∧ nw ≤ 20 ∧ ns ≤ 6) : Met l yX3_setWind wsX3_setWind ({ frames := 1, cells := 0, slots := 0, locals := 22 } : Room) (ro_P D (T4 cI cZ cL cO) (wM cI cZ a th n nw ns σ η) H [.ref (a 0), .int p0, .int p1]) (mi_Q D (vWind σ p0 p1) (wM cI cZ a (nI (kWind p0 p1)) n nw ns (sWind σ p0 p1) η) A) 0 0 A := by
  refine mi_of (cc := cX3_setWind) (maxL := 4) (by decide) rfl (Nat.le_of_ble_eq_true rfl) rfl ?_
  intro p e s m args below meth c Q ls locs hx hb hml hown hts hK hE hP hl hS hEnd
  have hl : lv_has ls 4 [(0, .ref (a 0)), (1, .int p0), (2, .int p1)] := hl
  have hX3 : ∀ w ∈ wsX30, w.before args s = true := fun w h => hts w (List.mem_cons_of_mem _ (List.mem_append_right _ (h)))
  have f47 : (Cond.fieldLink RX3 47 "LanternWalkModel" "thrown" "I").before args s = true := hts _ (List.mem_of_getElem? (i := 1) rfl)
  have f16 : (Cond.fieldLink RX3 16 "LanternWalkModel" "wind" "[I").before args s = true := hts _ (List.mem_of_getElem? (i := 2) rfl)
  refine lv_aload_n hx hb dX3_setWind_0 rfl (lv_at hl 0 rfl) ?_
  refine lv_iconst (v := nI 0) hx hb dX3_setWind_1 rfl ?_
  refine li_pf3 hx hb hX3 hown hK hP hA.DM hS 0 rfl 0 (by decide) f47 rfl rfl rfl (Nat.le_of_ble_eq_true rfl) stM_th dX3_setWind_2 (fun G locs hP hS => ?_)
  refine lv_iload_n hx hb dX3_setWind_5 rfl (lv_at hl 1 rfl) ?_
  refine lv_iconst (v := nI 0) hx hb dX3_setWind_6 rfl ?_
  refine lv_bipush (v := nI 9) hx hb dX3_setWind_7 rfl ?_
  refine roS (As := [.int p0, .int (nI 0), .int (nI 9)]) hx hb hml hown hts (c_X3_isI l D cI cZ cL cO G p0 (nI 0) (nI 9)) (va_cwS 3 hts gX3_setWind_X3_isIn rfl rfl rfl (by decide +kernel) ⟨by decide, by decide⟩) hK hE (hP.sub (ws' := []) [] rfl) rfl hl.1 rfl (Nat.le_of_ble_eq_true rfl) hS dX3_setWind_9 ⟨Nat.zero_le _, Nat.zero_le _⟩ (fun locs hS => ?_)
  refine li_zne (tgt := 21) hx hb dX3_setWind_12 (by decide) (fun c1 => ?_) (fun c1 => ?_)
  · skip
    obtain ⟨jp0, hljp0, hhjp0, rfl⟩ := isI_nat (lo := 0) (hi := 9) (by omega) (by omega) c1
    refine lv_iload_n hx hb dX3_setWind_21 rfl (lv_at hl 2 rfl) ?_
    refine lv_iconst (v := nI 0) hx hb dX3_setWind_22 rfl ?_
    refine lv_bipush (v := nI 9) hx hb dX3_setWind_23 rfl ?_
    refine roS (As := [.int p1, .int (nI 0), .int (nI 9)]) hx hb hml hown hts (c_X3_isI l D cI cZ cL cO G p1 (nI 0) (nI 9)) (va_cwS 3 hts gX3_setWind_X3_isIn rfl rfl rfl (by decide +kernel) ⟨by decide, by decide⟩) hK hE (hP.sub (ws' := []) [] rfl) rfl hl.1 rfl (Nat.le_of_ble_eq_true rfl) hS dX3_setWind_25 ⟨Nat.zero_le _, Nat.zero_le _⟩ (fun locs hS => ?_)
    refine li_zne (tgt := 37) hx hb dX3_setWind_28 (by decide) (fun c2 => ?_) (fun c2 => ?_)
    · skip
      obtain ⟨jp1, hljp1, hhjp1, rfl⟩ := isI_nat (lo := 0) (hi := 9) (by omega) (by omega) c2
      refine lv_aload_n hx hb dX3_setWind_37 rfl (lv_at hl 0 rfl) ?_
      refine li_gf3 hx hb hX3 hown hK hP 0 rfl 4 (by decide) f16 rfl dX3_setWind_38 ?_
      refine lv_iload_n hx hb dX3_setWind_41 rfl (lv_at hl 1 rfl) ?_
      refine li_ild hx hb hK hP 3 0 rfl rfl (by omega) (by decide) dX3_setWind_42 ?_
      refine lv_istore_n (lv' := [(3, .int (σ 3 jp0)), (0, .ref (a 0)), (1, .int (nI jp0)), (2, .int (nI jp1))]) hx hb dX3_setWind_43 rfl hl (by decide) rfl (fun ls hl => ?_)
      refine lv_aload_n hx hb dX3_setWind_44 rfl (lv_at hl 1 rfl) ?_
      refine li_gf3 hx hb hX3 hown hK hP 0 rfl 4 (by decide) f16 rfl dX3_setWind_45 ?_
      refine lv_iload_n hx hb dX3_setWind_48 rfl (lv_at hl 2 rfl) ?_
      refine lv_iload_n hx hb dX3_setWind_49 rfl (lv_at hl 3 rfl) ?_
      refine li_ist hx hb hK hP hA.DM hS 3 0 rfl rfl (by omega) (by decide) stM_3 dX3_setWind_50 (fun G locs hP hS => ?_)
      refine lv_iload_n hx hb dX3_setWind_51 rfl (lv_at hl 0 rfl) ?_
      have hk9 : kWind (nI jp0) (nI jp1) = 0 := by simp [kWind, noneOr, Int32.not_lt, c1, c2]
      refine li_topi (show σ 3 jp0 = vWind σ (nI jp0) (nI jp1) from by unfold vWind; rw [hk9]; first | rfl | (rw [if_pos rfl]; repeat rw [nN_nI (by omega)])) ?_
      have hw9 : nI 0 = nI (kWind (nI jp0) (nI jp1)) := by rw [hk9]
      have hP : va_P D vwCl (wM cI cZ a (nI (kWind (nI jp0) (nI jp1))) n nw ns (up2 σ 3 jp0 (nI jp1)) η) G := Eq.mp (congrArg (fun z9 => va_P D vwCl (wM cI cZ a z9 n nw ns (up2 σ 3 jp0 (nI jp1)) η) G) hw9) hP
      clear hw9
      have hw9 : up2 σ 3 jp0 (nI jp1) = sWind σ (nI jp0) (nI jp1) := by unfold sWind; rw [hk9]; first | rfl | (simp only [nN_nI (show _ < 2 ^ 31 by omega)]; rfl) | (rw [if_pos rfl]; repeat rw [nN_nI (by omega)])
      have hP : va_P D vwCl (wM cI cZ a (nI (kWind (nI jp0) (nI jp1))) n nw ns (sWind σ (nI jp0) (nI jp1)) η) G := Eq.mp (congrArg (fun z9 => va_P D vwCl (wM cI cZ a (nI (kWind (nI jp0) (nI jp1))) n nw ns z9 η) G) hw9) hP
      clear hw9
      exact hEnd 52 ls G locs dX3_setWind_52 hP hS
    · skip
      refine lv_aload_n hx hb dX3_setWind_31 rfl (lv_at hl 0 rfl) ?_
      refine lv_iconst (v := nI 2) hx hb dX3_setWind_32 rfl ?_
      refine miV (As := [.int (nI 2)]) (q0 := 0) (ci := 3) hx hb hml hown hts (c_X3_fail l D cI cZ cL cO a (nI 0) n nw ns σ η G (nI 2) A hA (hB)) (cwV 1 hts gX3_setWind_X3_fail rfl rfl rfl (by decide +kernel) ⟨by decide, by decide⟩) hK hE hP rfl rfl rfl rfl hl.1 rfl (Nat.le_of_ble_eq_true rfl) hS (fun _ h => h) dX3_setWind_33 ⟨Nat.zero_le _, Nat.zero_le _⟩ (fun G locs hP _ _ hS => ?_)
      have hk9 : kWind (nI jp0) p1 = 2 := by simp [kWind, noneOr, Int32.not_lt, c1, c2]
      refine li_topi (show nI 0 = vWind σ (nI jp0) p1 from by unfold vWind; rw [hk9]; first | rfl | (rw [if_pos rfl]; repeat rw [nN_nI (by omega)])) ?_
      have hw9 : (nI 2) = nI (kWind (nI jp0) p1) := by rw [hk9]
      have hP : va_P D vwCl (wM cI cZ a (nI (kWind (nI jp0) p1)) n nw ns σ η) G := Eq.mp (congrArg (fun z9 => va_P D vwCl (wM cI cZ a z9 n nw ns σ η) G) hw9) hP
      clear hw9
      have hw9 : σ = sWind σ (nI jp0) p1 := by unfold sWind; rw [hk9]; first | rfl | (simp only [nN_nI (show _ < 2 ^ 31 by omega)]; rfl) | (rw [if_pos rfl]; repeat rw [nN_nI (by omega)])
      have hP : va_P D vwCl (wM cI cZ a (nI (kWind (nI jp0) p1)) n nw ns (sWind σ (nI jp0) p1) η) G := Eq.mp (congrArg (fun z9 => va_P D vwCl (wM cI cZ a (nI (kWind (nI jp0) p1)) n nw ns z9 η) G) hw9) hP
      clear hw9
      exact hEnd 36 ls G locs dX3_setWind_36 hP hS
  · skip
    refine lv_aload_n hx hb dX3_setWind_15 rfl (lv_at hl 0 rfl) ?_
    refine lv_iconst (v := nI 1) hx hb dX3_setWind_16 rfl ?_
    refine miV (As := [.int (nI 1)]) (q0 := 0) (ci := 3) hx hb hml hown hts (c_X3_fail l D cI cZ cL cO a (nI 0) n nw ns σ η G (nI 1) A hA (hB)) (cwV 1 hts gX3_setWind_X3_fail rfl rfl rfl (by decide +kernel) ⟨by decide, by decide⟩) hK hE hP rfl rfl rfl rfl hl.1 rfl (Nat.le_of_ble_eq_true rfl) hS (fun _ h => h) dX3_setWind_17 ⟨Nat.zero_le _, Nat.zero_le _⟩ (fun G locs hP _ _ hS => ?_)
    have hk9 : kWind p0 p1 = 1 := by simp [kWind, noneOr, Int32.not_lt, c1]
    refine li_topi (show nI 0 = vWind σ p0 p1 from by unfold vWind; rw [hk9]; first | rfl | (rw [if_pos rfl]; repeat rw [nN_nI (by omega)])) ?_
    have hw9 : (nI 1) = nI (kWind p0 p1) := by rw [hk9]
    have hP : va_P D vwCl (wM cI cZ a (nI (kWind p0 p1)) n nw ns σ η) G := Eq.mp (congrArg (fun z9 => va_P D vwCl (wM cI cZ a z9 n nw ns σ η) G) hw9) hP
    clear hw9
    have hw9 : σ = sWind σ p0 p1 := by unfold sWind; rw [hk9]; first | rfl | (simp only [nN_nI (show _ < 2 ^ 31 by omega)]; rfl) | (rw [if_pos rfl]; repeat rw [nN_nI (by omega)])
    have hP : va_P D vwCl (wM cI cZ a (nI (kWind p0 p1)) n nw ns (sWind σ p0 p1) η) G := Eq.mp (congrArg (fun z9 => va_P D vwCl (wM cI cZ a (nI (kWind p0 p1)) n nw ns z9 η) G) hw9) hP
    clear hw9
    exact hEnd 20 ls G locs dX3_setWind_20 hP hS
set_option maxHeartbeats 4000000 in
set_option maxRecDepth 100000 in
theorem c_X3_trim (l : Launch) (D : va_G) (cI cZ cL cO : ClassId) (a : Nat → Nat) (th : Int32) (n nw ns : Nat) (σ η : Sg) (H : Heap) (p0 : Int32) (p1 : Int32) (A : Nat → Prop) (hA : okP A a 13) (hB : n ≤ 10 ∧ nw ≤ 20 ∧ ns ≤ 6) : Met l yX3_trim wsX3_trim ({ frames := 2, cells := 0, slots := 0, locals := 43 } : Room) (ro_P D (T4 cI cZ cL cO) (wM cI cZ a th n nw ns σ η) H [.ref (a 0), .int p0, .int p1]) (mi_Q D (vTrim nw σ p0 p1) (wM cI cZ a (nI (kTrim nw σ p0 p1)) n nw ns (sTrim nw σ p0 p1) η) A) 0 0 A := by
  refine mi_of (cc := cX3_trim) (maxL := 3) (by decide) rfl (Nat.le_of_ble_eq_true rfl) rfl ?_
  intro p e s m args below meth c Q ls locs hx hb hml hown hts hK hE hP hl hS hEnd
  have hl : lv_has ls 3 [(0, .ref (a 0)), (1, .int p0), (2, .int p1)] := hl
  have hX3 : ∀ w ∈ wsX30, w.before args s = true := fun w h => hts w (List.mem_cons_of_mem _ (List.mem_append_right _ (h)))
  have f47 : (Cond.fieldLink RX3 47 "LanternWalkModel" "thrown" "I").before args s = true := hts _ (List.mem_of_getElem? (i := 1) rfl)
  have g1 : (Cond.methodLink RX3 92 Lib.Math.min.name).before args s = true := hts _ (List.mem_of_getElem? (i := 2) rfl)
  have g2 : (Cond.static Lib.Math.min.name).before args s = true := hts _ (List.mem_of_getElem? (i := 3) rfl)
  have g3 : (Cond.initialized "java/lang/Math").before args s = true := hts _ (List.mem_of_getElem? (i := 4) rfl)
  have g4 : (Cond.code Lib.Math.min.name Lib.Math.min.code 2 (some .int)).before args s = true := hts _ (List.mem_of_getElem? (i := 5) rfl)
  refine lv_aload_n hx hb dX3_trim_0 rfl (lv_at hl 0 rfl) ?_
  refine lv_iconst (v := nI 0) hx hb dX3_trim_1 rfl ?_
  refine li_pf3 hx hb hX3 hown hK hP hA.DM hS 0 rfl 0 (by decide) f47 rfl rfl rfl (Nat.le_of_ble_eq_true rfl) stM_th dX3_trim_2 (fun G locs hP hS => ?_)
  refine lv_aload_n hx hb dX3_trim_5 rfl (lv_at hl 0 rfl) ?_
  refine lv_iload_n hx hb dX3_trim_6 rfl (lv_at hl 1 rfl) ?_
  refine roV (As := [.int p0]) (q0 := 0) (ci := 3) hx hb hml hown hts (c_X3_isWalker l D cI cZ cL cO a (nI 0) n nw ns σ η G p0 (hB)) (cwV 1 hts gX3_trim_X3_isWalker rfl rfl rfl (by decide +kernel) ⟨by decide, by decide⟩) hK hE hP rfl rfl rfl rfl hl.1 rfl (Nat.le_of_ble_eq_true rfl) hS dX3_trim_7 ⟨Nat.zero_le _, Nat.zero_le _⟩ (fun locs hS => ?_)
  refine li_zne (tgt := 19) hx hb dX3_trim_10 (by decide) (fun c1 => ?_) (fun c1 => ?_)
  · skip
    obtain ⟨jp0, hhjp0, rfl⟩ := has_nat (by omega) c1
    refine lv_iload_n hx hb dX3_trim_19 rfl (lv_at hl 2 rfl) ?_
    refine lv_iconst (v := nI 1) hx hb dX3_trim_20 rfl ?_
    refine lv_sipush (v := nI 200) hx hb dX3_trim_21 rfl ?_
    refine roS (As := [.int p1, .int (nI 1), .int (nI 200)]) hx hb hml hown hts (c_X3_isI l D cI cZ cL cO G p1 (nI 1) (nI 200)) (va_cwS 3 hts gX3_trim_X3_isIn rfl rfl rfl (by decide +kernel) ⟨by decide, by decide⟩) hK hE (hP.sub (ws' := []) [] rfl) rfl hl.1 rfl (Nat.le_of_ble_eq_true rfl) hS dX3_trim_24 ⟨Nat.zero_le _, Nat.zero_le _⟩ (fun locs hS => ?_)
    refine li_zne (tgt := 36) hx hb dX3_trim_27 (by decide) (fun c2 => ?_) (fun c2 => ?_)
    · skip
      obtain ⟨jp1, hljp1, hhjp1, rfl⟩ := isI_nat (lo := 1) (hi := 200) (by omega) (by omega) c2
      refine lv_aload_n hx hb dX3_trim_36 rfl (lv_at hl 0 rfl) ?_
      refine lv_iload_n hx hb dX3_trim_37 rfl (lv_at hl 1 rfl) ?_
      refine lv_iconst (v := nI 4) hx hb dX3_trim_38 rfl ?_
      refine roV (As := [.int (nI jp0), .int (nI 4)]) (q0 := 0) (ci := 3) hx hb hml hown hts (c_X3_pe l D cI cZ cL cO a (nI 0) n nw ns σ η G jp0 4 (hB) (by omega) (by omega)) (cwV 2 hts gX3_trim_X3_pe rfl rfl rfl (by decide +kernel) ⟨by decide, by decide⟩) hK hE hP rfl rfl rfl rfl hl.1 rfl (Nat.le_of_ble_eq_true rfl) hS dX3_trim_39 ⟨Nat.zero_le _, Nat.zero_le _⟩ (fun locs hS => ?_)
      refine li_topi (show σ (pid 4) jp0 = σ 12 jp0 from rfl) ?_
      refine lv_iconst (v := nI 2) hx hb dX3_trim_42 rfl ?_
      refine lv_icmp_ne (tgt := 52) hx hb dX3_trim_43 (by decide) (fun c3 => ?_) (fun c3 => ?_)
      · skip
        refine lv_aload_n hx hb dX3_trim_52 rfl (lv_at hl 0 rfl) ?_
        refine lv_iload_n hx hb dX3_trim_53 rfl (lv_at hl 1 rfl) ?_
        refine lv_iconst (v := nI 1) hx hb dX3_trim_54 rfl ?_
        refine lv_sipush (v := nI 200) hx hb dX3_trim_55 rfl ?_
        refine lv_aload_n hx hb dX3_trim_58 rfl (lv_at hl 0 rfl) ?_
        refine lv_iload_n hx hb dX3_trim_59 rfl (lv_at hl 1 rfl) ?_
        refine lv_iconst (v := nI 1) hx hb dX3_trim_60 rfl ?_
        refine roV (As := [.int (nI jp0), .int (nI 1)]) (q0 := 0) (ci := 3) hx hb hml hown hts (c_X3_pe l D cI cZ cL cO a (nI 0) n nw ns σ η G jp0 1 (hB) (by omega) (by omega)) (cwV 2 hts gX3_trim_X3_pe rfl rfl rfl (by decide +kernel) ⟨by decide, by decide⟩) hK hE hP rfl rfl rfl rfl hl.1 rfl (Nat.le_of_ble_eq_true rfl) hS dX3_trim_61 ⟨Nat.zero_le _, Nat.zero_le _⟩ (fun locs hS => ?_)
        refine li_topi (show σ (pid 1) jp0 = σ 10 jp0 from rfl) ?_
        refine lv_iload_n hx hb dX3_trim_64 rfl (lv_at hl 2 rfl) ?_
        refine lv_iadd hx hb dX3_trim_65 ?_
        refine va_mmin hx hb (hml.trans hl.1.symm) hown g1 g2 g3 g4 (by decide) (Nat.le_of_ble_eq_true rfl) (Nat.zero_le _) (Nat.zero_le _) dX3_trim_66 ?_
        refine muV (As := [.int (nI jp0), .int (nI 1), .int (if (σ 10 jp0) + (nI jp1) < nI 200 then (σ 10 jp0) + (nI jp1) else nI 200)]) (q0 := 0) (ci := 3) hx hb hml hown hts (c_X3_set l D cI cZ cL cO a (nI 0) n nw ns σ η G jp0 1 (if (σ 10 jp0) + (nI jp1) < nI 200 then (σ 10 jp0) + (nI jp1) else nI 200) A hA (hB) (by omega) (by omega)) (cwV 3 hts gX3_trim_X3_set rfl rfl rfl (by decide +kernel) ⟨by decide, by decide⟩) hK hE hP rfl rfl rfl rfl hl.1 rfl (Nat.le_of_ble_eq_true rfl) hS (fun _ h => h) dX3_trim_69 ⟨Nat.zero_le _, Nat.zero_le _⟩ (fun G locs hP _ _ hS => ?_)
        have hP : va_P D vwCl (wM cI cZ a (nI 0) n nw ns (up2 σ 10 jp0 (if (σ 10 jp0) + (nI jp1) < nI 200 then (σ 10 jp0) + (nI jp1) else nI 200)) η) G := hP
        refine lv_aload_n hx hb dX3_trim_72 rfl (lv_at hl 0 rfl) ?_
        refine lv_iload_n hx hb dX3_trim_73 rfl (lv_at hl 1 rfl) ?_
        refine lv_iconst (v := nI 3) hx hb dX3_trim_74 rfl ?_
        refine lv_iconst (v := nI 1) hx hb dX3_trim_75 rfl ?_
        refine muV (As := [.int (nI jp0), .int (nI 3), .int (nI 1)]) (q0 := 0) (ci := 3) hx hb hml hown hts (c_X3_set l D cI cZ cL cO a (nI 0) n nw ns (up2 σ 10 jp0 (if (σ 10 jp0) + (nI jp1) < nI 200 then (σ 10 jp0) + (nI jp1) else nI 200)) η G jp0 3 (nI 1) A hA (hB) (by omega) (by omega)) (cwV 3 hts gX3_trim_X3_set rfl rfl rfl (by decide +kernel) ⟨by decide, by decide⟩) hK hE hP rfl rfl rfl rfl hl.1 rfl (Nat.le_of_ble_eq_true rfl) hS (fun _ h => h) dX3_trim_76 ⟨Nat.zero_le _, Nat.zero_le _⟩ (fun G locs hP _ _ hS => ?_)
        have hP : va_P D vwCl (wM cI cZ a (nI 0) n nw ns (up2 (up2 σ 10 jp0 (if (σ 10 jp0) + (nI jp1) < nI 200 then (σ 10 jp0) + (nI jp1) else nI 200)) 11 jp0 (nI 1)) η) G := hP
        refine lv_aload_n hx hb dX3_trim_79 rfl (lv_at hl 0 rfl) ?_
        refine lv_iload_n hx hb dX3_trim_80 rfl (lv_at hl 1 rfl) ?_
        refine lv_iconst (v := nI 1) hx hb dX3_trim_81 rfl ?_
        refine roV (As := [.int (nI jp0), .int (nI 1)]) (q0 := 0) (ci := 3) hx hb hml hown hts (c_X3_pe l D cI cZ cL cO a (nI 0) n nw ns (up2 (up2 σ 10 jp0 (if (σ 10 jp0) + (nI jp1) < nI 200 then (σ 10 jp0) + (nI jp1) else nI 200)) 11 jp0 (nI 1)) η G jp0 1 (hB) (by omega) (by omega)) (cwV 2 hts gX3_trim_X3_pe rfl rfl rfl (by decide +kernel) ⟨by decide, by decide⟩) hK hE hP rfl rfl rfl rfl hl.1 rfl (Nat.le_of_ble_eq_true rfl) hS dX3_trim_82 ⟨Nat.zero_le _, Nat.zero_le _⟩ (fun locs hS => ?_)
        refine li_topi (show (up2 (up2 σ 10 jp0 (if (σ 10 jp0) + (nI jp1) < nI 200 then (σ 10 jp0) + (nI jp1) else nI 200)) 11 jp0 (nI 1)) (pid 1) jp0 = (up2 (up2 σ 10 jp0 (if (σ 10 jp0) + (nI jp1) < nI 200 then (σ 10 jp0) + (nI jp1) else nI 200)) 11 jp0 (nI 1)) 10 jp0 from rfl) ?_
        have hk9 : kTrim nw σ (nI jp0) (nI jp1) = 0 := by simp [kTrim, noneOr, Int32.not_lt, nN_nI (show jp0 < 2 ^ 31 by omega), c1, c2, c3]
        refine li_topi (show (up2 (up2 σ 10 jp0 (if (σ 10 jp0) + (nI jp1) < nI 200 then (σ 10 jp0) + (nI jp1) else nI 200)) 11 jp0 (nI 1)) 10 jp0 = vTrim nw σ (nI jp0) (nI jp1) from by unfold vTrim; rw [hk9]; first | rfl | (rw [if_pos rfl]; unfold wTrim; repeat rw [nN_nI (by omega)]; simp [up2_at])) ?_
        have hw9 : nI 0 = nI (kTrim nw σ (nI jp0) (nI jp1)) := by rw [hk9]
        have hP : va_P D vwCl (wM cI cZ a (nI (kTrim nw σ (nI jp0) (nI jp1))) n nw ns (up2 (up2 σ 10 jp0 (if (σ 10 jp0) + (nI jp1) < nI 200 then (σ 10 jp0) + (nI jp1) else nI 200)) 11 jp0 (nI 1)) η) G := Eq.mp (congrArg (fun z9 => va_P D vwCl (wM cI cZ a z9 n nw ns (up2 (up2 σ 10 jp0 (if (σ 10 jp0) + (nI jp1) < nI 200 then (σ 10 jp0) + (nI jp1) else nI 200)) 11 jp0 (nI 1)) η) G) hw9) hP
        clear hw9
        have hw9 : up2 (up2 σ 10 jp0 (if (σ 10 jp0) + (nI jp1) < nI 200 then (σ 10 jp0) + (nI jp1) else nI 200)) 11 jp0 (nI 1) = sTrim nw σ (nI jp0) (nI jp1) := by unfold sTrim; rw [hk9]; first | rfl | (rw [if_pos rfl]; unfold wTrim; repeat rw [nN_nI (by omega)])
        have hP : va_P D vwCl (wM cI cZ a (nI (kTrim nw σ (nI jp0) (nI jp1))) n nw ns (sTrim nw σ (nI jp0) (nI jp1)) η) G := Eq.mp (congrArg (fun z9 => va_P D vwCl (wM cI cZ a (nI (kTrim nw σ (nI jp0) (nI jp1))) n nw ns z9 η) G) hw9) hP
        clear hw9
        exact hEnd 85 ls G locs dX3_trim_85 hP hS
      · skip
        refine lv_aload_n hx hb dX3_trim_46 rfl (lv_at hl 0 rfl) ?_
        refine lv_iconst (v := nI 3) hx hb dX3_trim_47 rfl ?_
        refine miV (As := [.int (nI 3)]) (q0 := 0) (ci := 3) hx hb hml hown hts (c_X3_fail l D cI cZ cL cO a (nI 0) n nw ns σ η G (nI 3) A hA (hB)) (cwV 1 hts gX3_trim_X3_fail rfl rfl rfl (by decide +kernel) ⟨by decide, by decide⟩) hK hE hP rfl rfl rfl rfl hl.1 rfl (Nat.le_of_ble_eq_true rfl) hS (fun _ h => h) dX3_trim_48 ⟨Nat.zero_le _, Nat.zero_le _⟩ (fun G locs hP _ _ hS => ?_)
        have hk9 : kTrim nw σ (nI jp0) (nI jp1) = 3 := by simp [kTrim, noneOr, Int32.not_lt, nN_nI (show jp0 < 2 ^ 31 by omega), c1, c2, c3]
        refine li_topi (show nI 0 = vTrim nw σ (nI jp0) (nI jp1) from by unfold vTrim; rw [hk9]; first | rfl | (rw [if_pos rfl]; unfold wTrim; repeat rw [nN_nI (by omega)]; simp [up2_at])) ?_
        have hw9 : (nI 3) = nI (kTrim nw σ (nI jp0) (nI jp1)) := by rw [hk9]
        have hP : va_P D vwCl (wM cI cZ a (nI (kTrim nw σ (nI jp0) (nI jp1))) n nw ns σ η) G := Eq.mp (congrArg (fun z9 => va_P D vwCl (wM cI cZ a z9 n nw ns σ η) G) hw9) hP
        clear hw9
        have hw9 : σ = sTrim nw σ (nI jp0) (nI jp1) := by unfold sTrim; rw [hk9]; first | rfl | (rw [if_pos rfl]; unfold wTrim; repeat rw [nN_nI (by omega)])
        have hP : va_P D vwCl (wM cI cZ a (nI (kTrim nw σ (nI jp0) (nI jp1))) n nw ns (sTrim nw σ (nI jp0) (nI jp1)) η) G := Eq.mp (congrArg (fun z9 => va_P D vwCl (wM cI cZ a (nI (kTrim nw σ (nI jp0) (nI jp1))) n nw ns z9 η) G) hw9) hP
        clear hw9
        exact hEnd 51 ls G locs dX3_trim_51 hP hS
    · skip
      refine lv_aload_n hx hb dX3_trim_30 rfl (lv_at hl 0 rfl) ?_
      refine lv_iconst (v := nI 2) hx hb dX3_trim_31 rfl ?_
      refine miV (As := [.int (nI 2)]) (q0 := 0) (ci := 3) hx hb hml hown hts (c_X3_fail l D cI cZ cL cO a (nI 0) n nw ns σ η G (nI 2) A hA (hB)) (cwV 1 hts gX3_trim_X3_fail rfl rfl rfl (by decide +kernel) ⟨by decide, by decide⟩) hK hE hP rfl rfl rfl rfl hl.1 rfl (Nat.le_of_ble_eq_true rfl) hS (fun _ h => h) dX3_trim_32 ⟨Nat.zero_le _, Nat.zero_le _⟩ (fun G locs hP _ _ hS => ?_)
      have hk9 : kTrim nw σ (nI jp0) p1 = 2 := by simp [kTrim, noneOr, Int32.not_lt, nN_nI (show jp0 < 2 ^ 31 by omega), c1, c2]
      refine li_topi (show nI 0 = vTrim nw σ (nI jp0) p1 from by unfold vTrim; rw [hk9]; first | rfl | (rw [if_pos rfl]; unfold wTrim; repeat rw [nN_nI (by omega)]; simp [up2_at])) ?_
      have hw9 : (nI 2) = nI (kTrim nw σ (nI jp0) p1) := by rw [hk9]
      have hP : va_P D vwCl (wM cI cZ a (nI (kTrim nw σ (nI jp0) p1)) n nw ns σ η) G := Eq.mp (congrArg (fun z9 => va_P D vwCl (wM cI cZ a z9 n nw ns σ η) G) hw9) hP
      clear hw9
      have hw9 : σ = sTrim nw σ (nI jp0) p1 := by unfold sTrim; rw [hk9]; first | rfl | (rw [if_pos rfl]; unfold wTrim; repeat rw [nN_nI (by omega)])
      have hP : va_P D vwCl (wM cI cZ a (nI (kTrim nw σ (nI jp0) p1)) n nw ns (sTrim nw σ (nI jp0) p1) η) G := Eq.mp (congrArg (fun z9 => va_P D vwCl (wM cI cZ a (nI (kTrim nw σ (nI jp0) p1)) n nw ns z9 η) G) hw9) hP
      clear hw9
      exact hEnd 35 ls G locs dX3_trim_35 hP hS
  · skip
    refine lv_aload_n hx hb dX3_trim_13 rfl (lv_at hl 0 rfl) ?_
    refine lv_iconst (v := nI 1) hx hb dX3_trim_14 rfl ?_
    refine miV (As := [.int (nI 1)]) (q0 := 0) (ci := 3) hx hb hml hown hts (c_X3_fail l D cI cZ cL cO a (nI 0) n nw ns σ η G (nI 1) A hA (hB)) (cwV 1 hts gX3_trim_X3_fail rfl rfl rfl (by decide +kernel) ⟨by decide, by decide⟩) hK hE hP rfl rfl rfl rfl hl.1 rfl (Nat.le_of_ble_eq_true rfl) hS (fun _ h => h) dX3_trim_15 ⟨Nat.zero_le _, Nat.zero_le _⟩ (fun G locs hP _ _ hS => ?_)
    have hk9 : kTrim nw σ p0 p1 = 1 := by simp [kTrim, noneOr, Int32.not_lt, c1]
    refine li_topi (show nI 0 = vTrim nw σ p0 p1 from by unfold vTrim; rw [hk9]; first | rfl | (rw [if_pos rfl]; unfold wTrim; repeat rw [nN_nI (by omega)]; simp [up2_at])) ?_
    have hw9 : (nI 1) = nI (kTrim nw σ p0 p1) := by rw [hk9]
    have hP : va_P D vwCl (wM cI cZ a (nI (kTrim nw σ p0 p1)) n nw ns σ η) G := Eq.mp (congrArg (fun z9 => va_P D vwCl (wM cI cZ a z9 n nw ns σ η) G) hw9) hP
    clear hw9
    have hw9 : σ = sTrim nw σ p0 p1 := by unfold sTrim; rw [hk9]; first | rfl | (rw [if_pos rfl]; unfold wTrim; repeat rw [nN_nI (by omega)])
    have hP : va_P D vwCl (wM cI cZ a (nI (kTrim nw σ p0 p1)) n nw ns (sTrim nw σ p0 p1) η) G := Eq.mp (congrArg (fun z9 => va_P D vwCl (wM cI cZ a (nI (kTrim nw σ p0 p1)) n nw ns z9 η) G) hw9) hP
    clear hw9
    exact hEnd 18 ls G locs dX3_trim_18 hP hS
set_option maxHeartbeats 4000000 in
set_option maxRecDepth 100000 in
theorem c_X3_teach (l : Launch) (D : va_G) (cI cZ cL cO : ClassId) (a : Nat → Nat) (th : Int32) (n nw ns : Nat) (σ η : Sg) (H : Heap) (p0 : Int32) (p1 : Int32) (p2 : Int32) (A : Nat → Prop) (hA : okP A a 13) (hB : n ≤ 10 ∧ nw ≤ 20 ∧ ns ≤ 6) : Met l yX3_teach wsX3_teach ({ frames := 2, cells := 0, slots := 0, locals := 43 } : Room) (ro_P D (T4 cI cZ cL cO) (wM cI cZ a th n nw ns σ η) H [.ref (a 0), .int p0, .int p1, .int p2]) (mi_Q D (vTeach nw ns σ p0 p1 p2) (wM cI cZ a (nI (kTeach nw ns p0 p1 p2)) n nw ns (sTeach nw ns σ p0 p1 p2) η) A) 0 0 A := by
  refine mi_of (cc := cX3_teach) (maxL := 5) (by decide) rfl (Nat.le_of_ble_eq_true rfl) rfl ?_
  intro p e s m args below meth c Q ls locs hx hb hml hown hts hK hE hP hl hS hEnd
  have hl : lv_has ls 5 [(0, .ref (a 0)), (1, .int p0), (2, .int p1), (3, .int p2)] := hl
  have hX3 : ∀ w ∈ wsX30, w.before args s = true := fun w h => hts w (List.mem_cons_of_mem _ (List.mem_append_right _ (h)))
  have f47 : (Cond.fieldLink RX3 47 "LanternWalkModel" "thrown" "I").before args s = true := hts _ (List.mem_of_getElem? (i := 1) rfl)
  have f25 : (Cond.fieldLink RX3 25 "LanternWalkModel" "known" "[I").before args s = true := hts _ (List.mem_of_getElem? (i := 2) rfl)
  refine lv_aload_n hx hb dX3_teach_0 rfl (lv_at hl 0 rfl) ?_
  refine lv_iconst (v := nI 0) hx hb dX3_teach_1 rfl ?_
  refine li_pf3 hx hb hX3 hown hK hP hA.DM hS 0 rfl 0 (by decide) f47 rfl rfl rfl (Nat.le_of_ble_eq_true rfl) stM_th dX3_teach_2 (fun G locs hP hS => ?_)
  refine lv_aload_n hx hb dX3_teach_5 rfl (lv_at hl 0 rfl) ?_
  refine lv_iload_n hx hb dX3_teach_6 rfl (lv_at hl 1 rfl) ?_
  refine roV (As := [.int p0]) (q0 := 0) (ci := 3) hx hb hml hown hts (c_X3_isWalker l D cI cZ cL cO a (nI 0) n nw ns σ η G p0 (hB)) (cwV 1 hts gX3_teach_X3_isWalker rfl rfl rfl (by decide +kernel) ⟨by decide, by decide⟩) hK hE hP rfl rfl rfl rfl hl.1 rfl (Nat.le_of_ble_eq_true rfl) hS dX3_teach_7 ⟨Nat.zero_le _, Nat.zero_le _⟩ (fun locs hS => ?_)
  refine li_zeq (tgt := 21) hx hb dX3_teach_10 (by decide) (fun c1 => ?_) (fun c1 => ?_)
  · skip
    refine lv_aload_n hx hb dX3_teach_21 rfl (lv_at hl 0 rfl) ?_
    refine lv_iconst (v := nI 1) hx hb dX3_teach_22 rfl ?_
    refine miV (As := [.int (nI 1)]) (q0 := 0) (ci := 3) hx hb hml hown hts (c_X3_fail l D cI cZ cL cO a (nI 0) n nw ns σ η G (nI 1) A hA (hB)) (cwV 1 hts gX3_teach_X3_fail rfl rfl rfl (by decide +kernel) ⟨by decide, by decide⟩) hK hE hP rfl rfl rfl rfl hl.1 rfl (Nat.le_of_ble_eq_true rfl) hS (fun _ h => h) dX3_teach_23 ⟨Nat.zero_le _, Nat.zero_le _⟩ (fun G locs hP _ _ hS => ?_)
    have hk9 : kTeach nw ns p0 p1 p2 = 1 := by simp [kTeach, noneOr, Int32.not_lt, c1]
    refine li_topi (show nI 0 = vTeach nw ns σ p0 p1 p2 from by unfold vTeach; rw [hk9]; first | rfl | (rw [if_pos rfl]; repeat rw [nN_nI (by omega)])) ?_
    have hw9 : (nI 1) = nI (kTeach nw ns p0 p1 p2) := by rw [hk9]
    have hP : va_P D vwCl (wM cI cZ a (nI (kTeach nw ns p0 p1 p2)) n nw ns σ η) G := Eq.mp (congrArg (fun z9 => va_P D vwCl (wM cI cZ a z9 n nw ns σ η) G) hw9) hP
    clear hw9
    have hw9 : σ = sTeach nw ns σ p0 p1 p2 := by unfold sTeach; rw [hk9]; first | rfl | (simp only [nN_nI (show _ < 2 ^ 31 by omega)]; rfl) | (rw [if_pos rfl]; repeat rw [nN_nI (by omega)])
    have hP : va_P D vwCl (wM cI cZ a (nI (kTeach nw ns p0 p1 p2)) n nw ns (sTeach nw ns σ p0 p1 p2) η) G := Eq.mp (congrArg (fun z9 => va_P D vwCl (wM cI cZ a (nI (kTeach nw ns p0 p1 p2)) n nw ns z9 η) G) hw9) hP
    clear hw9
    exact hEnd 26 ls G locs dX3_teach_26 hP hS
  · skip
    obtain ⟨jp0, hhjp0, rfl⟩ := has_nat (by omega) c1
    refine lv_aload_n hx hb dX3_teach_13 rfl (lv_at hl 0 rfl) ?_
    refine lv_iload_n hx hb dX3_teach_14 rfl (lv_at hl 2 rfl) ?_
    refine roV (As := [.int p1]) (q0 := 0) (ci := 3) hx hb hml hown hts (c_X3_isSong l D cI cZ cL cO a (nI 0) n nw ns σ η G p1 (hB)) (cwV 1 hts gX3_teach_X3_isSong rfl rfl rfl (by decide +kernel) ⟨by decide, by decide⟩) hK hE hP rfl rfl rfl rfl hl.1 rfl (Nat.le_of_ble_eq_true rfl) hS dX3_teach_15 ⟨Nat.zero_le _, Nat.zero_le _⟩ (fun locs hS => ?_)
    refine li_zne (tgt := 27) hx hb dX3_teach_18 (by decide) (fun c2 => ?_) (fun c2 => ?_)
    · skip
      obtain ⟨jp1, hhjp1, rfl⟩ := has_nat (by omega) c2
      refine lv_iload_n hx hb dX3_teach_27 rfl (lv_at hl 3 rfl) ?_
      refine lv_iconst (v := nI 0) hx hb dX3_teach_28 rfl ?_
      refine lv_bipush (v := nI 99) hx hb dX3_teach_29 rfl ?_
      refine roS (As := [.int p2, .int (nI 0), .int (nI 99)]) hx hb hml hown hts (c_X3_isI l D cI cZ cL cO G p2 (nI 0) (nI 99)) (va_cwS 3 hts gX3_teach_X3_isIn rfl rfl rfl (by decide +kernel) ⟨by decide, by decide⟩) hK hE (hP.sub (ws' := []) [] rfl) rfl hl.1 rfl (Nat.le_of_ble_eq_true rfl) hS dX3_teach_31 ⟨Nat.zero_le _, Nat.zero_le _⟩ (fun locs hS => ?_)
      refine li_zne (tgt := 43) hx hb dX3_teach_34 (by decide) (fun c3 => ?_) (fun c3 => ?_)
      · skip
        obtain ⟨jp2, hljp2, hhjp2, rfl⟩ := isI_nat (lo := 0) (hi := 99) (by omega) (by omega) c3
        refine lv_aload_n hx hb dX3_teach_43 rfl (lv_at hl 0 rfl) ?_
        refine li_gf3 hx hb hX3 hown hK hP 0 rfl 9 (by decide) f25 rfl dX3_teach_44 ?_
        refine lv_bipush (v := nI 6) hx hb dX3_teach_47 rfl ?_
        refine lv_iload_n hx hb dX3_teach_49 rfl (lv_at hl 1 rfl) ?_
        refine lv_imul hx hb dX3_teach_50 ?_
        refine li_topi (pk_mul _ _) ?_
        refine lv_iload_n hx hb dX3_teach_51 rfl (lv_at hl 2 rfl) ?_
        refine lv_iadd hx hb dX3_teach_52 ?_
        refine li_topi (nI_add _ _) ?_
        refine li_ild hx hb hK hP 6 0 rfl rfl (by omega) (by decide) dX3_teach_53 ?_
        refine lv_istore (lv' := [(4, .int (σ 16 (6 * jp0 + jp1))), (0, .ref (a 0)), (1, .int (nI jp0)), (2, .int (nI jp1)), (3, .int (nI jp2))]) hx hb dX3_teach_54 hl (by decide) rfl (fun ls hl => ?_)
        refine lv_aload_n hx hb dX3_teach_56 rfl (lv_at hl 1 rfl) ?_
        refine li_gf3 hx hb hX3 hown hK hP 0 rfl 9 (by decide) f25 rfl dX3_teach_57 ?_
        refine lv_bipush (v := nI 6) hx hb dX3_teach_60 rfl ?_
        refine lv_iload_n hx hb dX3_teach_62 rfl (lv_at hl 2 rfl) ?_
        refine lv_imul hx hb dX3_teach_63 ?_
        refine li_topi (pk_mul _ _) ?_
        refine lv_iload_n hx hb dX3_teach_64 rfl (lv_at hl 3 rfl) ?_
        refine lv_iadd hx hb dX3_teach_65 ?_
        refine li_topi (nI_add _ _) ?_
        refine lv_iload_n hx hb dX3_teach_66 rfl (lv_at hl 4 rfl) ?_
        refine li_ist hx hb hK hP hA.DM hS 6 0 rfl rfl (by omega) (by decide) stM_16 dX3_teach_67 (fun G locs hP hS => ?_)
        refine lv_iload hx hb dX3_teach_68 (lv_at hl 0 rfl) ?_
        have hk9 : kTeach nw ns (nI jp0) (nI jp1) (nI jp2) = 0 := by simp [kTeach, noneOr, Int32.not_lt, c1, c2, c3]
        refine li_topi (show σ 16 (6 * jp0 + jp1) = vTeach nw ns σ (nI jp0) (nI jp1) (nI jp2) from by unfold vTeach; rw [hk9]; first | rfl | (rw [if_pos rfl]; repeat rw [nN_nI (by omega)])) ?_
        have hw9 : nI 0 = nI (kTeach nw ns (nI jp0) (nI jp1) (nI jp2)) := by rw [hk9]
        have hP : va_P D vwCl (wM cI cZ a (nI (kTeach nw ns (nI jp0) (nI jp1) (nI jp2))) n nw ns (up2 σ 16 (6 * jp0 + jp1) (nI jp2)) η) G := Eq.mp (congrArg (fun z9 => va_P D vwCl (wM cI cZ a z9 n nw ns (up2 σ 16 (6 * jp0 + jp1) (nI jp2)) η) G) hw9) hP
        clear hw9
        have hw9 : up2 σ 16 (6 * jp0 + jp1) (nI jp2) = sTeach nw ns σ (nI jp0) (nI jp1) (nI jp2) := by unfold sTeach; rw [hk9]; first | rfl | (simp only [nN_nI (show _ < 2 ^ 31 by omega)]; rfl) | (rw [if_pos rfl]; repeat rw [nN_nI (by omega)])
        have hP : va_P D vwCl (wM cI cZ a (nI (kTeach nw ns (nI jp0) (nI jp1) (nI jp2))) n nw ns (sTeach nw ns σ (nI jp0) (nI jp1) (nI jp2)) η) G := Eq.mp (congrArg (fun z9 => va_P D vwCl (wM cI cZ a (nI (kTeach nw ns (nI jp0) (nI jp1) (nI jp2))) n nw ns z9 η) G) hw9) hP
        clear hw9
        exact hEnd 70 ls G locs dX3_teach_70 hP hS
      · skip
        refine lv_aload_n hx hb dX3_teach_37 rfl (lv_at hl 0 rfl) ?_
        refine lv_iconst (v := nI 2) hx hb dX3_teach_38 rfl ?_
        refine miV (As := [.int (nI 2)]) (q0 := 0) (ci := 3) hx hb hml hown hts (c_X3_fail l D cI cZ cL cO a (nI 0) n nw ns σ η G (nI 2) A hA (hB)) (cwV 1 hts gX3_teach_X3_fail rfl rfl rfl (by decide +kernel) ⟨by decide, by decide⟩) hK hE hP rfl rfl rfl rfl hl.1 rfl (Nat.le_of_ble_eq_true rfl) hS (fun _ h => h) dX3_teach_39 ⟨Nat.zero_le _, Nat.zero_le _⟩ (fun G locs hP _ _ hS => ?_)
        have hk9 : kTeach nw ns (nI jp0) (nI jp1) p2 = 2 := by simp [kTeach, noneOr, Int32.not_lt, c1, c2, c3]
        refine li_topi (show nI 0 = vTeach nw ns σ (nI jp0) (nI jp1) p2 from by unfold vTeach; rw [hk9]; first | rfl | (rw [if_pos rfl]; repeat rw [nN_nI (by omega)])) ?_
        have hw9 : (nI 2) = nI (kTeach nw ns (nI jp0) (nI jp1) p2) := by rw [hk9]
        have hP : va_P D vwCl (wM cI cZ a (nI (kTeach nw ns (nI jp0) (nI jp1) p2)) n nw ns σ η) G := Eq.mp (congrArg (fun z9 => va_P D vwCl (wM cI cZ a z9 n nw ns σ η) G) hw9) hP
        clear hw9
        have hw9 : σ = sTeach nw ns σ (nI jp0) (nI jp1) p2 := by unfold sTeach; rw [hk9]; first | rfl | (simp only [nN_nI (show _ < 2 ^ 31 by omega)]; rfl) | (rw [if_pos rfl]; repeat rw [nN_nI (by omega)])
        have hP : va_P D vwCl (wM cI cZ a (nI (kTeach nw ns (nI jp0) (nI jp1) p2)) n nw ns (sTeach nw ns σ (nI jp0) (nI jp1) p2) η) G := Eq.mp (congrArg (fun z9 => va_P D vwCl (wM cI cZ a (nI (kTeach nw ns (nI jp0) (nI jp1) p2)) n nw ns z9 η) G) hw9) hP
        clear hw9
        exact hEnd 42 ls G locs dX3_teach_42 hP hS
    · skip
      refine lv_aload_n hx hb dX3_teach_21 rfl (lv_at hl 0 rfl) ?_
      refine lv_iconst (v := nI 1) hx hb dX3_teach_22 rfl ?_
      refine miV (As := [.int (nI 1)]) (q0 := 0) (ci := 3) hx hb hml hown hts (c_X3_fail l D cI cZ cL cO a (nI 0) n nw ns σ η G (nI 1) A hA (hB)) (cwV 1 hts gX3_teach_X3_fail rfl rfl rfl (by decide +kernel) ⟨by decide, by decide⟩) hK hE hP rfl rfl rfl rfl hl.1 rfl (Nat.le_of_ble_eq_true rfl) hS (fun _ h => h) dX3_teach_23 ⟨Nat.zero_le _, Nat.zero_le _⟩ (fun G locs hP _ _ hS => ?_)
      have hk9 : kTeach nw ns (nI jp0) p1 p2 = 1 := by simp [kTeach, noneOr, Int32.not_lt, c1, c2]
      refine li_topi (show nI 0 = vTeach nw ns σ (nI jp0) p1 p2 from by unfold vTeach; rw [hk9]; first | rfl | (rw [if_pos rfl]; repeat rw [nN_nI (by omega)])) ?_
      have hw9 : (nI 1) = nI (kTeach nw ns (nI jp0) p1 p2) := by rw [hk9]
      have hP : va_P D vwCl (wM cI cZ a (nI (kTeach nw ns (nI jp0) p1 p2)) n nw ns σ η) G := Eq.mp (congrArg (fun z9 => va_P D vwCl (wM cI cZ a z9 n nw ns σ η) G) hw9) hP
      clear hw9
      have hw9 : σ = sTeach nw ns σ (nI jp0) p1 p2 := by unfold sTeach; rw [hk9]; first | rfl | (simp only [nN_nI (show _ < 2 ^ 31 by omega)]; rfl) | (rw [if_pos rfl]; repeat rw [nN_nI (by omega)])
      have hP : va_P D vwCl (wM cI cZ a (nI (kTeach nw ns (nI jp0) p1 p2)) n nw ns (sTeach nw ns σ (nI jp0) p1 p2) η) G := Eq.mp (congrArg (fun z9 => va_P D vwCl (wM cI cZ a (nI (kTeach nw ns (nI jp0) p1 p2)) n nw ns z9 η) G) hw9) hP
      clear hw9
      exact hEnd 26 ls G locs dX3_teach_26 hP hS
set_option maxHeartbeats 4000000 in
set_option maxRecDepth 100000 in
theorem c_X3_addSong (l : Launch) (D : va_G) (cI cZ cL cO : ClassId) (a : Nat → Nat) (th : Int32) (n nw ns : Nat) (σ η : Sg) (H : Heap) (p0 : Int32) (A : Nat → Prop) (hA : okP A a 13) (hB : n ≤ 10 ∧ nw ≤ 20 ∧ ns ≤ 6) : Met l yX3_addSong wsX3_addSong ({ frames := 1, cells := 0, slots := 0, locals := 22 } : Room) (ro_P D (T4 cI cZ cL cO) (wM cI cZ a th n nw ns σ η) H [.ref (a 0), .int p0]) (mi_Q D (vSong ns p0) (wM cI cZ a (nI (kSong ns p0)) n nw (nSong ns p0) (sSong ns σ p0) η) A) 0 0 A := by
  refine mi_of (cc := cX3_addSong) (maxL := 2) (by decide) rfl (Nat.le_of_ble_eq_true rfl) rfl ?_
  intro p e s m args below meth c Q ls locs hx hb hml hown hts hK hE hP hl hS hEnd
  have hl : lv_has ls 2 [(0, .ref (a 0)), (1, .int p0)] := hl
  have hX3 : ∀ w ∈ wsX30, w.before args s = true := fun w h => hts w (List.mem_cons_of_mem _ (List.mem_append_right _ (h)))
  have f47 : (Cond.fieldLink RX3 47 "LanternWalkModel" "thrown" "I").before args s = true := hts _ (List.mem_of_getElem? (i := 1) rfl)
  have f61 : (Cond.fieldLink RX3 61 "LanternWalkModel" "songs" "I").before args s = true := hts _ (List.mem_of_getElem? (i := 2) rfl)
  have f22 : (Cond.fieldLink RX3 22 "LanternWalkModel" "lengths" "[I").before args s = true := hts _ (List.mem_of_getElem? (i := 3) rfl)
  refine lv_aload_n hx hb dX3_addSong_0 rfl (lv_at hl 0 rfl) ?_
  refine lv_iconst (v := nI 0) hx hb dX3_addSong_1 rfl ?_
  refine li_pf3 hx hb hX3 hown hK hP hA.DM hS 0 rfl 0 (by decide) f47 rfl rfl rfl (Nat.le_of_ble_eq_true rfl) stM_th dX3_addSong_2 (fun G locs hP hS => ?_)
  refine lv_iload_n hx hb dX3_addSong_5 rfl (lv_at hl 1 rfl) ?_
  refine lv_iconst (v := nI 1) hx hb dX3_addSong_6 rfl ?_
  refine lv_bipush (v := nI 9) hx hb dX3_addSong_7 rfl ?_
  refine roS (As := [.int p0, .int (nI 1), .int (nI 9)]) hx hb hml hown hts (c_X3_isI l D cI cZ cL cO G p0 (nI 1) (nI 9)) (va_cwS 3 hts gX3_addSong_X3_isIn rfl rfl rfl (by decide +kernel) ⟨by decide, by decide⟩) hK hE (hP.sub (ws' := []) [] rfl) rfl hl.1 rfl (Nat.le_of_ble_eq_true rfl) hS dX3_addSong_9 ⟨Nat.zero_le _, Nat.zero_le _⟩ (fun locs hS => ?_)
  refine li_zne (tgt := 21) hx hb dX3_addSong_12 (by decide) (fun c1 => ?_) (fun c1 => ?_)
  · skip
    obtain ⟨jp0, hljp0, hhjp0, rfl⟩ := isI_nat (lo := 1) (hi := 9) (by omega) (by omega) c1
    refine lv_aload_n hx hb dX3_addSong_21 rfl (lv_at hl 0 rfl) ?_
    refine li_gf3 hx hb hX3 hown hK hP 0 rfl 7 (by decide) f61 rfl dX3_addSong_22 ?_
    refine lv_bipush (v := nI 6) hx hb dX3_addSong_25 rfl ?_
    refine li_ne (tgt := 36) hx hb dX3_addSong_27 (by decide) (by omega) (by omega) (fun c2 => ?_) (fun c2 => ?_)
    · skip
      refine lv_aload_n hx hb dX3_addSong_36 rfl (lv_at hl 0 rfl) ?_
      refine li_gf3 hx hb hX3 hown hK hP 0 rfl 8 (by decide) f22 rfl dX3_addSong_37 ?_
      refine lv_aload_n hx hb dX3_addSong_40 rfl (lv_at hl 0 rfl) ?_
      refine li_gf3 hx hb hX3 hown hK hP 0 rfl 7 (by decide) f61 rfl dX3_addSong_41 ?_
      refine lv_iload_n hx hb dX3_addSong_44 rfl (lv_at hl 1 rfl) ?_
      refine li_ist hx hb hK hP hA.DM hS 5 0 rfl rfl (by omega) (by decide) stM_6 dX3_addSong_45 (fun G locs hP hS => ?_)
      refine lv_aload_n hx hb dX3_addSong_46 rfl (lv_at hl 0 rfl) ?_
      refine lv_dup hx hb dX3_addSong_47 rfl ?_
      refine li_gf3 hx hb hX3 hown hK hP 0 rfl 7 (by decide) f61 rfl dX3_addSong_48 ?_
      refine lv_iconst (v := nI 1) hx hb dX3_addSong_51 rfl ?_
      refine lv_iadd hx hb dX3_addSong_52 ?_
      refine li_topi (nI_add _ _) ?_
      refine li_pf3 hx hb hX3 hown hK hP hA.DM hS 0 rfl 7 (by decide) f61 rfl rfl rfl (Nat.le_of_ble_eq_true rfl) (w' := wM cI cZ a (nI 0) n nw (ns + 1) (up2 σ 6 ns (nI jp0)) η) rfl dX3_addSong_53 (fun G locs hP hS => ?_)
      refine lv_aload_n hx hb dX3_addSong_56 rfl (lv_at hl 0 rfl) ?_
      refine li_gf3 hx hb hX3 hown hK hP 0 rfl 7 (by decide) f61 rfl dX3_addSong_57 ?_
      refine lv_iconst (v := nI 1) hx hb dX3_addSong_60 rfl ?_
      refine lv_isub hx hb dX3_addSong_61 ?_
      have hk9 : kSong ns (nI jp0) = 0 := by simp [kSong, noneOr, Int32.not_lt, c1, c2]
      refine li_topi (show (nI (ns + 1)) - (nI 1) = vSong ns (nI jp0) from by unfold vSong; rw [hk9]; first | rfl | (rw [if_pos rfl, pk_sub (by omega)]; congr 1)) ?_
      have hw9 : nI 0 = nI (kSong ns (nI jp0)) := by rw [hk9]
      have hP : va_P D vwCl (wM cI cZ a (nI (kSong ns (nI jp0))) n nw (ns + 1) (up2 σ 6 ns (nI jp0)) η) G := Eq.mp (congrArg (fun z9 => va_P D vwCl (wM cI cZ a z9 n nw (ns + 1) (up2 σ 6 ns (nI jp0)) η) G) hw9) hP
      clear hw9
      have hw9 : up2 σ 6 ns (nI jp0) = sSong ns σ (nI jp0) := by unfold sSong; rw [hk9]; first | rfl | (simp only [nN_nI (show _ < 2 ^ 31 by omega)]; rfl) | (rw [if_pos rfl]; repeat rw [nN_nI (by omega)])
      have hP : va_P D vwCl (wM cI cZ a (nI (kSong ns (nI jp0))) n nw (ns + 1) (sSong ns σ (nI jp0)) η) G := Eq.mp (congrArg (fun z9 => va_P D vwCl (wM cI cZ a (nI (kSong ns (nI jp0))) n nw (ns + 1) z9 η) G) hw9) hP
      clear hw9
      have hw9 : ns + 1 = nSong ns (nI jp0) := by unfold nSong; rw [hk9]; rfl
      have hP : va_P D vwCl (wM cI cZ a (nI (kSong ns (nI jp0))) n nw (nSong ns (nI jp0)) (sSong ns σ (nI jp0)) η) G := Eq.mp (congrArg (fun z9 => va_P D vwCl (wM cI cZ a (nI (kSong ns (nI jp0))) n nw z9 (sSong ns σ (nI jp0)) η) G) hw9) hP
      clear hw9
      exact hEnd 62 ls G locs dX3_addSong_62 hP hS
    · skip
      refine lv_aload_n hx hb dX3_addSong_30 rfl (lv_at hl 0 rfl) ?_
      refine lv_iconst (v := nI 2) hx hb dX3_addSong_31 rfl ?_
      refine miV (As := [.int (nI 2)]) (q0 := 0) (ci := 3) hx hb hml hown hts (c_X3_fail l D cI cZ cL cO a (nI 0) n nw ns σ η G (nI 2) A hA (hB)) (cwV 1 hts gX3_addSong_X3_fail rfl rfl rfl (by decide +kernel) ⟨by decide, by decide⟩) hK hE hP rfl rfl rfl rfl hl.1 rfl (Nat.le_of_ble_eq_true rfl) hS (fun _ h => h) dX3_addSong_32 ⟨Nat.zero_le _, Nat.zero_le _⟩ (fun G locs hP _ _ hS => ?_)
      have hk9 : kSong ns (nI jp0) = 2 := by simp [kSong, noneOr, Int32.not_lt, c1, c2]
      refine li_topi (show nI 0 = vSong ns (nI jp0) from by unfold vSong; rw [hk9]; first | rfl | (rw [if_pos rfl, pk_sub (by omega)]; congr 1)) ?_
      have hw9 : (nI 2) = nI (kSong ns (nI jp0)) := by rw [hk9]
      have hP : va_P D vwCl (wM cI cZ a (nI (kSong ns (nI jp0))) n nw ns σ η) G := Eq.mp (congrArg (fun z9 => va_P D vwCl (wM cI cZ a z9 n nw ns σ η) G) hw9) hP
      clear hw9
      have hw9 : σ = sSong ns σ (nI jp0) := by unfold sSong; rw [hk9]; first | rfl | (simp only [nN_nI (show _ < 2 ^ 31 by omega)]; rfl) | (rw [if_pos rfl]; repeat rw [nN_nI (by omega)])
      have hP : va_P D vwCl (wM cI cZ a (nI (kSong ns (nI jp0))) n nw ns (sSong ns σ (nI jp0)) η) G := Eq.mp (congrArg (fun z9 => va_P D vwCl (wM cI cZ a (nI (kSong ns (nI jp0))) n nw ns z9 η) G) hw9) hP
      clear hw9
      have hw9 : ns = nSong ns (nI jp0) := by unfold nSong; rw [hk9]; rfl
      have hP : va_P D vwCl (wM cI cZ a (nI (kSong ns (nI jp0))) n nw (nSong ns (nI jp0)) (sSong ns σ (nI jp0)) η) G := Eq.mp (congrArg (fun z9 => va_P D vwCl (wM cI cZ a (nI (kSong ns (nI jp0))) n nw z9 (sSong ns σ (nI jp0)) η) G) hw9) hP
      clear hw9
      exact hEnd 35 ls G locs dX3_addSong_35 hP hS
  · skip
    refine lv_aload_n hx hb dX3_addSong_15 rfl (lv_at hl 0 rfl) ?_
    refine lv_iconst (v := nI 1) hx hb dX3_addSong_16 rfl ?_
    refine miV (As := [.int (nI 1)]) (q0 := 0) (ci := 3) hx hb hml hown hts (c_X3_fail l D cI cZ cL cO a (nI 0) n nw ns σ η G (nI 1) A hA (hB)) (cwV 1 hts gX3_addSong_X3_fail rfl rfl rfl (by decide +kernel) ⟨by decide, by decide⟩) hK hE hP rfl rfl rfl rfl hl.1 rfl (Nat.le_of_ble_eq_true rfl) hS (fun _ h => h) dX3_addSong_17 ⟨Nat.zero_le _, Nat.zero_le _⟩ (fun G locs hP _ _ hS => ?_)
    have hk9 : kSong ns p0 = 1 := by simp [kSong, noneOr, Int32.not_lt, c1]
    refine li_topi (show nI 0 = vSong ns p0 from by unfold vSong; rw [hk9]; first | rfl | (rw [if_pos rfl, pk_sub (by omega)]; congr 1)) ?_
    have hw9 : (nI 1) = nI (kSong ns p0) := by rw [hk9]
    have hP : va_P D vwCl (wM cI cZ a (nI (kSong ns p0)) n nw ns σ η) G := Eq.mp (congrArg (fun z9 => va_P D vwCl (wM cI cZ a z9 n nw ns σ η) G) hw9) hP
    clear hw9
    have hw9 : σ = sSong ns σ p0 := by unfold sSong; rw [hk9]; first | rfl | (simp only [nN_nI (show _ < 2 ^ 31 by omega)]; rfl) | (rw [if_pos rfl]; repeat rw [nN_nI (by omega)])
    have hP : va_P D vwCl (wM cI cZ a (nI (kSong ns p0)) n nw ns (sSong ns σ p0) η) G := Eq.mp (congrArg (fun z9 => va_P D vwCl (wM cI cZ a (nI (kSong ns p0)) n nw ns z9 η) G) hw9) hP
    clear hw9
    have hw9 : ns = nSong ns p0 := by unfold nSong; rw [hk9]; rfl
    have hP : va_P D vwCl (wM cI cZ a (nI (kSong ns p0)) n nw (nSong ns p0) (sSong ns σ p0) η) G := Eq.mp (congrArg (fun z9 => va_P D vwCl (wM cI cZ a (nI (kSong ns p0)) n nw z9 (sSong ns σ p0) η) G) hw9) hP
    clear hw9
    exact hEnd 20 ls G locs dX3_addSong_20 hP hS
set_option maxHeartbeats 4000000 in
set_option maxRecDepth 100000 in
theorem c_X3_stretch (l : Launch) (D : va_G) (cI cZ cL cO : ClassId) (a : Nat → Nat) (th : Int32) (n nw ns : Nat) (σ η : Sg) (H : Heap) (p0 : Int32) (p1 : Int32) (A : Nat → Prop) (hA : okP A a 13) (hB : n ≤ 10 ∧ nw ≤ 20 ∧ ns ≤ 6) (pl : Nat) (hpl : pl ≤ 200) (hRF : RF n pl σ) (hPB : PB pl nw σ) : Met l yX3_stretch wsX3_stretch ({ frames := 3, cells := 0, slots := 0, locals := 68 } : Room) (ro_P D (T4 cI cZ cL cO) (wM cI cZ a th n nw ns σ η) H [.ref (a 0), .int p0, .int p1]) (mi_Q D (ifk (kTwo n 5 p0 p1) (stT n nw σ (nN p0) (nN p1))) (wM cI cZ a (nI (kTwo n 5 p0 p1)) n nw ns σ η) A) 0 0 A := by
  refine mi_of (cc := cX3_stretch) (maxL := 3) (by decide) rfl (Nat.le_of_ble_eq_true rfl) rfl ?_
  intro p e s m args below meth c Q ls locs hx hb hml hown hts hK hE hP hl hS hEnd
  have hl : lv_has ls 3 [(0, .ref (a 0)), (1, .int p0), (2, .int p1)] := hl
  have hX3 : ∀ w ∈ wsX30, w.before args s = true := fun w h => hts w (List.mem_cons_of_mem _ (List.mem_append_right _ (h)))
  have f47 : (Cond.fieldLink RX3 47 "LanternWalkModel" "thrown" "I").before args s = true := hts _ (List.mem_of_getElem? (i := 1) rfl)
  refine lv_aload_n hx hb dX3_stretch_0 rfl (lv_at hl 0 rfl) ?_
  refine lv_iconst (v := nI 0) hx hb dX3_stretch_1 rfl ?_
  refine li_pf3 hx hb hX3 hown hK hP hA.DM hS 0 rfl 0 (by decide) f47 rfl rfl rfl (Nat.le_of_ble_eq_true rfl) stM_th dX3_stretch_2 (fun G locs hP hS => ?_)
  refine lv_aload_n hx hb dX3_stretch_5 rfl (lv_at hl 0 rfl) ?_
  refine lv_iload_n hx hb dX3_stretch_6 rfl (lv_at hl 1 rfl) ?_
  refine roV (As := [.int p0]) (q0 := 0) (ci := 3) hx hb hml hown hts (c_X3_isStretch l D cI cZ cL cO a (nI 0) n nw ns σ η G p0 (hB)) (cwV 1 hts gX3_stretch_X3_isStretch rfl rfl rfl (by decide +kernel) ⟨by decide, by decide⟩) hK hE hP rfl rfl rfl rfl hl.1 rfl (Nat.le_of_ble_eq_true rfl) hS dX3_stretch_7 ⟨Nat.zero_le _, Nat.zero_le _⟩ (fun locs hS => ?_)
  refine li_zeq (tgt := 31) hx hb dX3_stretch_10 (by decide) (fun c1 => ?_) (fun c1 => ?_)
  · skip
    refine lv_aload_n hx hb dX3_stretch_31 rfl (lv_at hl 0 rfl) ?_
    refine lv_iconst (v := nI 1) hx hb dX3_stretch_32 rfl ?_
    refine miV (As := [.int (nI 1)]) (q0 := 0) (ci := 3) hx hb hml hown hts (c_X3_fail l D cI cZ cL cO a (nI 0) n nw ns σ η G (nI 1) A hA (hB)) (cwV 1 hts gX3_stretch_X3_fail rfl rfl rfl (by decide +kernel) ⟨by decide, by decide⟩) hK hE hP rfl rfl rfl rfl hl.1 rfl (Nat.le_of_ble_eq_true rfl) hS (fun _ h => h) dX3_stretch_33 ⟨Nat.zero_le _, Nat.zero_le _⟩ (fun G locs hP _ _ hS => ?_)
    have hk9 : kTwo n 5 p0 p1 = 1 := by simp [kTwo, noneOr, Int32.not_lt, c1]
    refine li_topi (show nI 0 = ifk (kTwo n 5 p0 p1) (stT n nw σ (nN p0) (nN p1)) from by rw [hk9]; first | rfl | (rw [ifk_0 rfl]; repeat rw [nN_nI (by omega)])) ?_
    have hw9 : (nI 1) = nI (kTwo n 5 p0 p1) := by rw [hk9]
    have hP : va_P D vwCl (wM cI cZ a (nI (kTwo n 5 p0 p1)) n nw ns σ η) G := Eq.mp (congrArg (fun z9 => va_P D vwCl (wM cI cZ a z9 n nw ns σ η) G) hw9) hP
    clear hw9
    exact hEnd 36 ls G locs dX3_stretch_36 hP hS
  · skip
    obtain ⟨jp0, hhjp0, rfl⟩ := has_nat (by omega) c1
    refine lv_iload_n hx hb dX3_stretch_13 rfl (lv_at hl 2 rfl) ?_
    refine lv_iconst (v := nI 0) hx hb dX3_stretch_14 rfl ?_
    refine lv_iconst (v := nI 5) hx hb dX3_stretch_15 rfl ?_
    refine roS (As := [.int p1, .int (nI 0), .int (nI 5)]) hx hb hml hown hts (c_X3_isI l D cI cZ cL cO G p1 (nI 0) (nI 5)) (va_cwS 3 hts gX3_stretch_X3_isIn rfl rfl rfl (by decide +kernel) ⟨by decide, by decide⟩) hK hE (hP.sub (ws' := []) [] rfl) rfl hl.1 rfl (Nat.le_of_ble_eq_true rfl) hS dX3_stretch_16 ⟨Nat.zero_le _, Nat.zero_le _⟩ (fun locs hS => ?_)
    refine li_zeq (tgt := 31) hx hb dX3_stretch_19 (by decide) (fun c2 => ?_) (fun c2 => ?_)
    · skip
      refine lv_aload_n hx hb dX3_stretch_31 rfl (lv_at hl 0 rfl) ?_
      refine lv_iconst (v := nI 1) hx hb dX3_stretch_32 rfl ?_
      refine miV (As := [.int (nI 1)]) (q0 := 0) (ci := 3) hx hb hml hown hts (c_X3_fail l D cI cZ cL cO a (nI 0) n nw ns σ η G (nI 1) A hA (hB)) (cwV 1 hts gX3_stretch_X3_fail rfl rfl rfl (by decide +kernel) ⟨by decide, by decide⟩) hK hE hP rfl rfl rfl rfl hl.1 rfl (Nat.le_of_ble_eq_true rfl) hS (fun _ h => h) dX3_stretch_33 ⟨Nat.zero_le _, Nat.zero_le _⟩ (fun G locs hP _ _ hS => ?_)
      have hk9 : kTwo n 5 (nI jp0) p1 = 1 := by simp [kTwo, noneOr, Int32.not_lt, c1, c2]
      refine li_topi (show nI 0 = ifk (kTwo n 5 (nI jp0) p1) (stT n nw σ (nN (nI jp0)) (nN p1)) from by rw [hk9]; first | rfl | (rw [ifk_0 rfl]; repeat rw [nN_nI (by omega)])) ?_
      have hw9 : (nI 1) = nI (kTwo n 5 (nI jp0) p1) := by rw [hk9]
      have hP : va_P D vwCl (wM cI cZ a (nI (kTwo n 5 (nI jp0) p1)) n nw ns σ η) G := Eq.mp (congrArg (fun z9 => va_P D vwCl (wM cI cZ a z9 n nw ns σ η) G) hw9) hP
      clear hw9
      exact hEnd 36 ls G locs dX3_stretch_36 hP hS
    · skip
      obtain ⟨jp1, hljp1, hhjp1, rfl⟩ := isI_nat (lo := 0) (hi := 5) (by omega) (by omega) c2
      refine lv_aload_n hx hb dX3_stretch_22 rfl (lv_at hl 0 rfl) ?_
      refine lv_iload_n hx hb dX3_stretch_23 rfl (lv_at hl 1 rfl) ?_
      refine lv_iload_n hx hb dX3_stretch_24 rfl (lv_at hl 2 rfl) ?_
      refine roV (As := [.int (nI jp0), .int (nI jp1)]) (q0 := 0) (ci := 3) hx hb hml hown hts (c_X3_stretchTold l D cI cZ cL cO a (nI 0) n nw ns σ η G jp0 jp1 (hB) (pl) (hpl) (by omega) (by omega) (hRF) (hPB)) (cwV 2 hts gX3_stretch_X3_stretchTold rfl rfl rfl (by decide +kernel) ⟨by decide, by decide⟩) hK hE hP rfl rfl rfl rfl hl.1 rfl (Nat.le_of_ble_eq_true rfl) hS dX3_stretch_25 ⟨Nat.zero_le _, Nat.zero_le _⟩ (fun locs hS => ?_)
      refine lv_goto (tgt := 36) hx hb dX3_stretch_28 (by decide) ?_
      have hk9 : kTwo n 5 (nI jp0) (nI jp1) = 0 := by simp [kTwo, noneOr, Int32.not_lt, c1, c2]
      refine li_topi (show stT n nw σ jp0 jp1 = ifk (kTwo n 5 (nI jp0) (nI jp1)) (stT n nw σ (nN (nI jp0)) (nN (nI jp1))) from by rw [hk9]; first | rfl | (rw [ifk_0 rfl]; repeat rw [nN_nI (by omega)])) ?_
      have hw9 : nI 0 = nI (kTwo n 5 (nI jp0) (nI jp1)) := by rw [hk9]
      have hP : va_P D vwCl (wM cI cZ a (nI (kTwo n 5 (nI jp0) (nI jp1))) n nw ns σ η) G := Eq.mp (congrArg (fun z9 => va_P D vwCl (wM cI cZ a z9 n nw ns σ η) G) hw9) hP
      clear hw9
      exact hEnd 36 ls G locs dX3_stretch_36 hP hS
set_option maxHeartbeats 4000000 in
set_option maxRecDepth 100000 in
theorem c_X3_walker (l : Launch) (D : va_G) (cI cZ cL cO : ClassId) (a : Nat → Nat) (th : Int32) (n nw ns : Nat) (σ η : Sg) (H : Heap) (p0 : Int32) (p1 : Int32) (A : Nat → Prop) (hA : okP A a 13) (hB : n ≤ 10 ∧ nw ≤ 20 ∧ ns ≤ 6) : Met l yX3_walker wsX3_walker ({ frames := 5, cells := 0, slots := 0, locals := 110 } : Room) (ro_P D (T4 cI cZ cL cO) (wM cI cZ a th n nw ns σ η) H [.ref (a 0), .int p0, .int p1]) (mi_Q D (ifk (kTwo nw 8 p0 p1) (waT nw σ (nN p0) (nN p1))) (wM cI cZ a (nI (kTwo nw 8 p0 p1)) n nw ns σ η) A) 0 0 A := by
  refine mi_of (cc := cX3_walker) (maxL := 3) (by decide) rfl (Nat.le_of_ble_eq_true rfl) rfl ?_
  intro p e s m args below meth c Q ls locs hx hb hml hown hts hK hE hP hl hS hEnd
  have hl : lv_has ls 3 [(0, .ref (a 0)), (1, .int p0), (2, .int p1)] := hl
  have hX3 : ∀ w ∈ wsX30, w.before args s = true := fun w h => hts w (List.mem_cons_of_mem _ (List.mem_append_right _ (h)))
  have f47 : (Cond.fieldLink RX3 47 "LanternWalkModel" "thrown" "I").before args s = true := hts _ (List.mem_of_getElem? (i := 1) rfl)
  refine lv_aload_n hx hb dX3_walker_0 rfl (lv_at hl 0 rfl) ?_
  refine lv_iconst (v := nI 0) hx hb dX3_walker_1 rfl ?_
  refine li_pf3 hx hb hX3 hown hK hP hA.DM hS 0 rfl 0 (by decide) f47 rfl rfl rfl (Nat.le_of_ble_eq_true rfl) stM_th dX3_walker_2 (fun G locs hP hS => ?_)
  refine lv_aload_n hx hb dX3_walker_5 rfl (lv_at hl 0 rfl) ?_
  refine lv_iload_n hx hb dX3_walker_6 rfl (lv_at hl 1 rfl) ?_
  refine roV (As := [.int p0]) (q0 := 0) (ci := 3) hx hb hml hown hts (c_X3_isWalker l D cI cZ cL cO a (nI 0) n nw ns σ η G p0 (hB)) (cwV 1 hts gX3_walker_X3_isWalker rfl rfl rfl (by decide +kernel) ⟨by decide, by decide⟩) hK hE hP rfl rfl rfl rfl hl.1 rfl (Nat.le_of_ble_eq_true rfl) hS dX3_walker_7 ⟨Nat.zero_le _, Nat.zero_le _⟩ (fun locs hS => ?_)
  refine li_zeq (tgt := 32) hx hb dX3_walker_10 (by decide) (fun c1 => ?_) (fun c1 => ?_)
  · skip
    refine lv_aload_n hx hb dX3_walker_32 rfl (lv_at hl 0 rfl) ?_
    refine lv_iconst (v := nI 1) hx hb dX3_walker_33 rfl ?_
    refine miV (As := [.int (nI 1)]) (q0 := 0) (ci := 3) hx hb hml hown hts (c_X3_fail l D cI cZ cL cO a (nI 0) n nw ns σ η G (nI 1) A hA (hB)) (cwV 1 hts gX3_walker_X3_fail rfl rfl rfl (by decide +kernel) ⟨by decide, by decide⟩) hK hE hP rfl rfl rfl rfl hl.1 rfl (Nat.le_of_ble_eq_true rfl) hS (fun _ h => h) dX3_walker_34 ⟨Nat.zero_le _, Nat.zero_le _⟩ (fun G locs hP _ _ hS => ?_)
    have hk9 : kTwo nw 8 p0 p1 = 1 := by simp [kTwo, noneOr, Int32.not_lt, c1]
    refine li_topi (show nI 0 = ifk (kTwo nw 8 p0 p1) (waT nw σ (nN p0) (nN p1)) from by rw [hk9]; first | rfl | (rw [ifk_0 rfl]; repeat rw [nN_nI (by omega)])) ?_
    have hw9 : (nI 1) = nI (kTwo nw 8 p0 p1) := by rw [hk9]
    have hP : va_P D vwCl (wM cI cZ a (nI (kTwo nw 8 p0 p1)) n nw ns σ η) G := Eq.mp (congrArg (fun z9 => va_P D vwCl (wM cI cZ a z9 n nw ns σ η) G) hw9) hP
    clear hw9
    exact hEnd 37 ls G locs dX3_walker_37 hP hS
  · skip
    obtain ⟨jp0, hhjp0, rfl⟩ := has_nat (by omega) c1
    refine lv_iload_n hx hb dX3_walker_13 rfl (lv_at hl 2 rfl) ?_
    refine lv_iconst (v := nI 0) hx hb dX3_walker_14 rfl ?_
    refine lv_bipush (v := nI 8) hx hb dX3_walker_15 rfl ?_
    refine roS (As := [.int p1, .int (nI 0), .int (nI 8)]) hx hb hml hown hts (c_X3_isI l D cI cZ cL cO G p1 (nI 0) (nI 8)) (va_cwS 3 hts gX3_walker_X3_isIn rfl rfl rfl (by decide +kernel) ⟨by decide, by decide⟩) hK hE (hP.sub (ws' := []) [] rfl) rfl hl.1 rfl (Nat.le_of_ble_eq_true rfl) hS dX3_walker_17 ⟨Nat.zero_le _, Nat.zero_le _⟩ (fun locs hS => ?_)
    refine li_zeq (tgt := 32) hx hb dX3_walker_20 (by decide) (fun c2 => ?_) (fun c2 => ?_)
    · skip
      refine lv_aload_n hx hb dX3_walker_32 rfl (lv_at hl 0 rfl) ?_
      refine lv_iconst (v := nI 1) hx hb dX3_walker_33 rfl ?_
      refine miV (As := [.int (nI 1)]) (q0 := 0) (ci := 3) hx hb hml hown hts (c_X3_fail l D cI cZ cL cO a (nI 0) n nw ns σ η G (nI 1) A hA (hB)) (cwV 1 hts gX3_walker_X3_fail rfl rfl rfl (by decide +kernel) ⟨by decide, by decide⟩) hK hE hP rfl rfl rfl rfl hl.1 rfl (Nat.le_of_ble_eq_true rfl) hS (fun _ h => h) dX3_walker_34 ⟨Nat.zero_le _, Nat.zero_le _⟩ (fun G locs hP _ _ hS => ?_)
      have hk9 : kTwo nw 8 (nI jp0) p1 = 1 := by simp [kTwo, noneOr, Int32.not_lt, c1, c2]
      refine li_topi (show nI 0 = ifk (kTwo nw 8 (nI jp0) p1) (waT nw σ (nN (nI jp0)) (nN p1)) from by rw [hk9]; first | rfl | (rw [ifk_0 rfl]; repeat rw [nN_nI (by omega)])) ?_
      have hw9 : (nI 1) = nI (kTwo nw 8 (nI jp0) p1) := by rw [hk9]
      have hP : va_P D vwCl (wM cI cZ a (nI (kTwo nw 8 (nI jp0) p1)) n nw ns σ η) G := Eq.mp (congrArg (fun z9 => va_P D vwCl (wM cI cZ a z9 n nw ns σ η) G) hw9) hP
      clear hw9
      exact hEnd 37 ls G locs dX3_walker_37 hP hS
    · skip
      obtain ⟨jp1, hljp1, hhjp1, rfl⟩ := isI_nat (lo := 0) (hi := 8) (by omega) (by omega) c2
      refine lv_aload_n hx hb dX3_walker_23 rfl (lv_at hl 0 rfl) ?_
      refine lv_iload_n hx hb dX3_walker_24 rfl (lv_at hl 1 rfl) ?_
      refine lv_iload_n hx hb dX3_walker_25 rfl (lv_at hl 2 rfl) ?_
      refine roV (As := [.int (nI jp0), .int (nI jp1)]) (q0 := 0) (ci := 3) hx hb hml hown hts (c_X3_walkerTold l D cI cZ cL cO a (nI 0) n nw ns σ η G jp0 jp1 (hB) (by omega) (by omega)) (cwV 2 hts gX3_walker_X3_walkerTold rfl rfl rfl (by decide +kernel) ⟨by decide, by decide⟩) hK hE hP rfl rfl rfl rfl hl.1 rfl (Nat.le_of_ble_eq_true rfl) hS dX3_walker_26 ⟨Nat.zero_le _, Nat.zero_le _⟩ (fun locs hS => ?_)
      refine lv_goto (tgt := 37) hx hb dX3_walker_29 (by decide) ?_
      have hk9 : kTwo nw 8 (nI jp0) (nI jp1) = 0 := by simp [kTwo, noneOr, Int32.not_lt, c1, c2]
      refine li_topi (show waT nw σ jp0 jp1 = ifk (kTwo nw 8 (nI jp0) (nI jp1)) (waT nw σ (nN (nI jp0)) (nN (nI jp1))) from by rw [hk9]; first | rfl | (rw [ifk_0 rfl]; repeat rw [nN_nI (by omega)])) ?_
      have hw9 : nI 0 = nI (kTwo nw 8 (nI jp0) (nI jp1)) := by rw [hk9]
      have hP : va_P D vwCl (wM cI cZ a (nI (kTwo nw 8 (nI jp0) (nI jp1))) n nw ns σ η) G := Eq.mp (congrArg (fun z9 => va_P D vwCl (wM cI cZ a z9 n nw ns σ η) G) hw9) hP
      clear hw9
      exact hEnd 37 ls G locs dX3_walker_37 hP hS
set_option maxHeartbeats 4000000 in
set_option maxRecDepth 100000 in
theorem c_X3_song (l : Launch) (D : va_G) (cI cZ cL cO : ClassId) (a : Nat → Nat) (th : Int32) (n nw ns : Nat) (σ η : Sg) (H : Heap) (p0 : Int32) (p1 : Int32) (A : Nat → Prop) (hA : okP A a 13) (hB : n ≤ 10 ∧ nw ≤ 20 ∧ ns ≤ 6) : Met l yX3_song wsX3_song ({ frames := 2, cells := 0, slots := 0, locals := 50 } : Room) (ro_P D (T4 cI cZ cL cO) (wM cI cZ a th n nw ns σ η) H [.ref (a 0), .int p0, .int p1]) (mi_Q D (ifk (kTwo ns 3 p0 p1) (soT nw σ (nN p0) (nN p1))) (wM cI cZ a (nI (kTwo ns 3 p0 p1)) n nw ns σ η) A) 0 0 A := by
  refine mi_of (cc := cX3_song) (maxL := 3) (by decide) rfl (Nat.le_of_ble_eq_true rfl) rfl ?_
  intro p e s m args below meth c Q ls locs hx hb hml hown hts hK hE hP hl hS hEnd
  have hl : lv_has ls 3 [(0, .ref (a 0)), (1, .int p0), (2, .int p1)] := hl
  have hX3 : ∀ w ∈ wsX30, w.before args s = true := fun w h => hts w (List.mem_cons_of_mem _ (List.mem_append_right _ (h)))
  have f47 : (Cond.fieldLink RX3 47 "LanternWalkModel" "thrown" "I").before args s = true := hts _ (List.mem_of_getElem? (i := 1) rfl)
  refine lv_aload_n hx hb dX3_song_0 rfl (lv_at hl 0 rfl) ?_
  refine lv_iconst (v := nI 0) hx hb dX3_song_1 rfl ?_
  refine li_pf3 hx hb hX3 hown hK hP hA.DM hS 0 rfl 0 (by decide) f47 rfl rfl rfl (Nat.le_of_ble_eq_true rfl) stM_th dX3_song_2 (fun G locs hP hS => ?_)
  refine lv_aload_n hx hb dX3_song_5 rfl (lv_at hl 0 rfl) ?_
  refine lv_iload_n hx hb dX3_song_6 rfl (lv_at hl 1 rfl) ?_
  refine roV (As := [.int p0]) (q0 := 0) (ci := 3) hx hb hml hown hts (c_X3_isSong l D cI cZ cL cO a (nI 0) n nw ns σ η G p0 (hB)) (cwV 1 hts gX3_song_X3_isSong rfl rfl rfl (by decide +kernel) ⟨by decide, by decide⟩) hK hE hP rfl rfl rfl rfl hl.1 rfl (Nat.le_of_ble_eq_true rfl) hS dX3_song_7 ⟨Nat.zero_le _, Nat.zero_le _⟩ (fun locs hS => ?_)
  refine li_zeq (tgt := 31) hx hb dX3_song_10 (by decide) (fun c1 => ?_) (fun c1 => ?_)
  · skip
    refine lv_aload_n hx hb dX3_song_31 rfl (lv_at hl 0 rfl) ?_
    refine lv_iconst (v := nI 1) hx hb dX3_song_32 rfl ?_
    refine miV (As := [.int (nI 1)]) (q0 := 0) (ci := 3) hx hb hml hown hts (c_X3_fail l D cI cZ cL cO a (nI 0) n nw ns σ η G (nI 1) A hA (hB)) (cwV 1 hts gX3_song_X3_fail rfl rfl rfl (by decide +kernel) ⟨by decide, by decide⟩) hK hE hP rfl rfl rfl rfl hl.1 rfl (Nat.le_of_ble_eq_true rfl) hS (fun _ h => h) dX3_song_33 ⟨Nat.zero_le _, Nat.zero_le _⟩ (fun G locs hP _ _ hS => ?_)
    have hk9 : kTwo ns 3 p0 p1 = 1 := by simp [kTwo, noneOr, Int32.not_lt, c1]
    refine li_topi (show nI 0 = ifk (kTwo ns 3 p0 p1) (soT nw σ (nN p0) (nN p1)) from by rw [hk9]; first | rfl | (rw [ifk_0 rfl]; repeat rw [nN_nI (by omega)])) ?_
    have hw9 : (nI 1) = nI (kTwo ns 3 p0 p1) := by rw [hk9]
    have hP : va_P D vwCl (wM cI cZ a (nI (kTwo ns 3 p0 p1)) n nw ns σ η) G := Eq.mp (congrArg (fun z9 => va_P D vwCl (wM cI cZ a z9 n nw ns σ η) G) hw9) hP
    clear hw9
    exact hEnd 36 ls G locs dX3_song_36 hP hS
  · skip
    obtain ⟨jp0, hhjp0, rfl⟩ := has_nat (by omega) c1
    refine lv_iload_n hx hb dX3_song_13 rfl (lv_at hl 2 rfl) ?_
    refine lv_iconst (v := nI 0) hx hb dX3_song_14 rfl ?_
    refine lv_iconst (v := nI 3) hx hb dX3_song_15 rfl ?_
    refine roS (As := [.int p1, .int (nI 0), .int (nI 3)]) hx hb hml hown hts (c_X3_isI l D cI cZ cL cO G p1 (nI 0) (nI 3)) (va_cwS 3 hts gX3_song_X3_isIn rfl rfl rfl (by decide +kernel) ⟨by decide, by decide⟩) hK hE (hP.sub (ws' := []) [] rfl) rfl hl.1 rfl (Nat.le_of_ble_eq_true rfl) hS dX3_song_16 ⟨Nat.zero_le _, Nat.zero_le _⟩ (fun locs hS => ?_)
    refine li_zeq (tgt := 31) hx hb dX3_song_19 (by decide) (fun c2 => ?_) (fun c2 => ?_)
    · skip
      refine lv_aload_n hx hb dX3_song_31 rfl (lv_at hl 0 rfl) ?_
      refine lv_iconst (v := nI 1) hx hb dX3_song_32 rfl ?_
      refine miV (As := [.int (nI 1)]) (q0 := 0) (ci := 3) hx hb hml hown hts (c_X3_fail l D cI cZ cL cO a (nI 0) n nw ns σ η G (nI 1) A hA (hB)) (cwV 1 hts gX3_song_X3_fail rfl rfl rfl (by decide +kernel) ⟨by decide, by decide⟩) hK hE hP rfl rfl rfl rfl hl.1 rfl (Nat.le_of_ble_eq_true rfl) hS (fun _ h => h) dX3_song_33 ⟨Nat.zero_le _, Nat.zero_le _⟩ (fun G locs hP _ _ hS => ?_)
      have hk9 : kTwo ns 3 (nI jp0) p1 = 1 := by simp [kTwo, noneOr, Int32.not_lt, c1, c2]
      refine li_topi (show nI 0 = ifk (kTwo ns 3 (nI jp0) p1) (soT nw σ (nN (nI jp0)) (nN p1)) from by rw [hk9]; first | rfl | (rw [ifk_0 rfl]; repeat rw [nN_nI (by omega)])) ?_
      have hw9 : (nI 1) = nI (kTwo ns 3 (nI jp0) p1) := by rw [hk9]
      have hP : va_P D vwCl (wM cI cZ a (nI (kTwo ns 3 (nI jp0) p1)) n nw ns σ η) G := Eq.mp (congrArg (fun z9 => va_P D vwCl (wM cI cZ a z9 n nw ns σ η) G) hw9) hP
      clear hw9
      exact hEnd 36 ls G locs dX3_song_36 hP hS
    · skip
      obtain ⟨jp1, hljp1, hhjp1, rfl⟩ := isI_nat (lo := 0) (hi := 3) (by omega) (by omega) c2
      refine lv_aload_n hx hb dX3_song_22 rfl (lv_at hl 0 rfl) ?_
      refine lv_iload_n hx hb dX3_song_23 rfl (lv_at hl 1 rfl) ?_
      refine lv_iload_n hx hb dX3_song_24 rfl (lv_at hl 2 rfl) ?_
      refine roV (As := [.int (nI jp0), .int (nI jp1)]) (q0 := 0) (ci := 3) hx hb hml hown hts (c_X3_songTold l D cI cZ cL cO a (nI 0) n nw ns σ η G jp0 jp1 (hB) (by omega) (by omega)) (cwV 2 hts gX3_song_X3_songTold rfl rfl rfl (by decide +kernel) ⟨by decide, by decide⟩) hK hE hP rfl rfl rfl rfl hl.1 rfl (Nat.le_of_ble_eq_true rfl) hS dX3_song_25 ⟨Nat.zero_le _, Nat.zero_le _⟩ (fun locs hS => ?_)
      refine lv_goto (tgt := 36) hx hb dX3_song_28 (by decide) ?_
      have hk9 : kTwo ns 3 (nI jp0) (nI jp1) = 0 := by simp [kTwo, noneOr, Int32.not_lt, c1, c2]
      refine li_topi (show soT nw σ jp0 jp1 = ifk (kTwo ns 3 (nI jp0) (nI jp1)) (soT nw σ (nN (nI jp0)) (nN (nI jp1))) from by rw [hk9]; first | rfl | (rw [ifk_0 rfl]; repeat rw [nN_nI (by omega)])) ?_
      have hw9 : nI 0 = nI (kTwo ns 3 (nI jp0) (nI jp1)) := by rw [hk9]
      have hP : va_P D vwCl (wM cI cZ a (nI (kTwo ns 3 (nI jp0) (nI jp1))) n nw ns σ η) G := Eq.mp (congrArg (fun z9 => va_P D vwCl (wM cI cZ a z9 n nw ns σ η) G) hw9) hP
      clear hw9
      exact hEnd 36 ls G locs dX3_song_36 hP hS
set_option maxHeartbeats 4000000 in
set_option maxRecDepth 100000 in
theorem c_X3_knows (l : Launch) (D : va_G) (cI cZ cL cO : ClassId) (a : Nat → Nat) (th : Int32) (n nw ns : Nat) (σ η : Sg) (H : Heap) (p0 : Int32) (p1 : Int32) (A : Nat → Prop) (hA : okP A a 13) (hB : n ≤ 10 ∧ nw ≤ 20 ∧ ns ≤ 6) : Met l yX3_knows wsX3_knows ({ frames := 2, cells := 0, slots := 0, locals := 43 } : Room) (ro_P D (T4 cI cZ cL cO) (wM cI cZ a th n nw ns σ η) H [.ref (a 0), .int p0, .int p1]) (mi_Q D (vKnow nw ns σ p0 p1) (wM cI cZ a (nI (kKnow nw ns p0 p1)) n nw ns σ η) A) 0 0 A := by
  refine mi_of (cc := cX3_knows) (maxL := 3) (by decide) rfl (Nat.le_of_ble_eq_true rfl) rfl ?_
  intro p e s m args below meth c Q ls locs hx hb hml hown hts hK hE hP hl hS hEnd
  have hl : lv_has ls 3 [(0, .ref (a 0)), (1, .int p0), (2, .int p1)] := hl
  have hX3 : ∀ w ∈ wsX30, w.before args s = true := fun w h => hts w (List.mem_cons_of_mem _ (List.mem_append_right _ (h)))
  have f47 : (Cond.fieldLink RX3 47 "LanternWalkModel" "thrown" "I").before args s = true := hts _ (List.mem_of_getElem? (i := 1) rfl)
  have f25 : (Cond.fieldLink RX3 25 "LanternWalkModel" "known" "[I").before args s = true := hts _ (List.mem_of_getElem? (i := 2) rfl)
  refine lv_aload_n hx hb dX3_knows_0 rfl (lv_at hl 0 rfl) ?_
  refine lv_iconst (v := nI 0) hx hb dX3_knows_1 rfl ?_
  refine li_pf3 hx hb hX3 hown hK hP hA.DM hS 0 rfl 0 (by decide) f47 rfl rfl rfl (Nat.le_of_ble_eq_true rfl) stM_th dX3_knows_2 (fun G locs hP hS => ?_)
  refine lv_aload_n hx hb dX3_knows_5 rfl (lv_at hl 0 rfl) ?_
  refine lv_iload_n hx hb dX3_knows_6 rfl (lv_at hl 1 rfl) ?_
  refine roV (As := [.int p0]) (q0 := 0) (ci := 3) hx hb hml hown hts (c_X3_isWalker l D cI cZ cL cO a (nI 0) n nw ns σ η G p0 (hB)) (cwV 1 hts gX3_knows_X3_isWalker rfl rfl rfl (by decide +kernel) ⟨by decide, by decide⟩) hK hE hP rfl rfl rfl rfl hl.1 rfl (Nat.le_of_ble_eq_true rfl) hS dX3_knows_7 ⟨Nat.zero_le _, Nat.zero_le _⟩ (fun locs hS => ?_)
  refine li_zeq (tgt := 35) hx hb dX3_knows_10 (by decide) (fun c1 => ?_) (fun c1 => ?_)
  · skip
    refine lv_aload_n hx hb dX3_knows_35 rfl (lv_at hl 0 rfl) ?_
    refine lv_iconst (v := nI 1) hx hb dX3_knows_36 rfl ?_
    refine miV (As := [.int (nI 1)]) (q0 := 0) (ci := 3) hx hb hml hown hts (c_X3_fail l D cI cZ cL cO a (nI 0) n nw ns σ η G (nI 1) A hA (hB)) (cwV 1 hts gX3_knows_X3_fail rfl rfl rfl (by decide +kernel) ⟨by decide, by decide⟩) hK hE hP rfl rfl rfl rfl hl.1 rfl (Nat.le_of_ble_eq_true rfl) hS (fun _ h => h) dX3_knows_37 ⟨Nat.zero_le _, Nat.zero_le _⟩ (fun G locs hP _ _ hS => ?_)
    have hk9 : kKnow nw ns p0 p1 = 1 := by simp [kKnow, noneOr, Int32.not_lt, c1]
    refine li_topi (show nI 0 = vKnow nw ns σ p0 p1 from by unfold vKnow; rw [hk9]; first | rfl | (rw [if_pos rfl]; repeat rw [nN_nI (by omega)])) ?_
    have hw9 : (nI 1) = nI (kKnow nw ns p0 p1) := by rw [hk9]
    have hP : va_P D vwCl (wM cI cZ a (nI (kKnow nw ns p0 p1)) n nw ns σ η) G := Eq.mp (congrArg (fun z9 => va_P D vwCl (wM cI cZ a z9 n nw ns σ η) G) hw9) hP
    clear hw9
    exact hEnd 40 ls G locs dX3_knows_40 hP hS
  · skip
    obtain ⟨jp0, hhjp0, rfl⟩ := has_nat (by omega) c1
    refine lv_aload_n hx hb dX3_knows_13 rfl (lv_at hl 0 rfl) ?_
    refine lv_iload_n hx hb dX3_knows_14 rfl (lv_at hl 2 rfl) ?_
    refine roV (As := [.int p1]) (q0 := 0) (ci := 3) hx hb hml hown hts (c_X3_isSong l D cI cZ cL cO a (nI 0) n nw ns σ η G p1 (hB)) (cwV 1 hts gX3_knows_X3_isSong rfl rfl rfl (by decide +kernel) ⟨by decide, by decide⟩) hK hE hP rfl rfl rfl rfl hl.1 rfl (Nat.le_of_ble_eq_true rfl) hS dX3_knows_15 ⟨Nat.zero_le _, Nat.zero_le _⟩ (fun locs hS => ?_)
    refine li_zeq (tgt := 35) hx hb dX3_knows_18 (by decide) (fun c2 => ?_) (fun c2 => ?_)
    · skip
      refine lv_aload_n hx hb dX3_knows_35 rfl (lv_at hl 0 rfl) ?_
      refine lv_iconst (v := nI 1) hx hb dX3_knows_36 rfl ?_
      refine miV (As := [.int (nI 1)]) (q0 := 0) (ci := 3) hx hb hml hown hts (c_X3_fail l D cI cZ cL cO a (nI 0) n nw ns σ η G (nI 1) A hA (hB)) (cwV 1 hts gX3_knows_X3_fail rfl rfl rfl (by decide +kernel) ⟨by decide, by decide⟩) hK hE hP rfl rfl rfl rfl hl.1 rfl (Nat.le_of_ble_eq_true rfl) hS (fun _ h => h) dX3_knows_37 ⟨Nat.zero_le _, Nat.zero_le _⟩ (fun G locs hP _ _ hS => ?_)
      have hk9 : kKnow nw ns (nI jp0) p1 = 1 := by simp [kKnow, noneOr, Int32.not_lt, c1, c2]
      refine li_topi (show nI 0 = vKnow nw ns σ (nI jp0) p1 from by unfold vKnow; rw [hk9]; first | rfl | (rw [if_pos rfl]; repeat rw [nN_nI (by omega)])) ?_
      have hw9 : (nI 1) = nI (kKnow nw ns (nI jp0) p1) := by rw [hk9]
      have hP : va_P D vwCl (wM cI cZ a (nI (kKnow nw ns (nI jp0) p1)) n nw ns σ η) G := Eq.mp (congrArg (fun z9 => va_P D vwCl (wM cI cZ a z9 n nw ns σ η) G) hw9) hP
      clear hw9
      exact hEnd 40 ls G locs dX3_knows_40 hP hS
    · skip
      obtain ⟨jp1, hhjp1, rfl⟩ := has_nat (by omega) c2
      refine lv_aload_n hx hb dX3_knows_21 rfl (lv_at hl 0 rfl) ?_
      refine li_gf3 hx hb hX3 hown hK hP 0 rfl 9 (by decide) f25 rfl dX3_knows_22 ?_
      refine lv_bipush (v := nI 6) hx hb dX3_knows_25 rfl ?_
      refine lv_iload_n hx hb dX3_knows_27 rfl (lv_at hl 1 rfl) ?_
      refine lv_imul hx hb dX3_knows_28 ?_
      refine li_topi (pk_mul _ _) ?_
      refine lv_iload_n hx hb dX3_knows_29 rfl (lv_at hl 2 rfl) ?_
      refine lv_iadd hx hb dX3_knows_30 ?_
      refine li_topi (nI_add _ _) ?_
      refine li_ild hx hb hK hP 6 0 rfl rfl (by omega) (by decide) dX3_knows_31 ?_
      refine lv_goto (tgt := 40) hx hb dX3_knows_32 (by decide) ?_
      have hk9 : kKnow nw ns (nI jp0) (nI jp1) = 0 := by simp [kKnow, noneOr, Int32.not_lt, c1, c2]
      refine li_topi (show σ 16 (6 * jp0 + jp1) = vKnow nw ns σ (nI jp0) (nI jp1) from by unfold vKnow; rw [hk9]; first | rfl | (rw [if_pos rfl]; repeat rw [nN_nI (by omega)])) ?_
      have hw9 : nI 0 = nI (kKnow nw ns (nI jp0) (nI jp1)) := by rw [hk9]
      have hP : va_P D vwCl (wM cI cZ a (nI (kKnow nw ns (nI jp0) (nI jp1))) n nw ns σ η) G := Eq.mp (congrArg (fun z9 => va_P D vwCl (wM cI cZ a z9 n nw ns σ η) G) hw9) hP
      clear hw9
      exact hEnd 40 ls G locs dX3_knows_40 hP hS
set_option maxHeartbeats 4000000 in
set_option maxRecDepth 100000 in
theorem c_X3_counted (l : Launch) (D : va_G) (cI cZ cL cO : ClassId) (a : Nat → Nat) (th : Int32) (n nw ns : Nat) (σ η : Sg) (H : Heap) (q : Nat) (hB : n ≤ 10 ∧ nw ≤ 20 ∧ ns ≤ 6) (pl : Nat) (hpl : pl ≤ 200) (hq : q < 11) (hz : bz σ) (hRF : RF n pl σ) (hPB : PB pl nw σ) : Met l yX3_counted wsX3_counted ({ frames := 3, cells := 0, slots := 0, locals := 66 } : Room) (ro_P D (T4 cI cZ cL cO) (wM cI cZ a th n nw ns σ η) H [.ref (a 0), .int (nI q)]) (ro_Q (alT n pl nw ns σ q) H) 0 0 (fun _ => False) := by
  refine ro_of (cc := cX3_counted) (maxL := 2) (by decide) rfl (Nat.le_of_ble_eq_true rfl) rfl ?_
  intro p e s m args below meth c Q ls locs hx hb hml hown hts hK hE hP hl hS hEnd
  have hl : lv_has ls 2 [(0, .ref (a 0)), (1, .int (nI q))] := hl
  have hX3 : ∀ w ∈ wsX30, w.before args s = true := fun w h => hts w (List.mem_cons_of_mem _ (List.mem_append_right _ (h)))
  have f28 : (Cond.fieldLink RX3 28 "LanternWalkModel" "step" "[I").before args s = true := hts _ (List.mem_of_getElem? (i := 1) rfl)
  have f51 : (Cond.fieldLink RX3 51 "LanternWalkModel" "stretches" "I").before args s = true := hts _ (List.mem_of_getElem? (i := 2) rfl)
  have f58 : (Cond.fieldLink RX3 58 "LanternWalkModel" "walkers" "I").before args s = true := hts _ (List.mem_of_getElem? (i := 3) rfl)
  have f61 : (Cond.fieldLink RX3 61 "LanternWalkModel" "songs" "I").before args s = true := hts _ (List.mem_of_getElem? (i := 4) rfl)
  refine lv_iload_n hx hb dX3_counted_0 rfl (lv_at hl 1 rfl) ?_
  rcases (show q = 0 ∨ q = 1 ∨ q = 2 ∨ q = 3 ∨ q = 4 ∨ q = 5 ∨ q = 6 ∨ q = 7 ∨ q = 8 ∨ q = 9 ∨ q = 10 from by omega) with rfl | rfl | rfl | rfl | rfl | rfl | rfl | rfl | rfl | rfl | rfl
  · refine lv_tableIn (off := 55) (tgt := 56) hx hb dX3_counted_1 (by decide) (by decide) rfl (by decide) ?_
    refine lv_aload_n hx hb dX3_counted_56 rfl (lv_at hl 0 rfl) ?_
    refine li_gf3 hx hb hX3 hown hK hP 0 rfl 10 (by decide) f28 rfl dX3_counted_57 ?_
    refine lv_iconst (v := nI 0) hx hb dX3_counted_60 rfl ?_
    refine li_ild hx hb hK hP 7 0 rfl rfl (by omega) (by decide) dX3_counted_61 ?_
    refine li_topi (show σ 17 0 = alT n pl nw ns σ 0 from by first | rfl | exact fm_en hpl hPB nw (Nat.le_refl nw) | (show _ = fm σ nw - ls_ σ (fm σ nw) nw; rw [fm_en hpl hPB nw (Nat.le_refl nw), ls_en hpl hPB])) ?_
    exact hEnd 62 ls locs dX3_counted_62 hS
  · refine lv_tableIn (off := 62) (tgt := 63) hx hb dX3_counted_1 (by decide) (by decide) rfl (by decide) ?_
    refine lv_aload_n hx hb dX3_counted_63 rfl (lv_at hl 0 rfl) ?_
    refine li_gf3 hx hb hX3 hown hK hP 0 rfl 1 (by decide) f51 rfl dX3_counted_64 ?_
    refine li_topi (show nI n = alT n pl nw ns σ 1 from by first | rfl | exact fm_en hpl hPB nw (Nat.le_refl nw) | (show _ = fm σ nw - ls_ σ (fm σ nw) nw; rw [fm_en hpl hPB nw (Nat.le_refl nw), ls_en hpl hPB])) ?_
    exact hEnd 67 ls locs dX3_counted_67 hS
  · refine lv_tableIn (off := 67) (tgt := 68) hx hb dX3_counted_1 (by decide) (by decide) rfl (by decide) ?_
    refine lv_aload_n hx hb dX3_counted_68 rfl (lv_at hl 0 rfl) ?_
    refine roV (As := []) (q0 := 0) (ci := 3) hx hb hml hown hts (c_X3_places l D cI cZ cL cO a th n nw ns σ η H (hB)) (cwV 0 hts gX3_counted_X3_places rfl rfl rfl (by decide +kernel) ⟨by decide, by decide⟩) hK hE hP rfl rfl rfl rfl hl.1 rfl (Nat.le_of_ble_eq_true rfl) hS dX3_counted_69 ⟨Nat.zero_le _, Nat.zero_le _⟩ (fun locs hS => ?_)
    refine li_topi (show plv σ n = nI pl from RF_plv hRF) ?_
    refine li_topi (show nI pl = alT n pl nw ns σ 2 from by first | rfl | exact fm_en hpl hPB nw (Nat.le_refl nw) | (show _ = fm σ nw - ls_ σ (fm σ nw) nw; rw [fm_en hpl hPB nw (Nat.le_refl nw), ls_en hpl hPB])) ?_
    exact hEnd 72 ls locs dX3_counted_72 hS
  · refine lv_tableIn (off := 72) (tgt := 73) hx hb dX3_counted_1 (by decide) (by decide) rfl (by decide) ?_
    refine lv_aload_n hx hb dX3_counted_73 rfl (lv_at hl 0 rfl) ?_
    refine li_gf3 hx hb hX3 hown hK hP 0 rfl 5 (by decide) f58 rfl dX3_counted_74 ?_
    refine li_topi (show nI nw = alT n pl nw ns σ 3 from by first | rfl | exact fm_en hpl hPB nw (Nat.le_refl nw) | (show _ = fm σ nw - ls_ σ (fm σ nw) nw; rw [fm_en hpl hPB nw (Nat.le_refl nw), ls_en hpl hPB])) ?_
    exact hEnd 77 ls locs dX3_counted_77 hS
  · refine lv_tableIn (off := 77) (tgt := 78) hx hb dX3_counted_1 (by decide) (by decide) rfl (by decide) ?_
    refine lv_aload_n hx hb dX3_counted_78 rfl (lv_at hl 0 rfl) ?_
    refine lv_iload_n hx hb dX3_counted_79 rfl (lv_at hl 1 rfl) ?_
    refine lv_iconst (v := nI 4) hx hb dX3_counted_80 rfl ?_
    refine lv_isub hx hb dX3_counted_81 ?_
    refine li_topi (show nI 4 - nI 4 = nI 0 from by decide) ?_
    refine roV (As := [.int (nI 0)]) (q0 := 0) (ci := 3) hx hb hml hown hts (c_X3_inState l D cI cZ cL cO a th n nw ns σ η H (nI 0) (hB)) (cwV 1 hts gX3_counted_X3_inState rfl rfl rfl (by decide +kernel) ⟨by decide, by decide⟩) hK hE hP rfl rfl rfl rfl hl.1 rfl (Nat.le_of_ble_eq_true rfl) hS dX3_counted_82 ⟨Nat.zero_le _, Nat.zero_le _⟩ (fun locs hS => ?_)
    refine li_topi (show nI (hm σ nw (nI 0)) = alT n pl nw ns σ 4 from by first | rfl | exact fm_en hpl hPB nw (Nat.le_refl nw) | (show _ = fm σ nw - ls_ σ (fm σ nw) nw; rw [fm_en hpl hPB nw (Nat.le_refl nw), ls_en hpl hPB])) ?_
    exact hEnd 85 ls locs dX3_counted_85 hS
  · refine lv_tableIn (off := 77) (tgt := 78) hx hb dX3_counted_1 (by decide) (by decide) rfl (by decide) ?_
    refine lv_aload_n hx hb dX3_counted_78 rfl (lv_at hl 0 rfl) ?_
    refine lv_iload_n hx hb dX3_counted_79 rfl (lv_at hl 1 rfl) ?_
    refine lv_iconst (v := nI 4) hx hb dX3_counted_80 rfl ?_
    refine lv_isub hx hb dX3_counted_81 ?_
    refine li_topi (show nI 5 - nI 4 = nI 1 from by decide) ?_
    refine roV (As := [.int (nI 1)]) (q0 := 0) (ci := 3) hx hb hml hown hts (c_X3_inState l D cI cZ cL cO a th n nw ns σ η H (nI 1) (hB)) (cwV 1 hts gX3_counted_X3_inState rfl rfl rfl (by decide +kernel) ⟨by decide, by decide⟩) hK hE hP rfl rfl rfl rfl hl.1 rfl (Nat.le_of_ble_eq_true rfl) hS dX3_counted_82 ⟨Nat.zero_le _, Nat.zero_le _⟩ (fun locs hS => ?_)
    refine li_topi (show nI (hm σ nw (nI 1)) = alT n pl nw ns σ 5 from by first | rfl | exact fm_en hpl hPB nw (Nat.le_refl nw) | (show _ = fm σ nw - ls_ σ (fm σ nw) nw; rw [fm_en hpl hPB nw (Nat.le_refl nw), ls_en hpl hPB])) ?_
    exact hEnd 85 ls locs dX3_counted_85 hS
  · refine lv_tableIn (off := 77) (tgt := 78) hx hb dX3_counted_1 (by decide) (by decide) rfl (by decide) ?_
    refine lv_aload_n hx hb dX3_counted_78 rfl (lv_at hl 0 rfl) ?_
    refine lv_iload_n hx hb dX3_counted_79 rfl (lv_at hl 1 rfl) ?_
    refine lv_iconst (v := nI 4) hx hb dX3_counted_80 rfl ?_
    refine lv_isub hx hb dX3_counted_81 ?_
    refine li_topi (show nI 6 - nI 4 = nI 2 from by decide) ?_
    refine roV (As := [.int (nI 2)]) (q0 := 0) (ci := 3) hx hb hml hown hts (c_X3_inState l D cI cZ cL cO a th n nw ns σ η H (nI 2) (hB)) (cwV 1 hts gX3_counted_X3_inState rfl rfl rfl (by decide +kernel) ⟨by decide, by decide⟩) hK hE hP rfl rfl rfl rfl hl.1 rfl (Nat.le_of_ble_eq_true rfl) hS dX3_counted_82 ⟨Nat.zero_le _, Nat.zero_le _⟩ (fun locs hS => ?_)
    refine li_topi (show nI (hm σ nw (nI 2)) = alT n pl nw ns σ 6 from by first | rfl | exact fm_en hpl hPB nw (Nat.le_refl nw) | (show _ = fm σ nw - ls_ σ (fm σ nw) nw; rw [fm_en hpl hPB nw (Nat.le_refl nw), ls_en hpl hPB])) ?_
    exact hEnd 85 ls locs dX3_counted_85 hS
  · refine lv_tableIn (off := 85) (tgt := 86) hx hb dX3_counted_1 (by decide) (by decide) rfl (by decide) ?_
    refine lv_aload_n hx hb dX3_counted_86 rfl (lv_at hl 0 rfl) ?_
    refine roV (As := []) (q0 := 0) (ci := 3) hx hb hml hown hts (c_X3_burning l D cI cZ cL cO a th n nw ns σ η H (hB) (hz)) (cwV 0 hts gX3_counted_X3_burning rfl rfl rfl (by decide +kernel) ⟨by decide, by decide⟩) hK hE hP rfl rfl rfl rfl hl.1 rfl (Nat.le_of_ble_eq_true rfl) hS dX3_counted_87 ⟨Nat.zero_le _, Nat.zero_le _⟩ (fun locs hS => ?_)
    refine li_topi (show nI (lb σ nw) = alT n pl nw ns σ 7 from by first | rfl | exact fm_en hpl hPB nw (Nat.le_refl nw) | (show _ = fm σ nw - ls_ σ (fm σ nw) nw; rw [fm_en hpl hPB nw (Nat.le_refl nw), ls_en hpl hPB])) ?_
    exact hEnd 90 ls locs dX3_counted_90 hS
  · refine lv_tableIn (off := 90) (tgt := 91) hx hb dX3_counted_1 (by decide) (by decide) rfl (by decide) ?_
    refine lv_aload_n hx hb dX3_counted_91 rfl (lv_at hl 0 rfl) ?_
    refine li_gf3 hx hb hX3 hown hK hP 0 rfl 7 (by decide) f61 rfl dX3_counted_92 ?_
    refine li_topi (show nI ns = alT n pl nw ns σ 8 from by first | rfl | exact fm_en hpl hPB nw (Nat.le_refl nw) | (show _ = fm σ nw - ls_ σ (fm σ nw) nw; rw [fm_en hpl hPB nw (Nat.le_refl nw), ls_en hpl hPB])) ?_
    exact hEnd 95 ls locs dX3_counted_95 hS
  · refine lv_tableIn (off := 95) (tgt := 96) hx hb dX3_counted_1 (by decide) (by decide) rfl (by decide) ?_
    refine lv_aload_n hx hb dX3_counted_96 rfl (lv_at hl 0 rfl) ?_
    refine lv_iconst (v := nI 1) hx hb dX3_counted_97 rfl ?_
    refine roV (As := [.int (nI 1)]) (q0 := 0) (ci := 3) hx hb hml hown hts (c_X3_end l D cI cZ cL cO a th n nw ns σ η H true (hB)) (cwV 1 hts gX3_counted_X3_end rfl rfl rfl (by decide +kernel) ⟨by decide, by decide⟩) hK hE hP rfl rfl rfl rfl hl.1 rfl (Nat.le_of_ble_eq_true rfl) hS dX3_counted_98 ⟨Nat.zero_le _, Nat.zero_le _⟩ (fun locs hS => ?_)
    refine li_topi (show en σ true nw = alT n pl nw ns σ 9 from by first | rfl | exact fm_en hpl hPB nw (Nat.le_refl nw) | (show _ = fm σ nw - ls_ σ (fm σ nw) nw; rw [fm_en hpl hPB nw (Nat.le_refl nw), ls_en hpl hPB])) ?_
    exact hEnd 101 ls locs dX3_counted_101 hS
  · refine lv_tableOut (tgt := 102) hx hb dX3_counted_1 (by decide) (by decide) ?_
    refine lv_aload_n hx hb dX3_counted_102 rfl (lv_at hl 0 rfl) ?_
    refine lv_iconst (v := nI 1) hx hb dX3_counted_103 rfl ?_
    refine roV (As := [.int (nI 1)]) (q0 := 0) (ci := 3) hx hb hml hown hts (c_X3_end l D cI cZ cL cO a th n nw ns σ η H true (hB)) (cwV 1 hts gX3_counted_X3_end rfl rfl rfl (by decide +kernel) ⟨by decide, by decide⟩) hK hE hP rfl rfl rfl rfl hl.1 rfl (Nat.le_of_ble_eq_true rfl) hS dX3_counted_104 ⟨Nat.zero_le _, Nat.zero_le _⟩ (fun locs hS => ?_)
    refine lv_aload_n hx hb dX3_counted_107 rfl (lv_at hl 0 rfl) ?_
    refine lv_iconst (v := nI 0) hx hb dX3_counted_108 rfl ?_
    refine roV (As := [.int (nI 0)]) (q0 := 0) (ci := 3) hx hb hml hown hts (c_X3_end l D cI cZ cL cO a th n nw ns σ η H false (hB)) (cwV 1 hts gX3_counted_X3_end rfl rfl rfl (by decide +kernel) ⟨by decide, by decide⟩) hK hE hP rfl rfl rfl rfl hl.1 rfl (Nat.le_of_ble_eq_true rfl) hS dX3_counted_109 ⟨Nat.zero_le _, Nat.zero_le _⟩ (fun locs hS => ?_)
    refine lv_isub hx hb dX3_counted_112 ?_
    refine li_topi (show (en σ true nw) - (en σ false nw) = alT n pl nw ns σ 10 from by first | rfl | exact fm_en hpl hPB nw (Nat.le_refl nw) | (show _ = fm σ nw - ls_ σ (fm σ nw) nw; rw [fm_en hpl hPB nw (Nat.le_refl nw), ls_en hpl hPB])) ?_
    exact hEnd 113 ls locs dX3_counted_113 hS
set_option maxHeartbeats 4000000 in
set_option maxRecDepth 100000 in
theorem c_X3_count (l : Launch) (D : va_G) (cI cZ cL cO : ClassId) (a : Nat → Nat) (th : Int32) (n nw ns : Nat) (σ η : Sg) (H : Heap) (p0 : Int32) (A : Nat → Prop) (hA : okP A a 13) (hB : n ≤ 10 ∧ nw ≤ 20 ∧ ns ≤ 6) (pl : Nat) (hpl : pl ≤ 200) (hz : bz σ) (hRF : RF n pl σ) (hPB : PB pl nw σ) : Met l yX3_count wsX3_count ({ frames := 4, cells := 0, slots := 0, locals := 87 } : Room) (ro_P D (T4 cI cZ cL cO) (wM cI cZ a th n nw ns σ η) H [.ref (a 0), .int p0]) (mi_Q D (ifk (kCount p0) (alT n pl nw ns σ (nN p0))) (wM cI cZ a (nI (kCount p0)) n nw ns σ η) A) 0 0 A := by
  refine mi_of (cc := cX3_count) (maxL := 2) (by decide) rfl (Nat.le_of_ble_eq_true rfl) rfl ?_
  intro p e s m args below meth c Q ls locs hx hb hml hown hts hK hE hP hl hS hEnd
  have hl : lv_has ls 2 [(0, .ref (a 0)), (1, .int p0)] := hl
  have hX3 : ∀ w ∈ wsX30, w.before args s = true := fun w h => hts w (List.mem_cons_of_mem _ (List.mem_append_right _ (h)))
  have f47 : (Cond.fieldLink RX3 47 "LanternWalkModel" "thrown" "I").before args s = true := hts _ (List.mem_of_getElem? (i := 1) rfl)
  refine lv_aload_n hx hb dX3_count_0 rfl (lv_at hl 0 rfl) ?_
  refine lv_iconst (v := nI 0) hx hb dX3_count_1 rfl ?_
  refine li_pf3 hx hb hX3 hown hK hP hA.DM hS 0 rfl 0 (by decide) f47 rfl rfl rfl (Nat.le_of_ble_eq_true rfl) stM_th dX3_count_2 (fun G locs hP hS => ?_)
  refine lv_iload_n hx hb dX3_count_5 rfl (lv_at hl 1 rfl) ?_
  refine lv_iconst (v := nI 0) hx hb dX3_count_6 rfl ?_
  refine lv_bipush (v := nI 10) hx hb dX3_count_7 rfl ?_
  refine roS (As := [.int p0, .int (nI 0), .int (nI 10)]) hx hb hml hown hts (c_X3_isI l D cI cZ cL cO G p0 (nI 0) (nI 10)) (va_cwS 3 hts gX3_count_X3_isIn rfl rfl rfl (by decide +kernel) ⟨by decide, by decide⟩) hK hE (hP.sub (ws' := []) [] rfl) rfl hl.1 rfl (Nat.le_of_ble_eq_true rfl) hS dX3_count_9 ⟨Nat.zero_le _, Nat.zero_le _⟩ (fun locs hS => ?_)
  refine li_zeq (tgt := 23) hx hb dX3_count_12 (by decide) (fun c1 => ?_) (fun c1 => ?_)
  · skip
    refine lv_aload_n hx hb dX3_count_23 rfl (lv_at hl 0 rfl) ?_
    refine lv_iconst (v := nI 1) hx hb dX3_count_24 rfl ?_
    refine miV (As := [.int (nI 1)]) (q0 := 0) (ci := 3) hx hb hml hown hts (c_X3_fail l D cI cZ cL cO a (nI 0) n nw ns σ η G (nI 1) A hA (hB)) (cwV 1 hts gX3_count_X3_fail rfl rfl rfl (by decide +kernel) ⟨by decide, by decide⟩) hK hE hP rfl rfl rfl rfl hl.1 rfl (Nat.le_of_ble_eq_true rfl) hS (fun _ h => h) dX3_count_25 ⟨Nat.zero_le _, Nat.zero_le _⟩ (fun G locs hP _ _ hS => ?_)
    have hk9 : kCount p0 = 1 := by simp [kCount, noneOr, Int32.not_lt, c1]
    refine li_topi (show nI 0 = ifk (kCount p0) (alT n pl nw ns σ (nN p0)) from by rw [hk9]; first | rfl | (rw [ifk_0 rfl]; repeat rw [nN_nI (by omega)])) ?_
    have hw9 : (nI 1) = nI (kCount p0) := by rw [hk9]
    have hP : va_P D vwCl (wM cI cZ a (nI (kCount p0)) n nw ns σ η) G := Eq.mp (congrArg (fun z9 => va_P D vwCl (wM cI cZ a z9 n nw ns σ η) G) hw9) hP
    clear hw9
    exact hEnd 28 ls G locs dX3_count_28 hP hS
  · skip
    obtain ⟨jp0, hljp0, hhjp0, rfl⟩ := isI_nat (lo := 0) (hi := 10) (by omega) (by omega) c1
    refine lv_aload_n hx hb dX3_count_15 rfl (lv_at hl 0 rfl) ?_
    refine lv_iload_n hx hb dX3_count_16 rfl (lv_at hl 1 rfl) ?_
    refine roV (As := [.int (nI jp0)]) (q0 := 0) (ci := 3) hx hb hml hown hts (c_X3_counted l D cI cZ cL cO a (nI 0) n nw ns σ η G jp0 (hB) (pl) (hpl) (by omega) (hz) (hRF) (hPB)) (cwV 1 hts gX3_count_X3_counted rfl rfl rfl (by decide +kernel) ⟨by decide, by decide⟩) hK hE hP rfl rfl rfl rfl hl.1 rfl (Nat.le_of_ble_eq_true rfl) hS dX3_count_17 ⟨Nat.zero_le _, Nat.zero_le _⟩ (fun locs hS => ?_)
    refine lv_goto (tgt := 28) hx hb dX3_count_20 (by decide) ?_
    have hk9 : kCount (nI jp0) = 0 := by simp [kCount, noneOr, Int32.not_lt, c1]
    refine li_topi (show alT n pl nw ns σ jp0 = ifk (kCount (nI jp0)) (alT n pl nw ns σ (nN (nI jp0))) from by rw [hk9]; first | rfl | (rw [ifk_0 rfl]; repeat rw [nN_nI (by omega)])) ?_
    have hw9 : nI 0 = nI (kCount (nI jp0)) := by rw [hk9]
    have hP : va_P D vwCl (wM cI cZ a (nI (kCount (nI jp0))) n nw ns σ η) G := Eq.mp (congrArg (fun z9 => va_P D vwCl (wM cI cZ a z9 n nw ns σ η) G) hw9) hP
    clear hw9
    exact hEnd 28 ls G locs dX3_count_28 hP hS
