/-! the model: its calls -/
set_option maxHeartbeats 4000000 in
set_option maxRecDepth 100000 in
theorem c_X3_fail (l : Launch) (D : va_G) (cI cZ cL cO : ClassId) (a : Nat → Nat) (th : Int32) (n nw ns : Nat) (σ η : Sg) (H : Heap) (x : Int32) (A : Nat → Prop) (hA : okP A a 13) (hB : n ≤ 10 ∧ nw ≤ 20 ∧ ns ≤ 6) : Met l yX3_fail wsX3_fail ({ frames := 0, cells := 0, slots := 0, locals := 0 } : Room) (ro_P D (T4 cI cZ cL cO) (wM cI cZ a th n nw ns σ η) H [.ref (a 0), .int x]) (mi_Q D (nI 0) (wM cI cZ a x n nw ns σ η) A) 0 0 A := by
  refine mi_of (cc := cX3_fail) (maxL := 2) (by decide) rfl (Nat.le_of_ble_eq_true rfl) rfl ?_
  intro p e s m args below meth c Q ls locs hx hb hml hown hts hK hE hP hl hS hEnd
  have hl : lv_has ls 2 [(0, .ref (a 0)), (1, .int x)] := hl
  have hX3 : ∀ w ∈ wsX30, w.before args s = true := fun w h => hts w (List.mem_cons_of_mem _ (List.mem_append_right _ (h)))
  have f47 : (Cond.fieldLink RX3 47 "LanternWalkModel" "thrown" "I").before args s = true := hts _ (List.mem_of_getElem? (i := 1) rfl)
  refine lv_aload_n hx hb dX3_fail_0 rfl (lv_at hl 0 rfl) ?_
  refine lv_iload_n hx hb dX3_fail_1 rfl (lv_at hl 1 rfl) ?_
  refine li_pf3 hx hb hX3 hown hK hP hA.DM hS 0 rfl 0 (by decide) f47 rfl rfl rfl (Nat.le_of_ble_eq_true rfl) stM_th dX3_fail_2 (fun G locs hP hS => ?_)
  refine lv_iconst (v := nI 0) hx hb dX3_fail_5 rfl ?_
  exact hEnd 6 ls G locs dX3_fail_6 hP hS
set_option maxHeartbeats 4000000 in
set_option maxRecDepth 100000 in
theorem c_X3_post (l : Launch) (D : va_G) (cI cZ cL cO : ClassId) (a : Nat → Nat) (th : Int32) (n nw ns : Nat) (σ η : Sg) (H : Heap) (p0 : Int32) (p1 : Int32) (A : Nat → Prop) (hA : okP A a 13) (hB : n ≤ 10 ∧ nw ≤ 20 ∧ ns ≤ 6) : Met l yX3_post wsX3_post ({ frames := 2, cells := 0, slots := 0, locals := 43 } : Room) (ro_P D (T4 cI cZ cL cO) (wM cI cZ a th n nw ns σ η) H [.ref (a 0), .int p0, .int p1]) (mi_Q D (vPost n σ p0 p1) (wM cI cZ a (nI (kPost n p0 p1)) n nw ns (sPost n σ p0 p1) η) A) 0 0 A := by
  refine mi_of (cc := cX3_post) (maxL := 4) (by decide) rfl (Nat.le_of_ble_eq_true rfl) rfl ?_
  intro p e s m args below meth c Q ls locs hx hb hml hown hts hK hE hP hl hS hEnd
  have hl : lv_has ls 4 [(0, .ref (a 0)), (1, .int p0), (2, .int p1)] := hl
  have hX3 : ∀ w ∈ wsX30, w.before args s = true := fun w h => hts w (List.mem_cons_of_mem _ (List.mem_append_right _ (h)))
  have f47 : (Cond.fieldLink RX3 47 "LanternWalkModel" "thrown" "I").before args s = true := hts _ (List.mem_of_getElem? (i := 1) rfl)
  have f13 : (Cond.fieldLink RX3 13 "LanternWalkModel" "stewards" "[I").before args s = true := hts _ (List.mem_of_getElem? (i := 2) rfl)
  refine lv_aload_n hx hb dX3_post_0 rfl (lv_at hl 0 rfl) ?_
  refine lv_iconst (v := nI 0) hx hb dX3_post_1 rfl ?_
  refine li_pf3 hx hb hX3 hown hK hP hA.DM hS 0 rfl 0 (by decide) f47 rfl rfl rfl (Nat.le_of_ble_eq_true rfl) stM_th dX3_post_2 (fun G locs hP hS => ?_)
  refine lv_iload_n hx hb dX3_post_5 rfl (lv_at hl 1 rfl) ?_
  refine lv_iconst (v := nI 0) hx hb dX3_post_6 rfl ?_
  refine lv_iconst (v := nI 1) hx hb dX3_post_7 rfl ?_
  refine roS (As := [.int p0, .int (nI 0), .int (nI 1)]) hx hb hml hown hts (c_X3_isI l D cI cZ cL cO G p0 (nI 0) (nI 1)) (va_cwS 3 hts gX3_post_X3_isIn rfl rfl rfl (by decide +kernel) ⟨by decide, by decide⟩) hK hE (hP.sub (ws' := []) [] rfl) rfl hl.1 rfl (Nat.le_of_ble_eq_true rfl) hS dX3_post_8 ⟨Nat.zero_le _, Nat.zero_le _⟩ (fun locs hS => ?_)
  refine li_zeq (tgt := 27) hx hb dX3_post_11 (by decide) (fun c1 => ?_) (fun c1 => ?_)
  · skip
    refine lv_aload_n hx hb dX3_post_27 rfl (lv_at hl 0 rfl) ?_
    refine lv_iconst (v := nI 1) hx hb dX3_post_28 rfl ?_
    refine miV (As := [.int (nI 1)]) (q0 := 0) (ci := 3) hx hb hml hown hts (c_X3_fail l D cI cZ cL cO a (nI 0) n nw ns σ η G (nI 1) A hA (hB)) (cwV 1 hts gX3_post_X3_fail rfl rfl rfl (by decide +kernel) ⟨by decide, by decide⟩) hK hE hP rfl rfl rfl rfl hl.1 rfl (Nat.le_of_ble_eq_true rfl) hS (fun _ h => h) dX3_post_29 ⟨Nat.zero_le _, Nat.zero_le _⟩ (fun G locs hP _ _ hS => ?_)
    have hk9 : kPost n p0 p1 = 1 := by simp [kPost, noneOr, Int32.not_lt, c1]
    refine li_topi (show nI 0 = vPost n σ p0 p1 from by unfold vPost; rw [hk9]; first | rfl | (rw [if_pos rfl]; repeat rw [nN_nI (by omega)])) ?_
    have hw9 : (nI 1) = nI (kPost n p0 p1) := by rw [hk9]
    have hP : va_P D vwCl (wM cI cZ a (nI (kPost n p0 p1)) n nw ns σ η) G := Eq.mp (congrArg (fun z9 => va_P D vwCl (wM cI cZ a z9 n nw ns σ η) G) hw9) hP
    clear hw9
    have hw9 : σ = sPost n σ p0 p1 := by unfold sPost; rw [hk9]; first | rfl | (simp only [nN_nI (show _ < 2 ^ 31 by omega)]; rfl) | (rw [if_pos rfl]; repeat rw [nN_nI (by omega)])
    have hP : va_P D vwCl (wM cI cZ a (nI (kPost n p0 p1)) n nw ns (sPost n σ p0 p1) η) G := Eq.mp (congrArg (fun z9 => va_P D vwCl (wM cI cZ a (nI (kPost n p0 p1)) n nw ns z9 η) G) hw9) hP
    clear hw9
    exact hEnd 32 ls G locs dX3_post_32 hP hS
  · skip
    obtain ⟨jp0, hljp0, hhjp0, rfl⟩ := isI_nat (lo := 0) (hi := 1) (by omega) (by omega) c1
    refine lv_iload_n hx hb dX3_post_14 rfl (lv_at hl 2 rfl) ?_
    refine lv_iconst (v := (-1)) hx hb dX3_post_15 rfl ?_
    refine lv_icmp_eq (tgt := 33) hx hb dX3_post_16 (by decide) (fun c2 => ?_) (fun c2 => ?_)
    · skip
      refine lv_aload_n hx hb dX3_post_33 rfl (lv_at hl 0 rfl) ?_
      refine li_gf3 hx hb hX3 hown hK hP 0 rfl 3 (by decide) f13 rfl dX3_post_34 ?_
      refine lv_iload_n hx hb dX3_post_37 rfl (lv_at hl 1 rfl) ?_
      refine li_ild hx hb hK hP 2 0 rfl rfl (by omega) (by decide) dX3_post_38 ?_
      refine lv_istore_n (lv' := [(3, .int (σ 7 jp0)), (0, .ref (a 0)), (1, .int (nI jp0)), (2, .int p1)]) hx hb dX3_post_39 rfl hl (by decide) rfl (fun ls hl => ?_)
      refine lv_aload_n hx hb dX3_post_40 rfl (lv_at hl 1 rfl) ?_
      refine li_gf3 hx hb hX3 hown hK hP 0 rfl 3 (by decide) f13 rfl dX3_post_41 ?_
      refine lv_iload_n hx hb dX3_post_44 rfl (lv_at hl 2 rfl) ?_
      refine lv_iload_n hx hb dX3_post_45 rfl (lv_at hl 3 rfl) ?_
      refine li_ist hx hb hK hP hA.DM hS 2 0 rfl rfl (by omega) (by decide) stM_7 dX3_post_46 (fun G locs hP hS => ?_)
      refine lv_iload_n hx hb dX3_post_47 rfl (lv_at hl 0 rfl) ?_
      have hk9 : kPost n (nI jp0) p1 = 0 := by simp [kPost, noneOr, Int32.not_lt, c1, c2]
      refine li_topi (show σ 7 jp0 = vPost n σ (nI jp0) p1 from by unfold vPost; rw [hk9]; first | rfl | (rw [if_pos rfl]; repeat rw [nN_nI (by omega)])) ?_
      have hw9 : nI 0 = nI (kPost n (nI jp0) p1) := by rw [hk9]
      have hP : va_P D vwCl (wM cI cZ a (nI (kPost n (nI jp0) p1)) n nw ns (up2 σ 7 jp0 p1) η) G := Eq.mp (congrArg (fun z9 => va_P D vwCl (wM cI cZ a z9 n nw ns (up2 σ 7 jp0 p1) η) G) hw9) hP
      clear hw9
      have hw9 : up2 σ 7 jp0 p1 = sPost n σ (nI jp0) p1 := by unfold sPost; rw [hk9]; first | rfl | (simp only [nN_nI (show _ < 2 ^ 31 by omega)]; rfl) | (rw [if_pos rfl]; repeat rw [nN_nI (by omega)])
      have hP : va_P D vwCl (wM cI cZ a (nI (kPost n (nI jp0) p1)) n nw ns (sPost n σ (nI jp0) p1) η) G := Eq.mp (congrArg (fun z9 => va_P D vwCl (wM cI cZ a (nI (kPost n (nI jp0) p1)) n nw ns z9 η) G) hw9) hP
      clear hw9
      exact hEnd 48 ls G locs dX3_post_48 hP hS
    · skip
      refine lv_aload_n hx hb dX3_post_19 rfl (lv_at hl 0 rfl) ?_
      refine lv_iload_n hx hb dX3_post_20 rfl (lv_at hl 2 rfl) ?_
      refine roV (As := [.int p1]) (q0 := 0) (ci := 3) hx hb hml hown hts (c_X3_isStretch l D cI cZ cL cO a (nI 0) n nw ns σ η G p1 (hB)) (cwV 1 hts gX3_post_X3_isStretch rfl rfl rfl (by decide +kernel) ⟨by decide, by decide⟩) hK hE hP rfl rfl rfl rfl hl.1 rfl (Nat.le_of_ble_eq_true rfl) hS dX3_post_21 ⟨Nat.zero_le _, Nat.zero_le _⟩ (fun locs hS => ?_)
      refine li_zne (tgt := 33) hx hb dX3_post_24 (by decide) (fun c3 => ?_) (fun c3 => ?_)
      · skip
        obtain ⟨jp1, hhjp1, rfl⟩ := has_nat (by omega) c3
        refine lv_aload_n hx hb dX3_post_33 rfl (lv_at hl 0 rfl) ?_
        refine li_gf3 hx hb hX3 hown hK hP 0 rfl 3 (by decide) f13 rfl dX3_post_34 ?_
        refine lv_iload_n hx hb dX3_post_37 rfl (lv_at hl 1 rfl) ?_
        refine li_ild hx hb hK hP 2 0 rfl rfl (by omega) (by decide) dX3_post_38 ?_
        refine lv_istore_n (lv' := [(3, .int (σ 7 jp0)), (0, .ref (a 0)), (1, .int (nI jp0)), (2, .int (nI jp1))]) hx hb dX3_post_39 rfl hl (by decide) rfl (fun ls hl => ?_)
        refine lv_aload_n hx hb dX3_post_40 rfl (lv_at hl 1 rfl) ?_
        refine li_gf3 hx hb hX3 hown hK hP 0 rfl 3 (by decide) f13 rfl dX3_post_41 ?_
        refine lv_iload_n hx hb dX3_post_44 rfl (lv_at hl 2 rfl) ?_
        refine lv_iload_n hx hb dX3_post_45 rfl (lv_at hl 3 rfl) ?_
        refine li_ist hx hb hK hP hA.DM hS 2 0 rfl rfl (by omega) (by decide) stM_7 dX3_post_46 (fun G locs hP hS => ?_)
        refine lv_iload_n hx hb dX3_post_47 rfl (lv_at hl 0 rfl) ?_
        have hk9 : kPost n (nI jp0) (nI jp1) = 0 := by simp [kPost, noneOr, Int32.not_lt, c1, c2, c3]
        refine li_topi (show σ 7 jp0 = vPost n σ (nI jp0) (nI jp1) from by unfold vPost; rw [hk9]; first | rfl | (rw [if_pos rfl]; repeat rw [nN_nI (by omega)])) ?_
        have hw9 : nI 0 = nI (kPost n (nI jp0) (nI jp1)) := by rw [hk9]
        have hP : va_P D vwCl (wM cI cZ a (nI (kPost n (nI jp0) (nI jp1))) n nw ns (up2 σ 7 jp0 (nI jp1)) η) G := Eq.mp (congrArg (fun z9 => va_P D vwCl (wM cI cZ a z9 n nw ns (up2 σ 7 jp0 (nI jp1)) η) G) hw9) hP
        clear hw9
        have hw9 : up2 σ 7 jp0 (nI jp1) = sPost n σ (nI jp0) (nI jp1) := by unfold sPost; rw [hk9]; first | rfl | (simp only [nN_nI (show _ < 2 ^ 31 by omega)]; rfl) | (rw [if_pos rfl]; repeat rw [nN_nI (by omega)])
        have hP : va_P D vwCl (wM cI cZ a (nI (kPost n (nI jp0) (nI jp1))) n nw ns (sPost n σ (nI jp0) (nI jp1)) η) G := Eq.mp (congrArg (fun z9 => va_P D vwCl (wM cI cZ a (nI (kPost n (nI jp0) (nI jp1))) n nw ns z9 η) G) hw9) hP
        clear hw9
        exact hEnd 48 ls G locs dX3_post_48 hP hS
      · skip
        refine lv_aload_n hx hb dX3_post_27 rfl (lv_at hl 0 rfl) ?_
        refine lv_iconst (v := nI 1) hx hb dX3_post_28 rfl ?_
        refine miV (As := [.int (nI 1)]) (q0 := 0) (ci := 3) hx hb hml hown hts (c_X3_fail l D cI cZ cL cO a (nI 0) n nw ns σ η G (nI 1) A hA (hB)) (cwV 1 hts gX3_post_X3_fail rfl rfl rfl (by decide +kernel) ⟨by decide, by decide⟩) hK hE hP rfl rfl rfl rfl hl.1 rfl (Nat.le_of_ble_eq_true rfl) hS (fun _ h => h) dX3_post_29 ⟨Nat.zero_le _, Nat.zero_le _⟩ (fun G locs hP _ _ hS => ?_)
        have hk9 : kPost n (nI jp0) p1 = 1 := by simp [kPost, noneOr, Int32.not_lt, c1, c2, c3]
        refine li_topi (show nI 0 = vPost n σ (nI jp0) p1 from by unfold vPost; rw [hk9]; first | rfl | (rw [if_pos rfl]; repeat rw [nN_nI (by omega)])) ?_
        have hw9 : (nI 1) = nI (kPost n (nI jp0) p1) := by rw [hk9]
        have hP : va_P D vwCl (wM cI cZ a (nI (kPost n (nI jp0) p1)) n nw ns σ η) G := Eq.mp (congrArg (fun z9 => va_P D vwCl (wM cI cZ a z9 n nw ns σ η) G) hw9) hP
        clear hw9
        have hw9 : σ = sPost n σ (nI jp0) p1 := by unfold sPost; rw [hk9]; first | rfl | (simp only [nN_nI (show _ < 2 ^ 31 by omega)]; rfl) | (rw [if_pos rfl]; repeat rw [nN_nI (by omega)])
        have hP : va_P D vwCl (wM cI cZ a (nI (kPost n (nI jp0) p1)) n nw ns (sPost n σ (nI jp0) p1) η) G := Eq.mp (congrArg (fun z9 => va_P D vwCl (wM cI cZ a (nI (kPost n (nI jp0) p1)) n nw ns z9 η) G) hw9) hP
        clear hw9
        exact hEnd 32 ls G locs dX3_post_32 hP hS
set_option maxHeartbeats 4000000 in
set_option maxRecDepth 100000 in
theorem c_X3_setWind (l : Launch) (D : va_G) (cI cZ cL cO : ClassId) (a : Nat → Nat) (th : Int32) (n nw ns : Nat) (σ η : Sg) (H : Heap) (p0 : Int32) (p1 : Int32) (A : Nat → Prop) (hA : okP A a 13) (hB : n ≤ 10 ∧ nw ≤ 20 ∧ ns ≤ 6) : Met l yX3_setWind wsX3_setWind ({ frames := 1, cells := 0, slots := 0, locals := 22 } : Room) (ro_P D (T4 cI cZ cL cO) (wM cI cZ a th n nw ns σ η) H [.ref (a 0), .int p0, .int p1]) (mi_Q D (vWind σ p0 p1) (wM cI cZ a (nI (kWind p0 p1)) n nw ns (sWind σ p0 p1) η) A) 0 0 A := by
  refine mi_of (cc := cX3_setWind) (maxL := 4) (by decide) rfl (Nat.le_of_ble_eq_true rfl) rfl ?_
  intro p e s m args below meth c Q ls locs hx hb hml hown hts hK hE hP hl hS hEnd
  have hl : lv_has ls 4 [(0, .ref (a 0)), (1, .int p0), (2, .int p1)] := hl
  have hX3 : ∀ w ∈ wsX30, w.before args s = true := fun w h => hts w (List.mem_cons_of_mem _ (List.mem_append_right _ (h)))
  have f47 : (Cond.fieldLink RX3 47 "LanternWalkModel" "thrown" "I").before args s = true := hts _ (List.mem_of_getElem? (i := 1) rfl)
  have f16 : (Cond.fieldLink RX3 16 "LanternWalkModel" "wind" "[I").before args s = true := hts _ (List.mem_of_getElem? (i := 2) rfl)
  refine lv_aload_n hx hb dX3_setWind_0 rfl (lv_at hl 0 rfl) ?_
  refine lv_iconst (v := nI 0) hx hb dX3_setWind_1 rfl ?_
  refine li_pf3 hx hb hX3 hown hK hP hA.DM hS 0 rfl 0 (by decide) f47 rfl rfl rfl (Nat.le_of_ble_eq_true rfl) stM_th dX3_setWind_2 (fun G locs hP hS => ?_)
  refine lv_iload_n hx hb dX3_setWind_5 rfl (lv_at hl 1 rfl) ?_
  refine lv_iconst (v := nI 0) hx hb dX3_setWind_6 rfl ?_
  refine lv_bipush (v := nI 9) hx hb dX3_setWind_7 rfl ?_
  refine roS (As := [.int p0, .int (nI 0), .int (nI 9)]) hx hb hml hown hts (c_X3_isI l D cI cZ cL cO G p0 (nI 0) (nI 9)) (va_cwS 3 hts gX3_setWind_X3_isIn rfl rfl rfl (by decide +kernel) ⟨by decide, by decide⟩) hK hE (hP.sub (ws' := []) [] rfl) rfl hl.1 rfl (Nat.le_of_ble_eq_true rfl) hS dX3_setWind_9 ⟨Nat.zero_le _, Nat.zero_le _⟩ (fun locs hS => ?_)
  refine li_zne (tgt := 21) hx hb dX3_setWind_12 (by decide) (fun c1 => ?_) (fun c1 => ?_)
  · skip
    obtain ⟨jp0, hljp0, hhjp0, rfl⟩ := isI_nat (lo := 0) (hi := 9) (by omega) (by omega) c1
    refine lv_iload_n hx hb dX3_setWind_21 rfl (lv_at hl 2 rfl) ?_
    refine lv_iconst (v := nI 0) hx hb dX3_setWind_22 rfl ?_
    refine lv_bipush (v := nI 9) hx hb dX3_setWind_23 rfl ?_
    refine roS (As := [.int p1, .int (nI 0), .int (nI 9)]) hx hb hml hown hts (c_X3_isI l D cI cZ cL cO G p1 (nI 0) (nI 9)) (va_cwS 3 hts gX3_setWind_X3_isIn rfl rfl rfl (by decide +kernel) ⟨by decide, by decide⟩) hK hE (hP.sub (ws' := []) [] rfl) rfl hl.1 rfl (Nat.le_of_ble_eq_true rfl) hS dX3_setWind_25 ⟨Nat.zero_le _, Nat.zero_le _⟩ (fun locs hS => ?_)
    refine li_zne (tgt := 37) hx hb dX3_setWind_28 (by decide) (fun c2 => ?_) (fun c2 => ?_)
    · skip
      obtain ⟨jp1, hljp1, hhjp1, rfl⟩ := isI_nat (lo := 0) (hi := 9) (by omega) (by omega) c2
      refine lv_aload_n hx hb dX3_setWind_37 rfl (lv_at hl 0 rfl) ?_
      refine li_gf3 hx hb hX3 hown hK hP 0 rfl 4 (by decide) f16 rfl dX3_setWind_38 ?_
      refine lv_iload_n hx hb dX3_setWind_41 rfl (lv_at hl 1 rfl) ?_
      refine li_ild hx hb hK hP 3 0 rfl rfl (by omega) (by decide) dX3_setWind_42 ?_
      refine lv_istore_n (lv' := [(3, .int (σ 3 jp0)), (0, .ref (a 0)), (1, .int (nI jp0)), (2, .int (nI jp1))]) hx hb dX3_setWind_43 rfl hl (by decide) rfl (fun ls hl => ?_)
      refine lv_aload_n hx hb dX3_setWind_44 rfl (lv_at hl 1 rfl) ?_
      refine li_gf3 hx hb hX3 hown hK hP 0 rfl 4 (by decide) f16 rfl dX3_setWind_45 ?_
      refine lv_iload_n hx hb dX3_setWind_48 rfl (lv_at hl 2 rfl) ?_
      refine lv_iload_n hx hb dX3_setWind_49 rfl (lv_at hl 3 rfl) ?_
      refine li_ist hx hb hK hP hA.DM hS 3 0 rfl rfl (by omega) (by decide) stM_3 dX3_setWind_50 (fun G locs hP hS => ?_)
      refine lv_iload_n hx hb dX3_setWind_51 rfl (lv_at hl 0 rfl) ?_
      have hk9 : kWind (nI jp0) (nI jp1) = 0 := by simp [kWind, noneOr, Int32.not_lt, c1, c2]
      refine li_topi (show σ 3 jp0 = vWind σ (nI jp0) (nI jp1) from by unfold vWind; rw [hk9]; first | rfl | (rw [if_pos rfl]; repeat rw [nN_nI (by omega)])) ?_
      have hw9 : nI 0 = nI (kWind (nI jp0) (nI jp1)) := by rw [hk9]
      have hP : va_P D vwCl (wM cI cZ a (nI (kWind (nI jp0) (nI jp1))) n nw ns (up2 σ 3 jp0 (nI jp1)) η) G := Eq.mp (congrArg (fun z9 => va_P D vwCl (wM cI cZ a z9 n nw ns (up2 σ 3 jp0 (nI jp1)) η) G) hw9) hP
      clear hw9
      have hw9 : up2 σ 3 jp0 (nI jp1) = sWind σ (nI jp0) (nI jp1) := by unfold sWind; rw [hk9]; first | rfl | (simp only [nN_nI (show _ < 2 ^ 31 by omega)]; rfl) | (rw [if_pos rfl]; repeat rw [nN_nI (by omega)])
      have hP : va_P D vwCl (wM cI cZ a (nI (kWind (nI jp0) (nI jp1))) n nw ns (sWind σ (nI jp0) (nI jp1)) η) G := Eq.mp (congrArg (fun z9 => va_P D vwCl (wM cI cZ a (nI (kWind (nI jp0) (nI jp1))) n nw ns z9 η) G) hw9) hP
      clear hw9
      exact hEnd 52 ls G locs dX3_setWind_52 hP hS
    · skip
      refine lv_aload_n hx hb dX3_setWind_31 rfl (lv_at hl 0 rfl) ?_
      refine lv_iconst (v := nI 2) hx hb dX3_setWind_32 rfl ?_
      refine miV (As := [.int (nI 2)]) (q0 := 0) (ci := 3) hx hb hml hown hts (c_X3_fail l D cI cZ cL cO a (nI 0) n nw ns σ η G (nI 2) A hA (hB)) (cwV 1 hts gX3_setWind_X3_fail rfl rfl rfl (by decide +kernel) ⟨by decide, by decide⟩) hK hE hP rfl rfl rfl rfl hl.1 rfl (Nat.le_of_ble_eq_true rfl) hS (fun _ h => h) dX3_setWind_33 ⟨Nat.zero_le _, Nat.zero_le _⟩ (fun G locs hP _ _ hS => ?_)
      have hk9 : kWind (nI jp0) p1 = 2 := by simp [kWind, noneOr, Int32.not_lt, c1, c2]
      refine li_topi (show nI 0 = vWind σ (nI jp0) p1 from by unfold vWind; rw [hk9]; first | rfl | (rw [if_pos rfl]; repeat rw [nN_nI (by omega)])) ?_
      have hw9 : (nI 2) = nI (kWind (nI jp0) p1) := by rw [hk9]
      have hP : va_P D vwCl (wM cI cZ a (nI (kWind (nI jp0) p1)) n nw ns σ η) G := Eq.mp (congrArg (fun z9 => va_P D vwCl (wM cI cZ a z9 n nw ns σ η) G) hw9) hP
      clear hw9
      have hw9 : σ = sWind σ (nI jp0) p1 := by unfold sWind; rw [hk9]; first | rfl | (simp only [nN_nI (show _ < 2 ^ 31 by omega)]; rfl) | (rw [if_pos rfl]; repeat rw [nN_nI (by omega)])
      have hP : va_P D vwCl (wM cI cZ a (nI (kWind (nI jp0) p1)) n nw ns (sWind σ (nI jp0) p1) η) G := Eq.mp (congrArg (fun z9 => va_P D vwCl (wM cI cZ a (nI (kWind (nI jp0) p1)) n nw ns z9 η) G) hw9) hP
      clear hw9
      exact hEnd 36 ls G locs dX3_setWind_36 hP hS
  · skip
    refine lv_aload_n hx hb dX3_setWind_15 rfl (lv_at hl 0 rfl) ?_
    refine lv_iconst (v := nI 1) hx hb dX3_setWind_16 rfl ?_
    refine miV (As := [.int (nI 1)]) (q0 := 0) (ci := 3) hx hb hml hown hts (c_X3_fail l D cI cZ cL cO a (nI 0) n nw ns σ η G (nI 1) A hA (hB)) (cwV 1 hts gX3_setWind_X3_fail rfl rfl rfl (by decide +kernel) ⟨by decide, by decide⟩) hK hE hP rfl rfl rfl rfl hl.1 rfl (Nat.le_of_ble_eq_true rfl) hS (fun _ h => h) dX3_setWind_17 ⟨Nat.zero_le _, Nat.zero_le _⟩ (fun G locs hP _ _ hS => ?_)
    have hk9 : kWind p0 p1 = 1 := by simp [kWind, noneOr, Int32.not_lt, c1]
    refine li_topi (show nI 0 = vWind σ p0 p1 from by unfold vWind; rw [hk9]; first | rfl | (rw [if_pos rfl]; repeat rw [nN_nI (by omega)])) ?_
    have hw9 : (nI 1) = nI (kWind p0 p1) := by rw [hk9]
    have hP : va_P D vwCl (wM cI cZ a (nI (kWind p0 p1)) n nw ns σ η) G := Eq.mp (congrArg (fun z9 => va_P D vwCl (wM cI cZ a z9 n nw ns σ η) G) hw9) hP
    clear hw9
    have hw9 : σ = sWind σ p0 p1 := by unfold sWind; rw [hk9]; first | rfl | (simp only [nN_nI (show _ < 2 ^ 31 by omega)]; rfl) | (rw [if_pos rfl]; repeat rw [nN_nI (by omega)])
    have hP : va_P D vwCl (wM cI cZ a (nI (kWind p0 p1)) n nw ns (sWind σ p0 p1) η) G := Eq.mp (congrArg (fun z9 => va_P D vwCl (wM cI cZ a (nI (kWind p0 p1)) n nw ns z9 η) G) hw9) hP
    clear hw9
    exact hEnd 20 ls G locs dX3_setWind_20 hP hS
