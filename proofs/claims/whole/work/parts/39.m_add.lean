/-! the model: addStretch and come -/
set_option maxHeartbeats 4000000 in
set_option maxRecDepth 100000 in
theorem c_X3_addStretch (l : Launch) (D : va_G) (cI cZ cL cO : ClassId) (a : Nat → Nat) (th : Int32) (n nw ns : Nat) (σ η : Sg) (H : Heap) (p0 : Int32) (p1 : Int32) (A : Nat → Prop) (hA : okP A a 13) (hB : n ≤ 10 ∧ nw ≤ 20 ∧ ns ≤ 6) (pl : Nat) (hpl : pl ≤ 200) (hRF : RF n pl σ) (hOZ : OZ n nw σ) : Met l yX3_addStretch wsX3_addStretch ({ frames := 2, cells := 1, slots := 5, locals := 42 } : Room) (ro_P D (T4 cI cZ cL cO) (wM cI cZ a th n nw ns σ η) H [.ref (a 0), .int p0, .int p1]) (mi_Q D (vAdd n σ p0 p1) (wM cI cZ a (nI (kAdd n σ p0 p1)) (nAdd n σ p0 p1) nw ns (sAddK n pl σ p0 p1) η) (AN A H)) 1 5 (AN A H) := by
  refine mz_of (cc := cX3_addStretch) (maxL := 4) (by decide) rfl (Nat.le_of_ble_eq_true rfl) rfl ?_
  intro p e s m args below meth c Q ls locs hx hb hml hown hts hK hE hP hl hS hEnd
  replace hA := hA.AN (H := H)
  have hl : lv_has ls 4 [(0, .ref (a 0)), (1, .int p0), (2, .int p1)] := hl
  have hX3 : ∀ w ∈ wsX30, w.before args s = true := fun w h => hts w (List.mem_cons_of_mem _ (List.mem_append_right _ (h)))
  have f47 : (Cond.fieldLink RX3 47 "LanternWalkModel" "thrown" "I").before args s = true := hts _ (List.mem_of_getElem? (i := 1) rfl)
  have f51 : (Cond.fieldLink RX3 51 "LanternWalkModel" "stretches" "I").before args s = true := hts _ (List.mem_of_getElem? (i := 2) rfl)
  have f28 : (Cond.fieldLink RX3 28 "LanternWalkModel" "step" "[I").before args s = true := hts _ (List.mem_of_getElem? (i := 3) rfl)
  have g3 : (Cond.arrayClass .int).before args s = true := hts _ (List.mem_of_getElem? (i := 4) rfl)
  have f9 : (Cond.fieldLink RX3 9 "LanternWalkModel" "route" "[I").before args s = true := hts _ (List.mem_of_getElem? (i := 5) rfl)
  have g5 : (Cond.methodLink RX3 76 arraycopyName).before args s = true := hts _ (List.mem_of_getElem? (i := 6) rfl)
  have g6 : (Cond.native arraycopyName).before args s = true := hts _ (List.mem_of_getElem? (i := 7) rfl)
  have g7 : (Cond.static arraycopyName).before args s = true := hts _ (List.mem_of_getElem? (i := 8) rfl)
  have g8 : (Cond.initialized "java/lang/System").before args s = true := hts _ (List.mem_of_getElem? (i := 9) rfl)
  refine lv_aload_n hx hb dX3_addStretch_0 rfl (lv_at hl 0 rfl) ?_
  refine lv_iconst (v := nI 0) hx hb dX3_addStretch_1 rfl ?_
  refine li_pf3 hx hb hX3 hown hK hP hA.DM hS 0 rfl 0 (by decide) f47 rfl rfl rfl (Nat.le_of_ble_eq_true rfl) stM_th dX3_addStretch_2 (fun G locs hP hS => ?_)
  refine lv_iload_n hx hb dX3_addStretch_5 rfl (lv_at hl 1 rfl) ?_
  refine lv_iconst (v := nI 1) hx hb dX3_addStretch_6 rfl ?_
  refine lv_bipush (v := nI 20) hx hb dX3_addStretch_7 rfl ?_
  refine roS (As := [.int p0, .int (nI 1), .int (nI 20)]) hx hb hml hown hts (c_X3_isI l D cI cZ cL cO G p0 (nI 1) (nI 20)) (va_cwS 3 hts gX3_addStretch_X3_isIn rfl rfl rfl (by decide +kernel) ⟨by decide, by decide⟩) hK hE (hP.sub (ws' := []) [] rfl) rfl hl.1 rfl (Nat.le_of_ble_eq_true rfl) hS dX3_addStretch_9 ⟨Nat.le_of_ble_eq_true rfl, Nat.le_of_ble_eq_true rfl⟩ (fun locs hS => ?_)
  refine li_zeq (tgt := 24) hx hb dX3_addStretch_12 (by decide) (fun c1 => ?_) (fun c1 => ?_)
  · skip
    refine lv_aload_n hx hb dX3_addStretch_24 rfl (lv_at hl 0 rfl) ?_
    refine lv_iconst (v := nI 1) hx hb dX3_addStretch_25 rfl ?_
    refine miV (As := [.int (nI 1)]) (q0 := 0) (ci := 3) hx hb hml hown hts (c_X3_fail l D cI cZ cL cO a (nI 0) n nw ns σ η G (nI 1) (AN A H) hA (hB)) (cwV 1 hts gX3_addStretch_X3_fail rfl rfl rfl (by decide +kernel) ⟨by decide, by decide⟩) hK hE hP rfl rfl rfl rfl hl.1 rfl (Nat.le_of_ble_eq_true rfl) hS (fun _ h => h) dX3_addStretch_26 ⟨Nat.le_of_ble_eq_true rfl, Nat.le_of_ble_eq_true rfl⟩ (fun G locs hP _ _ hS => ?_)
    have hk9 : kAdd n σ p0 p1 = 1 := by first | (simp [kAdd, Int32.not_lt, nI_0, c1]; done) | (unfold kAdd; rw [if_pos ⟨by assumption, by assumption, by assumption⟩, if_neg (by assumption)])
    refine li_topi (show nI 0 = vAdd n σ p0 p1 from by unfold vAdd; rw [hk9]; first | rfl | (rw [if_pos rfl, pk_sub (by omega)]; congr 1)) ?_
    have hw9 : (nI 1) = nI (kAdd n σ p0 p1) := by rw [hk9]
    have hP : va_P D vwCl (wM cI cZ a (nI (kAdd n σ p0 p1)) n nw ns σ η) G := Eq.mp (congrArg (fun z9 => va_P D vwCl (wM cI cZ a z9 n nw ns σ η) G) hw9) hP
    clear hw9
    have hw9 : σ = sAddK n pl σ p0 p1 := by unfold sAddK; rw [hk9]; first | rfl | (rw [if_pos rfl])
    have hP : va_P D vwCl (wM cI cZ a (nI (kAdd n σ p0 p1)) n nw ns (sAddK n pl σ p0 p1) η) G := Eq.mp (congrArg (fun z9 => va_P D vwCl (wM cI cZ a (nI (kAdd n σ p0 p1)) n nw ns z9 η) G) hw9) hP
    clear hw9
    have hw9 : n = nAdd n σ p0 p1 := by unfold nAdd; rw [hk9]; first | rfl | (rw [if_pos rfl])
    have hP : va_P D vwCl (wM cI cZ a (nI (kAdd n σ p0 p1)) (nAdd n σ p0 p1) nw ns (sAddK n pl σ p0 p1) η) G := Eq.mp (congrArg (fun z9 => va_P D vwCl (wM cI cZ a (nI (kAdd n σ p0 p1)) z9 nw ns (sAddK n pl σ p0 p1) η) G) hw9) hP
    clear hw9
    exact hEnd 29 ls G locs _ _ (by decide) (by decide) dX3_addStretch_29 hP hS
  · skip
    obtain ⟨jp0, hljp0, hhjp0, rfl⟩ := isI_nat (lo := 1) (hi := 20) (by omega) (by omega) c1
    refine lv_iload_n hx hb dX3_addStretch_15 rfl (lv_at hl 2 rfl) ?_
    refine lv_iconst (v := nI 1) hx hb dX3_addStretch_16 rfl ?_
    refine lv_iconst (v := nI 4) hx hb dX3_addStretch_17 rfl ?_
    refine roS (As := [.int p1, .int (nI 1), .int (nI 4)]) hx hb hml hown hts (c_X3_isI l D cI cZ cL cO G p1 (nI 1) (nI 4)) (va_cwS 3 hts gX3_addStretch_X3_isIn rfl rfl rfl (by decide +kernel) ⟨by decide, by decide⟩) hK hE (hP.sub (ws' := []) [] rfl) rfl hl.1 rfl (Nat.le_of_ble_eq_true rfl) hS dX3_addStretch_18 ⟨Nat.le_of_ble_eq_true rfl, Nat.le_of_ble_eq_true rfl⟩ (fun locs hS => ?_)
    refine li_zne (tgt := 30) hx hb dX3_addStretch_21 (by decide) (fun c2 => ?_) (fun c2 => ?_)
    · skip
      obtain ⟨jp1, hljp1, hhjp1, rfl⟩ := isI_nat (lo := 1) (hi := 4) (by omega) (by omega) c2
      refine lv_aload_n hx hb dX3_addStretch_30 rfl (lv_at hl 0 rfl) ?_
      refine li_gf3 hx hb hX3 hown hK hP 0 rfl 1 (by decide) f51 rfl dX3_addStretch_31 ?_
      refine lv_bipush (v := nI 10) hx hb dX3_addStretch_34 rfl ?_
      refine li_eq (tgt := 48) hx hb dX3_addStretch_36 (by decide) (by omega) (by omega) (fun c3 => ?_) (fun c3 => ?_)
      · skip
        refine lv_aload_n hx hb dX3_addStretch_48 rfl (lv_at hl 0 rfl) ?_
        refine lv_iconst (v := nI 2) hx hb dX3_addStretch_49 rfl ?_
        refine miV (As := [.int (nI 2)]) (q0 := 0) (ci := 3) hx hb hml hown hts (c_X3_fail l D cI cZ cL cO a (nI 0) n nw ns σ η G (nI 2) (AN A H) hA (hB)) (cwV 1 hts gX3_addStretch_X3_fail rfl rfl rfl (by decide +kernel) ⟨by decide, by decide⟩) hK hE hP rfl rfl rfl rfl hl.1 rfl (Nat.le_of_ble_eq_true rfl) hS (fun _ h => h) dX3_addStretch_50 ⟨Nat.le_of_ble_eq_true rfl, Nat.le_of_ble_eq_true rfl⟩ (fun G locs hP _ _ hS => ?_)
        have hk9 : kAdd n σ (nI jp0) (nI jp1) = 2 := by first | (simp [kAdd, Int32.not_lt, nI_0, c1, c2, c3]; done) | (unfold kAdd; rw [if_pos ⟨by assumption, by assumption, by assumption⟩, if_neg (by assumption)])
        refine li_topi (show nI 0 = vAdd n σ (nI jp0) (nI jp1) from by unfold vAdd; rw [hk9]; first | rfl | (rw [if_pos rfl, pk_sub (by omega)]; congr 1)) ?_
        have hw9 : (nI 2) = nI (kAdd n σ (nI jp0) (nI jp1)) := by rw [hk9]
        have hP : va_P D vwCl (wM cI cZ a (nI (kAdd n σ (nI jp0) (nI jp1))) n nw ns σ η) G := Eq.mp (congrArg (fun z9 => va_P D vwCl (wM cI cZ a z9 n nw ns σ η) G) hw9) hP
        clear hw9
        have hw9 : σ = sAddK n pl σ (nI jp0) (nI jp1) := by unfold sAddK; rw [hk9]; first | rfl | (rw [if_pos rfl])
        have hP : va_P D vwCl (wM cI cZ a (nI (kAdd n σ (nI jp0) (nI jp1))) n nw ns (sAddK n pl σ (nI jp0) (nI jp1)) η) G := Eq.mp (congrArg (fun z9 => va_P D vwCl (wM cI cZ a (nI (kAdd n σ (nI jp0) (nI jp1))) n nw ns z9 η) G) hw9) hP
        clear hw9
        have hw9 : n = nAdd n σ (nI jp0) (nI jp1) := by unfold nAdd; rw [hk9]; first | rfl | (rw [if_pos rfl])
        have hP : va_P D vwCl (wM cI cZ a (nI (kAdd n σ (nI jp0) (nI jp1))) (nAdd n σ (nI jp0) (nI jp1)) nw ns (sAddK n pl σ (nI jp0) (nI jp1)) η) G := Eq.mp (congrArg (fun z9 => va_P D vwCl (wM cI cZ a (nI (kAdd n σ (nI jp0) (nI jp1))) z9 nw ns (sAddK n pl σ (nI jp0) (nI jp1)) η) G) hw9) hP
        clear hw9
        exact hEnd 53 ls G locs _ _ (by decide) (by decide) dX3_addStretch_53 hP hS
      · skip
        refine lv_aload_n hx hb dX3_addStretch_39 rfl (lv_at hl 0 rfl) ?_
        refine li_gf3 hx hb hX3 hown hK hP 0 rfl 10 (by decide) f28 rfl dX3_addStretch_40 ?_
        refine lv_iconst (v := nI 0) hx hb dX3_addStretch_43 rfl ?_
        refine li_ild hx hb hK hP 7 0 rfl rfl (by omega) (by decide) dX3_addStretch_44 ?_
        refine lv_if_le (tgt := 54) hx hb dX3_addStretch_45 (by decide) (fun c4 => ?_) (fun c4 => ?_)
        · skip
          refine lv_iconst (v := nI 5) hx hb dX3_addStretch_54 rfl ?_
          refine va_newa (atype := .int) (ty := .int) hx hb g3 rfl hK hP hA.DM hS (fun q hq => Or.inr hq) (a0 := (5, .inl (fun _ => 0))) (fun _ => rfl) (nI_pos (by decide)) (nI_clamp (by decide)) (by decide) (Nat.le_of_ble_eq_true rfl) (Nat.le_of_ble_eq_true rfl) dX3_addStretch_55 (fun q1 cA1 G hKx hP hDx hS => ?_)
          have hne := okP.ne13 hDx
          have hq1 : AN A H q1 := hDx.2 13 _ rfl
          refine lv_dup hx hb dX3_addStretch_57 rfl ?_
          refine lv_iconst (v := nI 0) hx hb dX3_addStretch_58 rfl ?_
          refine lv_iload_n hx hb dX3_addStretch_59 rfl (lv_at hl 1 rfl) ?_
          refine li_ist hx hb hKx hP (okP.DX hA hq1 hne _) hS 13 4 rfl rfl (by omega) (by decide) rfl dX3_addStretch_60 (fun G locs hP hS => ?_)
          refine lv_dup hx hb dX3_addStretch_61 rfl ?_
          refine lv_iconst (v := nI 1) hx hb dX3_addStretch_62 rfl ?_
          refine lv_iload_n hx hb dX3_addStretch_63 rfl (lv_at hl 2 rfl) ?_
          refine li_ist hx hb hKx hP (okP.DX hA hq1 hne _) hS 13 4 rfl rfl (by omega) (by decide) rfl dX3_addStretch_64 (fun G locs hP hS => ?_)
          refine lv_dup hx hb dX3_addStretch_65 rfl ?_
          refine lv_iconst (v := nI 2) hx hb dX3_addStretch_66 rfl ?_
          refine lv_aload_n hx hb dX3_addStretch_67 rfl (lv_at hl 0 rfl) ?_
          refine roV (As := []) (q0 := 0) (ci := 3) hx hb hml hown hts (c_X3_places l D cI cZ cL cO a (nI 0) n nw ns σ η G (hB)) (cwV 0 hts gX3_addStretch_X3_places rfl rfl rfl (by decide +kernel) ⟨by decide, by decide⟩) hK hE (hP.sub (ws' := wM cI cZ a (nI 0) n nw ns σ η) i13 rfl) rfl rfl rfl rfl hl.1 rfl (Nat.le_of_ble_eq_true rfl) hS dX3_addStretch_68 ⟨Nat.le_of_ble_eq_true rfl, Nat.le_of_ble_eq_true rfl⟩ (fun locs hS => ?_)
          refine li_topi (show plv σ n = nI pl from RF_plv hRF) ?_
          refine li_ist hx hb hKx hP (okP.DX hA hq1 hne _) hS 13 4 rfl rfl (by omega) (by decide) rfl dX3_addStretch_71 (fun G locs hP hS => ?_)
          refine lv_dup hx hb dX3_addStretch_72 rfl ?_
          refine lv_iconst (v := nI 3) hx hb dX3_addStretch_73 rfl ?_
          refine lv_iconst (v := nI 0) hx hb dX3_addStretch_74 rfl ?_
          refine li_ist hx hb hKx hP (okP.DX hA hq1 hne _) hS 13 4 rfl rfl (by omega) (by decide) rfl dX3_addStretch_75 (fun G locs hP hS => ?_)
          refine lv_dup hx hb dX3_addStretch_76 rfl ?_
          refine lv_iconst (v := nI 4) hx hb dX3_addStretch_77 rfl ?_
          refine lv_iconst (v := nI 0) hx hb dX3_addStretch_78 rfl ?_
          refine li_ist hx hb hKx hP (okP.DX hA hq1 hne _) hS 13 4 rfl rfl (by omega) (by decide) rfl dX3_addStretch_79 (fun G locs hP hS => ?_)
          refine lv_astore_n (lv' := [(3, .ref q1), (0, .ref (a 0)), (1, .int (nI jp0)), (2, .int (nI jp1))]) hx hb dX3_addStretch_80 rfl hl (by decide) rfl (fun ls hl => ?_)
          refine lv_aload_n hx hb dX3_addStretch_81 rfl (lv_at hl 0 rfl) ?_
          refine lv_iconst (v := nI 0) hx hb dX3_addStretch_82 rfl ?_
          refine lv_aload_n hx hb dX3_addStretch_83 rfl (lv_at hl 1 rfl) ?_
          refine li_gf3 hx hb hX3 hown hK hP 0 rfl 2 (by decide) f9 rfl dX3_addStretch_84 ?_
          refine lv_iconst (v := nI 5) hx hb dX3_addStretch_87 rfl ?_
          refine lv_aload_n hx hb dX3_addStretch_88 rfl (lv_at hl 1 rfl) ?_
          refine li_gf3 hx hb hX3 hown hK hP 0 rfl 1 (by decide) f51 rfl dX3_addStretch_89 ?_
          refine lv_imul hx hb dX3_addStretch_92 ?_
          refine li_topi (pk_mul _ _) ?_
          refine lv_iconst (v := nI 5) hx hb dX3_addStretch_93 rfl ?_
          refine va_copyi hx hb (hml.trans hl.1.symm) hown g5 g6 g7 g8 hKx hP (okP.DX hA hq1 hne _) hS 13 1 4 0 rfl rfl rfl rfl rfl (by decide) (nI_pos (by omega)) (by decide) (by decide) (by rw [nI_clamp (show 5 * n < 2 ^ 31 by omega), nI_clamp (show 5 < 2 ^ 31 by omega)]; omega) (fun _ _ => rfl) (by decide) (Nat.le_of_ble_eq_true rfl) dX3_addStretch_94 (fun G locs hP _ hS => ?_)
          rw [nI_clamp (show 5 * n < 2 ^ 31 by omega), show (nI 0).toNatClampNeg = 0 from rfl, show (nI 5).toNatClampNeg = 5 from by decide] at hP
          replace hP := stM_cpR (σ' := sAdd n pl σ (nI jp0) (nI jp1)) hP (fun j _ => cpR_add (hOZ.2 n (Nat.le_refl n)).1 (hOZ.2 n (Nat.le_refl n)).2 j) (by unfold sAdd; rw [up2_row _ _ _ _ (by omega), up2_row _ _ _ _ (by omega), up2_row _ _ _ _ (by omega)]) (by unfold sAdd; rw [up2_row _ _ _ _ (by omega), up2_row _ _ _ _ (by omega), up2_row _ _ _ _ (by omega)]) (by unfold sAdd; rw [up2_row _ _ _ _ (by omega), up2_row _ _ _ _ (by omega), up2_row _ _ _ _ (by omega)]) (by unfold sAdd; rw [up2_row _ _ _ _ (by omega), up2_row _ _ _ _ (by omega), up2_row _ _ _ _ (by omega)]) (by unfold sAdd; rw [up2_row _ _ _ _ (by omega), up2_row _ _ _ _ (by omega), up2_row _ _ _ _ (by omega)]) (by unfold sAdd; rw [encP_row (fun k h => pid_ne (k := k) (r := 2) (by decide) h.symm), encP_row (fun k h => pid_ne (k := k) (r := 1) (by decide) h.symm), encP_row (fun k h => pid_ne (k := k) (r := 0) (by decide) h.symm)])
          have hP : va_P D vwCl (wM cI cZ a (nI 0) n nw ns (sAdd n pl σ (nI jp0) (nI jp1)) η) G := hP
          refine lv_aload_n hx hb dX3_addStretch_97 rfl (lv_at hl 1 rfl) ?_
          refine lv_dup hx hb dX3_addStretch_98 rfl ?_
          refine li_gf3 hx hb hX3 hown hK hP 0 rfl 1 (by decide) f51 rfl dX3_addStretch_99 ?_
          refine lv_iconst (v := nI 1) hx hb dX3_addStretch_102 rfl ?_
          refine lv_iadd hx hb dX3_addStretch_103 ?_
          refine li_topi (nI_add _ _) ?_
          refine li_pf3 hx hb hX3 hown hK hP hA.DM hS 0 rfl 1 (by decide) f51 rfl rfl rfl (Nat.le_of_ble_eq_true rfl) (w' := wM cI cZ a (nI 0) (n + 1) nw ns (sAdd n pl σ (nI jp0) (nI jp1)) η) rfl dX3_addStretch_104 (fun G locs hP hS => ?_)
          refine lv_aload_n hx hb dX3_addStretch_107 rfl (lv_at hl 1 rfl) ?_
          refine li_gf3 hx hb hX3 hown hK hP 0 rfl 1 (by decide) f51 rfl dX3_addStretch_108 ?_
          refine lv_iconst (v := nI 1) hx hb dX3_addStretch_111 rfl ?_
          refine lv_isub hx hb dX3_addStretch_112 ?_
          have hk9 : kAdd n σ (nI jp0) (nI jp1) = 0 := by first | (simp [kAdd, Int32.not_lt, nI_0, c1, c2, c3, c4]; done) | (unfold kAdd; rw [if_pos ⟨by assumption, by assumption, by assumption⟩, if_neg (by assumption)])
          refine li_topi (show (nI (n + 1)) - (nI 1) = vAdd n σ (nI jp0) (nI jp1) from by unfold vAdd; rw [hk9]; first | rfl | (rw [if_pos rfl, pk_sub (by omega)]; congr 1)) ?_
          have hw9 : nI 0 = nI (kAdd n σ (nI jp0) (nI jp1)) := by rw [hk9]
          have hP : va_P D vwCl (wM cI cZ a (nI (kAdd n σ (nI jp0) (nI jp1))) (n + 1) nw ns (sAdd n pl σ (nI jp0) (nI jp1)) η) G := Eq.mp (congrArg (fun z9 => va_P D vwCl (wM cI cZ a z9 (n + 1) nw ns (sAdd n pl σ (nI jp0) (nI jp1)) η) G) hw9) hP
          clear hw9
          have hw9 : sAdd n pl σ (nI jp0) (nI jp1) = sAddK n pl σ (nI jp0) (nI jp1) := by unfold sAddK; rw [hk9]; first | rfl | (rw [if_pos rfl])
          have hP : va_P D vwCl (wM cI cZ a (nI (kAdd n σ (nI jp0) (nI jp1))) (n + 1) nw ns (sAddK n pl σ (nI jp0) (nI jp1)) η) G := Eq.mp (congrArg (fun z9 => va_P D vwCl (wM cI cZ a (nI (kAdd n σ (nI jp0) (nI jp1))) (n + 1) nw ns z9 η) G) hw9) hP
          clear hw9
          have hw9 : n + 1 = nAdd n σ (nI jp0) (nI jp1) := by unfold nAdd; rw [hk9]; first | rfl | (rw [if_pos rfl])
          have hP : va_P D vwCl (wM cI cZ a (nI (kAdd n σ (nI jp0) (nI jp1))) (nAdd n σ (nI jp0) (nI jp1)) nw ns (sAddK n pl σ (nI jp0) (nI jp1)) η) G := Eq.mp (congrArg (fun z9 => va_P D vwCl (wM cI cZ a (nI (kAdd n σ (nI jp0) (nI jp1))) z9 nw ns (sAddK n pl σ (nI jp0) (nI jp1)) η) G) hw9) hP
          clear hw9
          exact hEnd 113 ls G locs _ _ (by decide) (by decide) dX3_addStretch_113 hP hS
        · skip
          refine lv_aload_n hx hb dX3_addStretch_48 rfl (lv_at hl 0 rfl) ?_
          refine lv_iconst (v := nI 2) hx hb dX3_addStretch_49 rfl ?_
          refine miV (As := [.int (nI 2)]) (q0 := 0) (ci := 3) hx hb hml hown hts (c_X3_fail l D cI cZ cL cO a (nI 0) n nw ns σ η G (nI 2) (AN A H) hA (hB)) (cwV 1 hts gX3_addStretch_X3_fail rfl rfl rfl (by decide +kernel) ⟨by decide, by decide⟩) hK hE hP rfl rfl rfl rfl hl.1 rfl (Nat.le_of_ble_eq_true rfl) hS (fun _ h => h) dX3_addStretch_50 ⟨Nat.le_of_ble_eq_true rfl, Nat.le_of_ble_eq_true rfl⟩ (fun G locs hP _ _ hS => ?_)
          have hk9 : kAdd n σ (nI jp0) (nI jp1) = 2 := by first | (simp [kAdd, Int32.not_lt, nI_0, c1, c2, c3, c4]; done) | (unfold kAdd; rw [if_pos ⟨by assumption, by assumption, by assumption⟩, if_neg (by assumption)])
          refine li_topi (show nI 0 = vAdd n σ (nI jp0) (nI jp1) from by unfold vAdd; rw [hk9]; first | rfl | (rw [if_pos rfl, pk_sub (by omega)]; congr 1)) ?_
          have hw9 : (nI 2) = nI (kAdd n σ (nI jp0) (nI jp1)) := by rw [hk9]
          have hP : va_P D vwCl (wM cI cZ a (nI (kAdd n σ (nI jp0) (nI jp1))) n nw ns σ η) G := Eq.mp (congrArg (fun z9 => va_P D vwCl (wM cI cZ a z9 n nw ns σ η) G) hw9) hP
          clear hw9
          have hw9 : σ = sAddK n pl σ (nI jp0) (nI jp1) := by unfold sAddK; rw [hk9]; first | rfl | (rw [if_pos rfl])
          have hP : va_P D vwCl (wM cI cZ a (nI (kAdd n σ (nI jp0) (nI jp1))) n nw ns (sAddK n pl σ (nI jp0) (nI jp1)) η) G := Eq.mp (congrArg (fun z9 => va_P D vwCl (wM cI cZ a (nI (kAdd n σ (nI jp0) (nI jp1))) n nw ns z9 η) G) hw9) hP
          clear hw9
          have hw9 : n = nAdd n σ (nI jp0) (nI jp1) := by unfold nAdd; rw [hk9]; first | rfl | (rw [if_pos rfl])
          have hP : va_P D vwCl (wM cI cZ a (nI (kAdd n σ (nI jp0) (nI jp1))) (nAdd n σ (nI jp0) (nI jp1)) nw ns (sAddK n pl σ (nI jp0) (nI jp1)) η) G := Eq.mp (congrArg (fun z9 => va_P D vwCl (wM cI cZ a (nI (kAdd n σ (nI jp0) (nI jp1))) z9 nw ns (sAddK n pl σ (nI jp0) (nI jp1)) η) G) hw9) hP
          clear hw9
          exact hEnd 53 ls G locs _ _ (by decide) (by decide) dX3_addStretch_53 hP hS
    · skip
      refine lv_aload_n hx hb dX3_addStretch_24 rfl (lv_at hl 0 rfl) ?_
      refine lv_iconst (v := nI 1) hx hb dX3_addStretch_25 rfl ?_
      refine miV (As := [.int (nI 1)]) (q0 := 0) (ci := 3) hx hb hml hown hts (c_X3_fail l D cI cZ cL cO a (nI 0) n nw ns σ η G (nI 1) (AN A H) hA (hB)) (cwV 1 hts gX3_addStretch_X3_fail rfl rfl rfl (by decide +kernel) ⟨by decide, by decide⟩) hK hE hP rfl rfl rfl rfl hl.1 rfl (Nat.le_of_ble_eq_true rfl) hS (fun _ h => h) dX3_addStretch_26 ⟨Nat.le_of_ble_eq_true rfl, Nat.le_of_ble_eq_true rfl⟩ (fun G locs hP _ _ hS => ?_)
      have hk9 : kAdd n σ (nI jp0) p1 = 1 := by first | (simp [kAdd, Int32.not_lt, nI_0, c1, c2]; done) | (unfold kAdd; rw [if_pos ⟨by assumption, by assumption, by assumption⟩, if_neg (by assumption)])
      refine li_topi (show nI 0 = vAdd n σ (nI jp0) p1 from by unfold vAdd; rw [hk9]; first | rfl | (rw [if_pos rfl, pk_sub (by omega)]; congr 1)) ?_
      have hw9 : (nI 1) = nI (kAdd n σ (nI jp0) p1) := by rw [hk9]
      have hP : va_P D vwCl (wM cI cZ a (nI (kAdd n σ (nI jp0) p1)) n nw ns σ η) G := Eq.mp (congrArg (fun z9 => va_P D vwCl (wM cI cZ a z9 n nw ns σ η) G) hw9) hP
      clear hw9
      have hw9 : σ = sAddK n pl σ (nI jp0) p1 := by unfold sAddK; rw [hk9]; first | rfl | (rw [if_pos rfl])
      have hP : va_P D vwCl (wM cI cZ a (nI (kAdd n σ (nI jp0) p1)) n nw ns (sAddK n pl σ (nI jp0) p1) η) G := Eq.mp (congrArg (fun z9 => va_P D vwCl (wM cI cZ a (nI (kAdd n σ (nI jp0) p1)) n nw ns z9 η) G) hw9) hP
      clear hw9
      have hw9 : n = nAdd n σ (nI jp0) p1 := by unfold nAdd; rw [hk9]; first | rfl | (rw [if_pos rfl])
      have hP : va_P D vwCl (wM cI cZ a (nI (kAdd n σ (nI jp0) p1)) (nAdd n σ (nI jp0) p1) nw ns (sAddK n pl σ (nI jp0) p1) η) G := Eq.mp (congrArg (fun z9 => va_P D vwCl (wM cI cZ a (nI (kAdd n σ (nI jp0) p1)) z9 nw ns (sAddK n pl σ (nI jp0) p1) η) G) hw9) hP
      clear hw9
      exact hEnd 29 ls G locs _ _ (by decide) (by decide) dX3_addStretch_29 hP hS
set_option maxHeartbeats 4000000 in
set_option maxRecDepth 100000 in
theorem c_X3_come (l : Launch) (D : va_G) (cI cZ cL cO : ClassId) (a : Nat → Nat) (th : Int32) (n nw ns : Nat) (σ η : Sg) (H : Heap) (p0 : Int32) (p1 : Int32) (p2 : Int32) (A : Nat → Prop) (hA : okP A a 13) (hB : n ≤ 10 ∧ nw ≤ 20 ∧ ns ≤ 6) (hOZ : OZ n nw σ) : Met l yX3_come wsX3_come ({ frames := 1, cells := 1, slots := 8, locals := 30 } : Room) (ro_P D (T4 cI cZ cL cO) (wM cI cZ a th n nw ns σ η) H [.ref (a 0), .int p0, .int p1, .int p2]) (mi_Q D (vCome nw p0 p1 p2) (wM cI cZ a (nI (kCome nw p0 p1 p2)) n (nCome nw p0 p1 p2) ns (sComeK nw σ p0 p1 p2) η) (AN A H)) 1 8 (AN A H) := by
  refine mz_of (cc := cX3_come) (maxL := 5) (by decide) rfl (Nat.le_of_ble_eq_true rfl) rfl ?_
  intro p e s m args below meth c Q ls locs hx hb hml hown hts hK hE hP hl hS hEnd
  replace hA := hA.AN (H := H)
  have hl : lv_has ls 5 [(0, .ref (a 0)), (1, .int p0), (2, .int p1), (3, .int p2)] := hl
  have hX3 : ∀ w ∈ wsX30, w.before args s = true := fun w h => hts w (List.mem_cons_of_mem _ (List.mem_append_right _ (h)))
  have f47 : (Cond.fieldLink RX3 47 "LanternWalkModel" "thrown" "I").before args s = true := hts _ (List.mem_of_getElem? (i := 1) rfl)
  have f58 : (Cond.fieldLink RX3 58 "LanternWalkModel" "walkers" "I").before args s = true := hts _ (List.mem_of_getElem? (i := 2) rfl)
  have g2 : (Cond.arrayClass .int).before args s = true := hts _ (List.mem_of_getElem? (i := 3) rfl)
  have f19 : (Cond.fieldLink RX3 19 "LanternWalkModel" "people" "[I").before args s = true := hts _ (List.mem_of_getElem? (i := 4) rfl)
  have g4 : (Cond.methodLink RX3 76 arraycopyName).before args s = true := hts _ (List.mem_of_getElem? (i := 5) rfl)
  have g5 : (Cond.native arraycopyName).before args s = true := hts _ (List.mem_of_getElem? (i := 6) rfl)
  have g6 : (Cond.static arraycopyName).before args s = true := hts _ (List.mem_of_getElem? (i := 7) rfl)
  have g7 : (Cond.initialized "java/lang/System").before args s = true := hts _ (List.mem_of_getElem? (i := 8) rfl)
  refine lv_aload_n hx hb dX3_come_0 rfl (lv_at hl 0 rfl) ?_
  refine lv_iconst (v := nI 0) hx hb dX3_come_1 rfl ?_
  refine li_pf3 hx hb hX3 hown hK hP hA.DM hS 0 rfl 0 (by decide) f47 rfl rfl rfl (Nat.le_of_ble_eq_true rfl) stM_th dX3_come_2 (fun G locs hP hS => ?_)
  refine lv_iload_n hx hb dX3_come_5 rfl (lv_at hl 1 rfl) ?_
  refine lv_iconst (v := nI 1) hx hb dX3_come_6 rfl ?_
  refine lv_iconst (v := nI 3) hx hb dX3_come_7 rfl ?_
  refine roS (As := [.int p0, .int (nI 1), .int (nI 3)]) hx hb hml hown hts (c_X3_isI l D cI cZ cL cO G p0 (nI 1) (nI 3)) (va_cwS 3 hts gX3_come_X3_isIn rfl rfl rfl (by decide +kernel) ⟨by decide, by decide⟩) hK hE (hP.sub (ws' := []) [] rfl) rfl hl.1 rfl (Nat.le_of_ble_eq_true rfl) hS dX3_come_8 ⟨Nat.le_of_ble_eq_true rfl, Nat.le_of_ble_eq_true rfl⟩ (fun locs hS => ?_)
  refine li_zeq (tgt := 35) hx hb dX3_come_11 (by decide) (fun c1 => ?_) (fun c1 => ?_)
  · skip
    refine lv_aload_n hx hb dX3_come_35 rfl (lv_at hl 0 rfl) ?_
    refine lv_iconst (v := nI 1) hx hb dX3_come_36 rfl ?_
    refine miV (As := [.int (nI 1)]) (q0 := 0) (ci := 3) hx hb hml hown hts (c_X3_fail l D cI cZ cL cO a (nI 0) n nw ns σ η G (nI 1) (AN A H) hA (hB)) (cwV 1 hts gX3_come_X3_fail rfl rfl rfl (by decide +kernel) ⟨by decide, by decide⟩) hK hE hP rfl rfl rfl rfl hl.1 rfl (Nat.le_of_ble_eq_true rfl) hS (fun _ h => h) dX3_come_37 ⟨Nat.le_of_ble_eq_true rfl, Nat.le_of_ble_eq_true rfl⟩ (fun G locs hP _ _ hS => ?_)
    have hk9 : kCome nw p0 p1 p2 = 1 := by first | (simp [kCome, Int32.not_lt, c1]; done) | (unfold kCome; rw [if_pos ⟨by assumption, by assumption, by assumption⟩, if_neg (by assumption)])
    refine li_topi (show nI 0 = vCome nw p0 p1 p2 from by unfold vCome; rw [hk9]; first | rfl | (rw [if_pos rfl, pk_sub (by omega)]; congr 1)) ?_
    have hw9 : (nI 1) = nI (kCome nw p0 p1 p2) := by rw [hk9]
    have hP : va_P D vwCl (wM cI cZ a (nI (kCome nw p0 p1 p2)) n nw ns σ η) G := Eq.mp (congrArg (fun z9 => va_P D vwCl (wM cI cZ a z9 n nw ns σ η) G) hw9) hP
    clear hw9
    have hw9 : σ = sComeK nw σ p0 p1 p2 := by unfold sComeK; rw [hk9]; first | rfl | (rw [if_pos rfl])
    have hP : va_P D vwCl (wM cI cZ a (nI (kCome nw p0 p1 p2)) n nw ns (sComeK nw σ p0 p1 p2) η) G := Eq.mp (congrArg (fun z9 => va_P D vwCl (wM cI cZ a (nI (kCome nw p0 p1 p2)) n nw ns z9 η) G) hw9) hP
    clear hw9
    have hw9 : nw = nCome nw p0 p1 p2 := by unfold nCome; rw [hk9]; first | rfl | (rw [if_pos rfl])
    have hP : va_P D vwCl (wM cI cZ a (nI (kCome nw p0 p1 p2)) n (nCome nw p0 p1 p2) ns (sComeK nw σ p0 p1 p2) η) G := Eq.mp (congrArg (fun z9 => va_P D vwCl (wM cI cZ a (nI (kCome nw p0 p1 p2)) n z9 ns (sComeK nw σ p0 p1 p2) η) G) hw9) hP
    clear hw9
    exact hEnd 40 ls G locs _ _ (by decide) (by decide) dX3_come_40 hP hS
  · skip
    obtain ⟨jp0, hljp0, hhjp0, rfl⟩ := isI_nat (lo := 1) (hi := 3) (by omega) (by omega) c1
    refine lv_iload_n hx hb dX3_come_14 rfl (lv_at hl 2 rfl) ?_
    refine lv_iconst (v := nI 0) hx hb dX3_come_15 rfl ?_
    refine lv_sipush (v := nI 200) hx hb dX3_come_16 rfl ?_
    refine roS (As := [.int p1, .int (nI 0), .int (nI 200)]) hx hb hml hown hts (c_X3_isI l D cI cZ cL cO G p1 (nI 0) (nI 200)) (va_cwS 3 hts gX3_come_X3_isIn rfl rfl rfl (by decide +kernel) ⟨by decide, by decide⟩) hK hE (hP.sub (ws' := []) [] rfl) rfl hl.1 rfl (Nat.le_of_ble_eq_true rfl) hS dX3_come_19 ⟨Nat.le_of_ble_eq_true rfl, Nat.le_of_ble_eq_true rfl⟩ (fun locs hS => ?_)
    refine li_zeq (tgt := 35) hx hb dX3_come_22 (by decide) (fun c2 => ?_) (fun c2 => ?_)
    · skip
      refine lv_aload_n hx hb dX3_come_35 rfl (lv_at hl 0 rfl) ?_
      refine lv_iconst (v := nI 1) hx hb dX3_come_36 rfl ?_
      refine miV (As := [.int (nI 1)]) (q0 := 0) (ci := 3) hx hb hml hown hts (c_X3_fail l D cI cZ cL cO a (nI 0) n nw ns σ η G (nI 1) (AN A H) hA (hB)) (cwV 1 hts gX3_come_X3_fail rfl rfl rfl (by decide +kernel) ⟨by decide, by decide⟩) hK hE hP rfl rfl rfl rfl hl.1 rfl (Nat.le_of_ble_eq_true rfl) hS (fun _ h => h) dX3_come_37 ⟨Nat.le_of_ble_eq_true rfl, Nat.le_of_ble_eq_true rfl⟩ (fun G locs hP _ _ hS => ?_)
      have hk9 : kCome nw (nI jp0) p1 p2 = 1 := by first | (simp [kCome, Int32.not_lt, c1, c2]; done) | (unfold kCome; rw [if_pos ⟨by assumption, by assumption, by assumption⟩, if_neg (by assumption)])
      refine li_topi (show nI 0 = vCome nw (nI jp0) p1 p2 from by unfold vCome; rw [hk9]; first | rfl | (rw [if_pos rfl, pk_sub (by omega)]; congr 1)) ?_
      have hw9 : (nI 1) = nI (kCome nw (nI jp0) p1 p2) := by rw [hk9]
      have hP : va_P D vwCl (wM cI cZ a (nI (kCome nw (nI jp0) p1 p2)) n nw ns σ η) G := Eq.mp (congrArg (fun z9 => va_P D vwCl (wM cI cZ a z9 n nw ns σ η) G) hw9) hP
      clear hw9
      have hw9 : σ = sComeK nw σ (nI jp0) p1 p2 := by unfold sComeK; rw [hk9]; first | rfl | (rw [if_pos rfl])
      have hP : va_P D vwCl (wM cI cZ a (nI (kCome nw (nI jp0) p1 p2)) n nw ns (sComeK nw σ (nI jp0) p1 p2) η) G := Eq.mp (congrArg (fun z9 => va_P D vwCl (wM cI cZ a (nI (kCome nw (nI jp0) p1 p2)) n nw ns z9 η) G) hw9) hP
      clear hw9
      have hw9 : nw = nCome nw (nI jp0) p1 p2 := by unfold nCome; rw [hk9]; first | rfl | (rw [if_pos rfl])
      have hP : va_P D vwCl (wM cI cZ a (nI (kCome nw (nI jp0) p1 p2)) n (nCome nw (nI jp0) p1 p2) ns (sComeK nw σ (nI jp0) p1 p2) η) G := Eq.mp (congrArg (fun z9 => va_P D vwCl (wM cI cZ a (nI (kCome nw (nI jp0) p1 p2)) n z9 ns (sComeK nw σ (nI jp0) p1 p2) η) G) hw9) hP
      clear hw9
      exact hEnd 40 ls G locs _ _ (by decide) (by decide) dX3_come_40 hP hS
    · skip
      obtain ⟨jp1, hljp1, hhjp1, rfl⟩ := isI_nat (lo := 0) (hi := 200) (by omega) (by omega) c2
      refine lv_iload_n hx hb dX3_come_25 rfl (lv_at hl 3 rfl) ?_
      refine lv_iconst (v := nI 0) hx hb dX3_come_26 rfl ?_
      refine lv_bipush (v := nI 9) hx hb dX3_come_27 rfl ?_
      refine roS (As := [.int p2, .int (nI 0), .int (nI 9)]) hx hb hml hown hts (c_X3_isI l D cI cZ cL cO G p2 (nI 0) (nI 9)) (va_cwS 3 hts gX3_come_X3_isIn rfl rfl rfl (by decide +kernel) ⟨by decide, by decide⟩) hK hE (hP.sub (ws' := []) [] rfl) rfl hl.1 rfl (Nat.le_of_ble_eq_true rfl) hS dX3_come_29 ⟨Nat.le_of_ble_eq_true rfl, Nat.le_of_ble_eq_true rfl⟩ (fun locs hS => ?_)
      refine li_zne (tgt := 41) hx hb dX3_come_32 (by decide) (fun c3 => ?_) (fun c3 => ?_)
      · skip
        obtain ⟨jp2, hljp2, hhjp2, rfl⟩ := isI_nat (lo := 0) (hi := 9) (by omega) (by omega) c3
        refine lv_aload_n hx hb dX3_come_41 rfl (lv_at hl 0 rfl) ?_
        refine li_gf3 hx hb hX3 hown hK hP 0 rfl 5 (by decide) f58 rfl dX3_come_42 ?_
        refine lv_bipush (v := nI 20) hx hb dX3_come_45 rfl ?_
        refine li_ne (tgt := 56) hx hb dX3_come_47 (by decide) (by omega) (by omega) (fun c4 => ?_) (fun c4 => ?_)
        · skip
          refine lv_bipush (v := nI 8) hx hb dX3_come_56 rfl ?_
          refine va_newa (atype := .int) (ty := .int) hx hb g2 rfl hK hP hA.DM hS (fun q hq => Or.inr hq) (a0 := (8, .inl (fun _ => 0))) (fun _ => rfl) (nI_pos (by decide)) (nI_clamp (by decide)) (by decide) (Nat.le_of_ble_eq_true rfl) (Nat.le_of_ble_eq_true rfl) dX3_come_58 (fun q1 cA1 G hKx hP hDx hS => ?_)
          have hne := okP.ne13 hDx
          have hq1 : AN A H q1 := hDx.2 13 _ rfl
          refine lv_dup hx hb dX3_come_60 rfl ?_
          refine lv_iconst (v := nI 0) hx hb dX3_come_61 rfl ?_
          refine lv_iload_n hx hb dX3_come_62 rfl (lv_at hl 1 rfl) ?_
          refine li_ist hx hb hKx hP (okP.DX hA hq1 hne _) hS 13 4 rfl rfl (by omega) (by decide) rfl dX3_come_63 (fun G locs hP hS => ?_)
          refine lv_dup hx hb dX3_come_64 rfl ?_
          refine lv_iconst (v := nI 1) hx hb dX3_come_65 rfl ?_
          refine lv_iload_n hx hb dX3_come_66 rfl (lv_at hl 2 rfl) ?_
          refine li_ist hx hb hKx hP (okP.DX hA hq1 hne _) hS 13 4 rfl rfl (by omega) (by decide) rfl dX3_come_67 (fun G locs hP hS => ?_)
          refine lv_dup hx hb dX3_come_68 rfl ?_
          refine lv_iconst (v := nI 2) hx hb dX3_come_69 rfl ?_
          refine lv_iload_n hx hb dX3_come_70 rfl (lv_at hl 3 rfl) ?_
          refine li_ist hx hb hKx hP (okP.DX hA hq1 hne _) hS 13 4 rfl rfl (by omega) (by decide) rfl dX3_come_71 (fun G locs hP hS => ?_)
          refine lv_dup hx hb dX3_come_72 rfl ?_
          refine lv_iconst (v := nI 3) hx hb dX3_come_73 rfl ?_
          refine lv_iload_n hx hb dX3_come_74 rfl (lv_at hl 2 rfl) ?_
          refine li_le0 (tgt := 82) hx hb dX3_come_75 (by decide) (by omega) (fun c5 => ?_) (fun c5 => ?_)
          · skip
            refine lv_iconst (v := nI 0) hx hb dX3_come_82 rfl ?_
            refine li_ist hx hb hKx hP (okP.DX hA hq1 hne _) hS 13 4 rfl rfl (by omega) (by decide) rfl dX3_come_83 (fun G locs hP hS => ?_)
            refine lv_dup hx hb dX3_come_84 rfl ?_
            refine lv_iconst (v := nI 4) hx hb dX3_come_85 rfl ?_
            refine lv_iconst (v := nI 0) hx hb dX3_come_86 rfl ?_
            refine li_ist hx hb hKx hP (okP.DX hA hq1 hne _) hS 13 4 rfl rfl (by omega) (by decide) rfl dX3_come_87 (fun G locs hP hS => ?_)
            refine lv_dup hx hb dX3_come_88 rfl ?_
            refine lv_iconst (v := nI 5) hx hb dX3_come_89 rfl ?_
            refine lv_iconst (v := (-1)) hx hb dX3_come_90 rfl ?_
            refine li_ist hx hb hKx hP (okP.DX hA hq1 hne _) hS 13 4 rfl rfl (by omega) (by decide) rfl dX3_come_91 (fun G locs hP hS => ?_)
            refine lv_dup hx hb dX3_come_92 rfl ?_
            refine lv_bipush (v := nI 6) hx hb dX3_come_93 rfl ?_
            refine lv_iconst (v := nI 0) hx hb dX3_come_95 rfl ?_
            refine li_ist hx hb hKx hP (okP.DX hA hq1 hne _) hS 13 4 rfl rfl (by omega) (by decide) rfl dX3_come_96 (fun G locs hP hS => ?_)
            refine lv_dup hx hb dX3_come_97 rfl ?_
            refine lv_bipush (v := nI 7) hx hb dX3_come_98 rfl ?_
            refine lv_iconst (v := (-1)) hx hb dX3_come_100 rfl ?_
            refine li_ist hx hb hKx hP (okP.DX hA hq1 hne _) hS 13 4 rfl rfl (by omega) (by decide) rfl dX3_come_101 (fun G locs hP hS => ?_)
            refine lv_astore (lv' := [(4, .ref q1), (0, .ref (a 0)), (1, .int (nI jp0)), (2, .int (nI jp1)), (3, .int (nI jp2))]) hx hb dX3_come_102 hl (by decide) rfl (fun ls hl => ?_)
            refine lv_aload hx hb dX3_come_104 (lv_at hl 0 rfl) ?_
            refine lv_iconst (v := nI 0) hx hb dX3_come_106 rfl ?_
            refine lv_aload_n hx hb dX3_come_107 rfl (lv_at hl 1 rfl) ?_
            refine li_gf3 hx hb hX3 hown hK hP 0 rfl 6 (by decide) f19 rfl dX3_come_108 ?_
            refine lv_bipush (v := nI 8) hx hb dX3_come_111 rfl ?_
            refine lv_aload_n hx hb dX3_come_113 rfl (lv_at hl 1 rfl) ?_
            refine li_gf3 hx hb hX3 hown hK hP 0 rfl 5 (by decide) f58 rfl dX3_come_114 ?_
            refine lv_imul hx hb dX3_come_117 ?_
            refine li_topi (pk_mul _ _) ?_
            refine lv_bipush (v := nI 8) hx hb dX3_come_118 rfl ?_
            refine va_copyi hx hb (hml.trans hl.1.symm) hown g4 g5 g6 g7 hKx hP (okP.DX hA hq1 hne _) hS 13 4 4 0 rfl rfl rfl rfl rfl (by decide) (nI_pos (by omega)) (by decide) (by decide) (by rw [nI_clamp (show 8 * nw < 2 ^ 31 by omega), nI_clamp (show 8 < 2 ^ 31 by omega)]; omega) (fun _ _ => rfl) (by decide) (Nat.le_of_ble_eq_true rfl) dX3_come_120 (fun G locs hP _ hS => ?_)
            rw [nI_clamp (show 8 * nw < 2 ^ 31 by omega), show (nI 0).toNatClampNeg = 0 from rfl, show (nI 8).toNatClampNeg = 8 from by decide] at hP
            replace hP := stM_cpP (σ' := sCome nw σ (nI jp0) (nI jp1) (nI jp2)) (P := encP (nw + 1) (sCome nw σ (nI jp0) (nI jp1) (nI jp2))) hP (fun j _ => cpP_come (by first | (rw [if_pos (by rw [nI_ltI (by omega) (by omega)]; omega)]; done) | (rw [if_neg (by rw [nI_ltI (by omega) (by omega)]; omega)]; done)) (hOZ.1 nw (Nat.le_refl nw)).1 (hOZ.1 nw (Nat.le_refl nw)).2.1 (hOZ.1 nw (Nat.le_refl nw)).2.2.1 (hOZ.1 nw (Nat.le_refl nw)).2.2.2 j) (by unfold sCome; rw [up2_row _ _ _ _ (by omega), up2_row _ _ _ _ (by omega), up2_row _ _ _ _ (by omega), up2_row _ _ _ _ (by omega)]) (by unfold sCome; rw [up2_row _ _ _ _ (by omega), up2_row _ _ _ _ (by omega), up2_row _ _ _ _ (by omega), up2_row _ _ _ _ (by omega)]) (by unfold sCome; rw [up2_row _ _ _ _ (by omega), up2_row _ _ _ _ (by omega), up2_row _ _ _ _ (by omega), up2_row _ _ _ _ (by omega)]) (by unfold sCome; rw [up2_row _ _ _ _ (by omega), up2_row _ _ _ _ (by omega), up2_row _ _ _ _ (by omega), up2_row _ _ _ _ (by omega)]) (by unfold sCome; rw [up2_row _ _ _ _ (by omega), up2_row _ _ _ _ (by omega), up2_row _ _ _ _ (by omega), up2_row _ _ _ _ (by omega)]) (by unfold sCome; rw [encR_row (fun k h => rid_ne (k := k) (r := 11) (by decide) h.symm), encR_row (fun k h => rid_ne (k := k) (r := 10) (by decide) h.symm), encR_row (fun k h => rid_ne (k := k) (r := 5) (by decide) h.symm), encR_row (fun k h => rid_ne (k := k) (r := 4) (by decide) h.symm)])
            have hP : va_P D vwCl (wMg cI cZ a (nI 0) n nw ns (encP (nw + 1) (sCome nw σ (nI jp0) (nI jp1) (nI jp2))) (sCome nw σ (nI jp0) (nI jp1) (nI jp2)) η) G := hP
            refine lv_aload_n hx hb dX3_come_123 rfl (lv_at hl 1 rfl) ?_
            refine lv_dup hx hb dX3_come_124 rfl ?_
            refine li_gf3 hx hb hX3 hown hK hP 0 rfl 5 (by decide) f58 rfl dX3_come_125 ?_
            refine lv_iconst (v := nI 1) hx hb dX3_come_128 rfl ?_
            refine lv_iadd hx hb dX3_come_129 ?_
            refine li_topi (nI_add _ _) ?_
            refine li_pf3 hx hb hX3 hown hK hP (hA.DM.set rfl) hS 0 rfl 5 (by decide) f58 rfl rfl rfl (Nat.le_of_ble_eq_true rfl) (w' := wMg cI cZ a (nI 0) n (nw + 1) ns (encP (nw + 1) (sCome nw σ (nI jp0) (nI jp1) (nI jp2))) (sCome nw σ (nI jp0) (nI jp1) (nI jp2)) η) rfl dX3_come_130 (fun G locs hP hS => ?_)
            have hP : va_P D vwCl (wM cI cZ a (nI 0) n (nw + 1) ns (sCome nw σ (nI jp0) (nI jp1) (nI jp2)) η) G := hP
            refine lv_aload_n hx hb dX3_come_133 rfl (lv_at hl 1 rfl) ?_
            refine li_gf3 hx hb hX3 hown hK hP 0 rfl 5 (by decide) f58 rfl dX3_come_134 ?_
            refine lv_iconst (v := nI 1) hx hb dX3_come_137 rfl ?_
            refine lv_isub hx hb dX3_come_138 ?_
            have hk9 : kCome nw (nI jp0) (nI jp1) (nI jp2) = 0 := by first | (simp [kCome, Int32.not_lt, c1, c2, c3, c4, c5]; done) | (unfold kCome; rw [if_pos ⟨by assumption, by assumption, by assumption⟩, if_neg (by assumption)])
            refine li_topi (show (nI (nw + 1)) - (nI 1) = vCome nw (nI jp0) (nI jp1) (nI jp2) from by unfold vCome; rw [hk9]; first | rfl | (rw [if_pos rfl, pk_sub (by omega)]; congr 1)) ?_
            have hw9 : nI 0 = nI (kCome nw (nI jp0) (nI jp1) (nI jp2)) := by rw [hk9]
            have hP : va_P D vwCl (wM cI cZ a (nI (kCome nw (nI jp0) (nI jp1) (nI jp2))) n (nw + 1) ns (sCome nw σ (nI jp0) (nI jp1) (nI jp2)) η) G := Eq.mp (congrArg (fun z9 => va_P D vwCl (wM cI cZ a z9 n (nw + 1) ns (sCome nw σ (nI jp0) (nI jp1) (nI jp2)) η) G) hw9) hP
            clear hw9
            have hw9 : sCome nw σ (nI jp0) (nI jp1) (nI jp2) = sComeK nw σ (nI jp0) (nI jp1) (nI jp2) := by unfold sComeK; rw [hk9]; first | rfl | (rw [if_pos rfl])
            have hP : va_P D vwCl (wM cI cZ a (nI (kCome nw (nI jp0) (nI jp1) (nI jp2))) n (nw + 1) ns (sComeK nw σ (nI jp0) (nI jp1) (nI jp2)) η) G := Eq.mp (congrArg (fun z9 => va_P D vwCl (wM cI cZ a (nI (kCome nw (nI jp0) (nI jp1) (nI jp2))) n (nw + 1) ns z9 η) G) hw9) hP
            clear hw9
            have hw9 : nw + 1 = nCome nw (nI jp0) (nI jp1) (nI jp2) := by unfold nCome; rw [hk9]; first | rfl | (rw [if_pos rfl])
            have hP : va_P D vwCl (wM cI cZ a (nI (kCome nw (nI jp0) (nI jp1) (nI jp2))) n (nCome nw (nI jp0) (nI jp1) (nI jp2)) ns (sComeK nw σ (nI jp0) (nI jp1) (nI jp2)) η) G := Eq.mp (congrArg (fun z9 => va_P D vwCl (wM cI cZ a (nI (kCome nw (nI jp0) (nI jp1) (nI jp2))) n z9 ns (sComeK nw σ (nI jp0) (nI jp1) (nI jp2)) η) G) hw9) hP
            clear hw9
            exact hEnd 139 ls G locs _ _ (by decide) (by decide) dX3_come_139 hP hS
          · skip
            refine lv_iconst (v := nI 1) hx hb dX3_come_78 rfl ?_
            refine lv_goto (tgt := 83) hx hb dX3_come_79 (by decide) ?_
            refine li_ist hx hb hKx hP (okP.DX hA hq1 hne _) hS 13 4 rfl rfl (by omega) (by decide) rfl dX3_come_83 (fun G locs hP hS => ?_)
            refine lv_dup hx hb dX3_come_84 rfl ?_
            refine lv_iconst (v := nI 4) hx hb dX3_come_85 rfl ?_
            refine lv_iconst (v := nI 0) hx hb dX3_come_86 rfl ?_
            refine li_ist hx hb hKx hP (okP.DX hA hq1 hne _) hS 13 4 rfl rfl (by omega) (by decide) rfl dX3_come_87 (fun G locs hP hS => ?_)
            refine lv_dup hx hb dX3_come_88 rfl ?_
            refine lv_iconst (v := nI 5) hx hb dX3_come_89 rfl ?_
            refine lv_iconst (v := (-1)) hx hb dX3_come_90 rfl ?_
            refine li_ist hx hb hKx hP (okP.DX hA hq1 hne _) hS 13 4 rfl rfl (by omega) (by decide) rfl dX3_come_91 (fun G locs hP hS => ?_)
            refine lv_dup hx hb dX3_come_92 rfl ?_
            refine lv_bipush (v := nI 6) hx hb dX3_come_93 rfl ?_
            refine lv_iconst (v := nI 0) hx hb dX3_come_95 rfl ?_
            refine li_ist hx hb hKx hP (okP.DX hA hq1 hne _) hS 13 4 rfl rfl (by omega) (by decide) rfl dX3_come_96 (fun G locs hP hS => ?_)
            refine lv_dup hx hb dX3_come_97 rfl ?_
            refine lv_bipush (v := nI 7) hx hb dX3_come_98 rfl ?_
            refine lv_iconst (v := (-1)) hx hb dX3_come_100 rfl ?_
            refine li_ist hx hb hKx hP (okP.DX hA hq1 hne _) hS 13 4 rfl rfl (by omega) (by decide) rfl dX3_come_101 (fun G locs hP hS => ?_)
            refine lv_astore (lv' := [(4, .ref q1), (0, .ref (a 0)), (1, .int (nI jp0)), (2, .int (nI jp1)), (3, .int (nI jp2))]) hx hb dX3_come_102 hl (by decide) rfl (fun ls hl => ?_)
            refine lv_aload hx hb dX3_come_104 (lv_at hl 0 rfl) ?_
            refine lv_iconst (v := nI 0) hx hb dX3_come_106 rfl ?_
            refine lv_aload_n hx hb dX3_come_107 rfl (lv_at hl 1 rfl) ?_
            refine li_gf3 hx hb hX3 hown hK hP 0 rfl 6 (by decide) f19 rfl dX3_come_108 ?_
            refine lv_bipush (v := nI 8) hx hb dX3_come_111 rfl ?_
            refine lv_aload_n hx hb dX3_come_113 rfl (lv_at hl 1 rfl) ?_
            refine li_gf3 hx hb hX3 hown hK hP 0 rfl 5 (by decide) f58 rfl dX3_come_114 ?_
            refine lv_imul hx hb dX3_come_117 ?_
            refine li_topi (pk_mul _ _) ?_
            refine lv_bipush (v := nI 8) hx hb dX3_come_118 rfl ?_
            refine va_copyi hx hb (hml.trans hl.1.symm) hown g4 g5 g6 g7 hKx hP (okP.DX hA hq1 hne _) hS 13 4 4 0 rfl rfl rfl rfl rfl (by decide) (nI_pos (by omega)) (by decide) (by decide) (by rw [nI_clamp (show 8 * nw < 2 ^ 31 by omega), nI_clamp (show 8 < 2 ^ 31 by omega)]; omega) (fun _ _ => rfl) (by decide) (Nat.le_of_ble_eq_true rfl) dX3_come_120 (fun G locs hP _ hS => ?_)
            rw [nI_clamp (show 8 * nw < 2 ^ 31 by omega), show (nI 0).toNatClampNeg = 0 from rfl, show (nI 8).toNatClampNeg = 8 from by decide] at hP
            replace hP := stM_cpP (σ' := sCome nw σ (nI jp0) (nI jp1) (nI jp2)) (P := encP (nw + 1) (sCome nw σ (nI jp0) (nI jp1) (nI jp2))) hP (fun j _ => cpP_come (by first | (rw [if_pos (by rw [nI_ltI (by omega) (by omega)]; omega)]; done) | (rw [if_neg (by rw [nI_ltI (by omega) (by omega)]; omega)]; done)) (hOZ.1 nw (Nat.le_refl nw)).1 (hOZ.1 nw (Nat.le_refl nw)).2.1 (hOZ.1 nw (Nat.le_refl nw)).2.2.1 (hOZ.1 nw (Nat.le_refl nw)).2.2.2 j) (by unfold sCome; rw [up2_row _ _ _ _ (by omega), up2_row _ _ _ _ (by omega), up2_row _ _ _ _ (by omega), up2_row _ _ _ _ (by omega)]) (by unfold sCome; rw [up2_row _ _ _ _ (by omega), up2_row _ _ _ _ (by omega), up2_row _ _ _ _ (by omega), up2_row _ _ _ _ (by omega)]) (by unfold sCome; rw [up2_row _ _ _ _ (by omega), up2_row _ _ _ _ (by omega), up2_row _ _ _ _ (by omega), up2_row _ _ _ _ (by omega)]) (by unfold sCome; rw [up2_row _ _ _ _ (by omega), up2_row _ _ _ _ (by omega), up2_row _ _ _ _ (by omega), up2_row _ _ _ _ (by omega)]) (by unfold sCome; rw [up2_row _ _ _ _ (by omega), up2_row _ _ _ _ (by omega), up2_row _ _ _ _ (by omega), up2_row _ _ _ _ (by omega)]) (by unfold sCome; rw [encR_row (fun k h => rid_ne (k := k) (r := 11) (by decide) h.symm), encR_row (fun k h => rid_ne (k := k) (r := 10) (by decide) h.symm), encR_row (fun k h => rid_ne (k := k) (r := 5) (by decide) h.symm), encR_row (fun k h => rid_ne (k := k) (r := 4) (by decide) h.symm)])
            have hP : va_P D vwCl (wMg cI cZ a (nI 0) n nw ns (encP (nw + 1) (sCome nw σ (nI jp0) (nI jp1) (nI jp2))) (sCome nw σ (nI jp0) (nI jp1) (nI jp2)) η) G := hP
            refine lv_aload_n hx hb dX3_come_123 rfl (lv_at hl 1 rfl) ?_
            refine lv_dup hx hb dX3_come_124 rfl ?_
            refine li_gf3 hx hb hX3 hown hK hP 0 rfl 5 (by decide) f58 rfl dX3_come_125 ?_
            refine lv_iconst (v := nI 1) hx hb dX3_come_128 rfl ?_
            refine lv_iadd hx hb dX3_come_129 ?_
            refine li_topi (nI_add _ _) ?_
            refine li_pf3 hx hb hX3 hown hK hP (hA.DM.set rfl) hS 0 rfl 5 (by decide) f58 rfl rfl rfl (Nat.le_of_ble_eq_true rfl) (w' := wMg cI cZ a (nI 0) n (nw + 1) ns (encP (nw + 1) (sCome nw σ (nI jp0) (nI jp1) (nI jp2))) (sCome nw σ (nI jp0) (nI jp1) (nI jp2)) η) rfl dX3_come_130 (fun G locs hP hS => ?_)
            have hP : va_P D vwCl (wM cI cZ a (nI 0) n (nw + 1) ns (sCome nw σ (nI jp0) (nI jp1) (nI jp2)) η) G := hP
            refine lv_aload_n hx hb dX3_come_133 rfl (lv_at hl 1 rfl) ?_
            refine li_gf3 hx hb hX3 hown hK hP 0 rfl 5 (by decide) f58 rfl dX3_come_134 ?_
            refine lv_iconst (v := nI 1) hx hb dX3_come_137 rfl ?_
            refine lv_isub hx hb dX3_come_138 ?_
            have hk9 : kCome nw (nI jp0) (nI jp1) (nI jp2) = 0 := by first | (simp [kCome, Int32.not_lt, c1, c2, c3, c4, c5]; done) | (unfold kCome; rw [if_pos ⟨by assumption, by assumption, by assumption⟩, if_neg (by assumption)])
            refine li_topi (show (nI (nw + 1)) - (nI 1) = vCome nw (nI jp0) (nI jp1) (nI jp2) from by unfold vCome; rw [hk9]; first | rfl | (rw [if_pos rfl, pk_sub (by omega)]; congr 1)) ?_
            have hw9 : nI 0 = nI (kCome nw (nI jp0) (nI jp1) (nI jp2)) := by rw [hk9]
            have hP : va_P D vwCl (wM cI cZ a (nI (kCome nw (nI jp0) (nI jp1) (nI jp2))) n (nw + 1) ns (sCome nw σ (nI jp0) (nI jp1) (nI jp2)) η) G := Eq.mp (congrArg (fun z9 => va_P D vwCl (wM cI cZ a z9 n (nw + 1) ns (sCome nw σ (nI jp0) (nI jp1) (nI jp2)) η) G) hw9) hP
            clear hw9
            have hw9 : sCome nw σ (nI jp0) (nI jp1) (nI jp2) = sComeK nw σ (nI jp0) (nI jp1) (nI jp2) := by unfold sComeK; rw [hk9]; first | rfl | (rw [if_pos rfl])
            have hP : va_P D vwCl (wM cI cZ a (nI (kCome nw (nI jp0) (nI jp1) (nI jp2))) n (nw + 1) ns (sComeK nw σ (nI jp0) (nI jp1) (nI jp2)) η) G := Eq.mp (congrArg (fun z9 => va_P D vwCl (wM cI cZ a (nI (kCome nw (nI jp0) (nI jp1) (nI jp2))) n (nw + 1) ns z9 η) G) hw9) hP
            clear hw9
            have hw9 : nw + 1 = nCome nw (nI jp0) (nI jp1) (nI jp2) := by unfold nCome; rw [hk9]; first | rfl | (rw [if_pos rfl])
            have hP : va_P D vwCl (wM cI cZ a (nI (kCome nw (nI jp0) (nI jp1) (nI jp2))) n (nCome nw (nI jp0) (nI jp1) (nI jp2)) ns (sComeK nw σ (nI jp0) (nI jp1) (nI jp2)) η) G := Eq.mp (congrArg (fun z9 => va_P D vwCl (wM cI cZ a (nI (kCome nw (nI jp0) (nI jp1) (nI jp2))) n z9 ns (sComeK nw σ (nI jp0) (nI jp1) (nI jp2)) η) G) hw9) hP
            clear hw9
            exact hEnd 139 ls G locs _ _ (by decide) (by decide) dX3_come_139 hP hS
        · skip
          refine lv_aload_n hx hb dX3_come_50 rfl (lv_at hl 0 rfl) ?_
          refine lv_iconst (v := nI 2) hx hb dX3_come_51 rfl ?_
          refine miV (As := [.int (nI 2)]) (q0 := 0) (ci := 3) hx hb hml hown hts (c_X3_fail l D cI cZ cL cO a (nI 0) n nw ns σ η G (nI 2) (AN A H) hA (hB)) (cwV 1 hts gX3_come_X3_fail rfl rfl rfl (by decide +kernel) ⟨by decide, by decide⟩) hK hE hP rfl rfl rfl rfl hl.1 rfl (Nat.le_of_ble_eq_true rfl) hS (fun _ h => h) dX3_come_52 ⟨Nat.le_of_ble_eq_true rfl, Nat.le_of_ble_eq_true rfl⟩ (fun G locs hP _ _ hS => ?_)
          have hk9 : kCome nw (nI jp0) (nI jp1) (nI jp2) = 2 := by first | (simp [kCome, Int32.not_lt, c1, c2, c3, c4]; done) | (unfold kCome; rw [if_pos ⟨by assumption, by assumption, by assumption⟩, if_neg (by assumption)])
          refine li_topi (show nI 0 = vCome nw (nI jp0) (nI jp1) (nI jp2) from by unfold vCome; rw [hk9]; first | rfl | (rw [if_pos rfl, pk_sub (by omega)]; congr 1)) ?_
          have hw9 : (nI 2) = nI (kCome nw (nI jp0) (nI jp1) (nI jp2)) := by rw [hk9]
          have hP : va_P D vwCl (wM cI cZ a (nI (kCome nw (nI jp0) (nI jp1) (nI jp2))) n nw ns σ η) G := Eq.mp (congrArg (fun z9 => va_P D vwCl (wM cI cZ a z9 n nw ns σ η) G) hw9) hP
          clear hw9
          have hw9 : σ = sComeK nw σ (nI jp0) (nI jp1) (nI jp2) := by unfold sComeK; rw [hk9]; first | rfl | (rw [if_pos rfl])
          have hP : va_P D vwCl (wM cI cZ a (nI (kCome nw (nI jp0) (nI jp1) (nI jp2))) n nw ns (sComeK nw σ (nI jp0) (nI jp1) (nI jp2)) η) G := Eq.mp (congrArg (fun z9 => va_P D vwCl (wM cI cZ a (nI (kCome nw (nI jp0) (nI jp1) (nI jp2))) n nw ns z9 η) G) hw9) hP
          clear hw9
          have hw9 : nw = nCome nw (nI jp0) (nI jp1) (nI jp2) := by unfold nCome; rw [hk9]; first | rfl | (rw [if_pos rfl])
          have hP : va_P D vwCl (wM cI cZ a (nI (kCome nw (nI jp0) (nI jp1) (nI jp2))) n (nCome nw (nI jp0) (nI jp1) (nI jp2)) ns (sComeK nw σ (nI jp0) (nI jp1) (nI jp2)) η) G := Eq.mp (congrArg (fun z9 => va_P D vwCl (wM cI cZ a (nI (kCome nw (nI jp0) (nI jp1) (nI jp2))) n z9 ns (sComeK nw σ (nI jp0) (nI jp1) (nI jp2)) η) G) hw9) hP
          clear hw9
          exact hEnd 55 ls G locs _ _ (by decide) (by decide) dX3_come_55 hP hS
      · skip
        refine lv_aload_n hx hb dX3_come_35 rfl (lv_at hl 0 rfl) ?_
        refine lv_iconst (v := nI 1) hx hb dX3_come_36 rfl ?_
        refine miV (As := [.int (nI 1)]) (q0 := 0) (ci := 3) hx hb hml hown hts (c_X3_fail l D cI cZ cL cO a (nI 0) n nw ns σ η G (nI 1) (AN A H) hA (hB)) (cwV 1 hts gX3_come_X3_fail rfl rfl rfl (by decide +kernel) ⟨by decide, by decide⟩) hK hE hP rfl rfl rfl rfl hl.1 rfl (Nat.le_of_ble_eq_true rfl) hS (fun _ h => h) dX3_come_37 ⟨Nat.le_of_ble_eq_true rfl, Nat.le_of_ble_eq_true rfl⟩ (fun G locs hP _ _ hS => ?_)
        have hk9 : kCome nw (nI jp0) (nI jp1) p2 = 1 := by first | (simp [kCome, Int32.not_lt, c1, c2, c3]; done) | (unfold kCome; rw [if_pos ⟨by assumption, by assumption, by assumption⟩, if_neg (by assumption)])
        refine li_topi (show nI 0 = vCome nw (nI jp0) (nI jp1) p2 from by unfold vCome; rw [hk9]; first | rfl | (rw [if_pos rfl, pk_sub (by omega)]; congr 1)) ?_
        have hw9 : (nI 1) = nI (kCome nw (nI jp0) (nI jp1) p2) := by rw [hk9]
        have hP : va_P D vwCl (wM cI cZ a (nI (kCome nw (nI jp0) (nI jp1) p2)) n nw ns σ η) G := Eq.mp (congrArg (fun z9 => va_P D vwCl (wM cI cZ a z9 n nw ns σ η) G) hw9) hP
        clear hw9
        have hw9 : σ = sComeK nw σ (nI jp0) (nI jp1) p2 := by unfold sComeK; rw [hk9]; first | rfl | (rw [if_pos rfl])
        have hP : va_P D vwCl (wM cI cZ a (nI (kCome nw (nI jp0) (nI jp1) p2)) n nw ns (sComeK nw σ (nI jp0) (nI jp1) p2) η) G := Eq.mp (congrArg (fun z9 => va_P D vwCl (wM cI cZ a (nI (kCome nw (nI jp0) (nI jp1) p2)) n nw ns z9 η) G) hw9) hP
        clear hw9
        have hw9 : nw = nCome nw (nI jp0) (nI jp1) p2 := by unfold nCome; rw [hk9]; first | rfl | (rw [if_pos rfl])
        have hP : va_P D vwCl (wM cI cZ a (nI (kCome nw (nI jp0) (nI jp1) p2)) n (nCome nw (nI jp0) (nI jp1) p2) ns (sComeK nw σ (nI jp0) (nI jp1) p2) η) G := Eq.mp (congrArg (fun z9 => va_P D vwCl (wM cI cZ a (nI (kCome nw (nI jp0) (nI jp1) p2)) n z9 ns (sComeK nw σ (nI jp0) (nI jp1) p2) η) G) hw9) hP
        clear hw9
        exact hEnd 40 ls G locs _ _ (by decide) (by decide) dX3_come_40 hP hS
