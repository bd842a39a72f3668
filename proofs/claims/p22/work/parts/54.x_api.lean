/-! the class: its calls -/
set_option maxHeartbeats 4000000 in
set_option maxRecDepth 100000 in
theorem c_X2_addStretch (l : Launch) (D : va_G) (cI cZ cL cO : ClassId) (a : Nat → Nat) (n pl nw ns : Nat) (σ κ σ' κ' : Sg) (H : Heap) (p0 : Int32) (p1 : Int32) (A : Nat → Prop) (hA : okP A a 41) (hB : n ≤ 10 ∧ pl ≤ 200 ∧ nw ≤ 20 ∧ ns ≤ 6) (hK0 : (kAdd n σ p0 p1) = 0) : Met l yX2_addStretch wsX2_addStretch ({ frames := 6, cells := 0, slots := 0, locals := 82 } : Room) (ro_P D (T4 cI cZ cL cO) (wX cI cZ a n pl nw ns σ κ σ' κ') H [.ref (a 40), .int p0, .int p1]) (ay_Q D (vAdd n σ p0 p1) (fun u : S3 => wX cI cZ a (nAdd n σ p0 p1) (plAdd n pl σ p0 p1) nw ns (sAddK n pl σ p0 p1) u.1 u.2.1 u.2.2) A) 0 0 A := by
  refine ay_of (K := (kAdd n σ p0 p1)) (nm := (nmK [eA, eS])) (cc := cX2_addStretch) (maxL := 3) hK0 (by decide) rfl rfl (Nat.le_of_ble_eq_true rfl) ?_
  intro p e s m args below meth c Q ls locs hx hb hml hown hts hK hE hP hl hS hEnd hThr
  have hl : lv_has ls 3 [(0, .ref (a 40)), (1, .int p0), (2, .int p1)] := hl
  have hX0 : ∀ w ∈ wsX00, w.before args s = true := fun w h => hts w (List.mem_cons_of_mem _ (List.mem_append_left _ (List.mem_append_left _ (List.mem_append_right _ (h)))))
  have hX1 : ∀ w ∈ wsX10, w.before args s = true := fun w h => hts w (List.mem_cons_of_mem _ (List.mem_append_left _ (List.mem_append_left _ (List.mem_append_left _ (List.mem_append_right _ (h))))))
  have hX2 : ∀ w ∈ wsX20, w.before args s = true := fun w h => hts w (List.mem_cons_of_mem _ (List.mem_append_left _ (List.mem_append_left _ (List.mem_append_left _ (List.mem_append_left _ (List.mem_append_right _ (h)))))))
  have g0 : (Cond.classLink RX2 28 "java/lang/IllegalArgumentException").before args s = true := hts _ (List.mem_of_getElem? (i := 1) rfl)
  have g1 : (Cond.initialized "java/lang/IllegalArgumentException").before args s = true := hts _ (List.mem_of_getElem? (i := 2) rfl)
  have f10 : (Cond.fieldLink RX2 10 "LanternWalk" "setting" "LLanternWalk$Setting;").before args s = true := hts _ (List.mem_of_getElem? (i := 5) rfl)
  have f35 : (Cond.fieldLink RX2 35 "LanternWalk$Setting" "stretches" "I").before args s = true := hts _ (List.mem_of_getElem? (i := 6) rfl)
  have g4 : (Cond.classLink RX2 42 "java/lang/IllegalStateException").before args s = true := hts _ (List.mem_of_getElem? (i := 3) rfl)
  have g5 : (Cond.initialized "java/lang/IllegalStateException").before args s = true := hts _ (List.mem_of_getElem? (i := 4) rfl)
  have f21 : (Cond.fieldLink RX2 21 "LanternWalk" "now" "LLanternWalk$Parade;").before args s = true := hts _ (List.mem_of_getElem? (i := 7) rfl)
  have f39 : (Cond.fieldLink RX2 39 "LanternWalk$Parade" "step" "I").before args s = true := hts _ (List.mem_of_getElem? (i := 8) rfl)
  refine lv_iload_n hx hb dX2_addStretch_0 rfl (lv_at hl 1 rfl) ?_
  refine lv_iconst (v := nI 1) hx hb dX2_addStretch_1 rfl ?_
  refine lv_icmp_lt (tgt := 21) hx hb dX2_addStretch_2 (by decide) (fun c1 => ?_) (fun c1 => ?_)
  · skip
    have hk9 : kAdd n σ p0 p1 = 1 := by have zn := nI_toInt (n := n) (by omega); have zw := nI_toInt (n := nw) (by omega); have zs := nI_toInt (n := ns) (by omega); (try simp only [kAdd, isI, has, noneOr, Bool.and_eq_true, Bool.or_eq_true, decide_eq_true_eq, decide_eq_false_iff_not, Bool.not_eq_true, Bool.and_eq_false_iff, Int32.lt_iff_toInt_lt, Int32.le_iff_toInt_le, eq_tI, tI_0, tI_m1, zn, zw, zs, (show (nI 0).toInt = 0 from by decide), (show (nI 1).toInt = 1 from by decide), (show (nI 4).toInt = 4 from by decide), (show (nI 10).toInt = 10 from by decide), (show (nI 20).toInt = 20 from by decide)] at c1 ⊢); first | omega | (split <;> first | omega | (split <;> first | omega | (split <;> omega)))
    exact hThr 21 ls H locs eA "length is not 1 to 20, or lets is not 1 to 4" 28 30 32 (by rw [hk9]; decide) (by rw [hk9]; rfl) xt_A g0 g1 (fun w h => hts w (List.mem_cons_of_mem _ (List.mem_append_left _ (List.mem_append_right _ (h))))) (by decide) hl.1 dX2_addStretch_21 dX2_addStretch_24 dX2_addStretch_25 dX2_addStretch_27 dX2_addStretch_30 hP hS
  · skip
    refine lv_iload_n hx hb dX2_addStretch_5 rfl (lv_at hl 1 rfl) ?_
    refine lv_bipush (v := nI 20) hx hb dX2_addStretch_6 rfl ?_
    refine lv_icmp_gt (tgt := 21) hx hb dX2_addStretch_8 (by decide) (fun c2 => ?_) (fun c2 => ?_)
    · skip
      have hk9 : kAdd n σ p0 p1 = 1 := by have zn := nI_toInt (n := n) (by omega); have zw := nI_toInt (n := nw) (by omega); have zs := nI_toInt (n := ns) (by omega); (try simp only [kAdd, isI, has, noneOr, Bool.and_eq_true, Bool.or_eq_true, decide_eq_true_eq, decide_eq_false_iff_not, Bool.not_eq_true, Bool.and_eq_false_iff, Int32.lt_iff_toInt_lt, Int32.le_iff_toInt_le, eq_tI, tI_0, tI_m1, zn, zw, zs, (show (nI 0).toInt = 0 from by decide), (show (nI 1).toInt = 1 from by decide), (show (nI 4).toInt = 4 from by decide), (show (nI 10).toInt = 10 from by decide), (show (nI 20).toInt = 20 from by decide)] at c1 c2 ⊢); first | omega | (split <;> first | omega | (split <;> first | omega | (split <;> omega)))
      exact hThr 21 ls H locs eA "length is not 1 to 20, or lets is not 1 to 4" 28 30 32 (by rw [hk9]; decide) (by rw [hk9]; rfl) xt_A g0 g1 (fun w h => hts w (List.mem_cons_of_mem _ (List.mem_append_left _ (List.mem_append_right _ (h))))) (by decide) hl.1 dX2_addStretch_21 dX2_addStretch_24 dX2_addStretch_25 dX2_addStretch_27 dX2_addStretch_30 hP hS
    · skip
      obtain ⟨jp0, hljp0, hhjp0, rfl⟩ := nat_in (x := p0) (lo := 1) (hi := 20) (by simp only [Int32.lt_iff_toInt_lt, Int32.le_iff_toInt_le, tI_0, (show (nI 0).toInt = 0 from by decide), (show (nI 1).toInt = 1 from by decide), (show (nI 4).toInt = 4 from by decide), (show (nI 10).toInt = 10 from by decide), (show (nI 20).toInt = 20 from by decide)] at c1 c2; omega) (by decide)
      refine lv_iload_n hx hb dX2_addStretch_11 rfl (lv_at hl 2 rfl) ?_
      refine lv_iconst (v := nI 1) hx hb dX2_addStretch_12 rfl ?_
      refine lv_icmp_lt (tgt := 21) hx hb dX2_addStretch_13 (by decide) (fun c3 => ?_) (fun c3 => ?_)
      · skip
        have hk9 : kAdd n σ (nI jp0) p1 = 1 := by have zn := nI_toInt (n := n) (by omega); have zw := nI_toInt (n := nw) (by omega); have zs := nI_toInt (n := ns) (by omega); have zjp0 := nI_toInt (n := jp0) (by omega); (try simp only [kAdd, isI, has, noneOr, Bool.and_eq_true, Bool.or_eq_true, decide_eq_true_eq, decide_eq_false_iff_not, Bool.not_eq_true, Bool.and_eq_false_iff, Int32.lt_iff_toInt_lt, Int32.le_iff_toInt_le, eq_tI, tI_0, tI_m1, zn, zw, zs, zjp0, (show (nI 0).toInt = 0 from by decide), (show (nI 1).toInt = 1 from by decide), (show (nI 4).toInt = 4 from by decide), (show (nI 10).toInt = 10 from by decide), (show (nI 20).toInt = 20 from by decide), nN_nI (show jp0 < 2 ^ 31 by omega)] at c1 c2 c3 ⊢); first | omega | (split <;> first | omega | (split <;> first | omega | (split <;> omega)))
        exact hThr 21 ls H locs eA "length is not 1 to 20, or lets is not 1 to 4" 28 30 32 (by rw [hk9]; decide) (by rw [hk9]; rfl) xt_A g0 g1 (fun w h => hts w (List.mem_cons_of_mem _ (List.mem_append_left _ (List.mem_append_right _ (h))))) (by decide) hl.1 dX2_addStretch_21 dX2_addStretch_24 dX2_addStretch_25 dX2_addStretch_27 dX2_addStretch_30 hP hS
      · skip
        refine lv_iload_n hx hb dX2_addStretch_16 rfl (lv_at hl 2 rfl) ?_
        refine lv_iconst (v := nI 4) hx hb dX2_addStretch_17 rfl ?_
        refine lv_icmp_le (tgt := 31) hx hb dX2_addStretch_18 (by decide) (fun c4 => ?_) (fun c4 => ?_)
        · skip
          refine lv_aload_n hx hb dX2_addStretch_31 rfl (lv_at hl 0 rfl) ?_
          refine li_gf2 hx hb hX2 hown hK hP 40 rfl 0 (by decide) f10 rfl dX2_addStretch_32 ?_
          refine li_gf1 hx hb hX1 hown hK hP 16 rfl 0 (by decide) f35 rfl dX2_addStretch_35 ?_
          refine lv_bipush (v := nI 10) hx hb dX2_addStretch_38 rfl ?_
          refine li_ge (tgt := 53) hx hb dX2_addStretch_40 (by decide) (by omega) (by omega) (fun c5 => ?_) (fun c5 => ?_)
          · skip
            have hk9 : kAdd n σ (nI jp0) p1 = 2 := by have zn := nI_toInt (n := n) (by omega); have zw := nI_toInt (n := nw) (by omega); have zs := nI_toInt (n := ns) (by omega); have zjp0 := nI_toInt (n := jp0) (by omega); (try simp only [kAdd, isI, has, noneOr, Bool.and_eq_true, Bool.or_eq_true, decide_eq_true_eq, decide_eq_false_iff_not, Bool.not_eq_true, Bool.and_eq_false_iff, Int32.lt_iff_toInt_lt, Int32.le_iff_toInt_le, eq_tI, tI_0, tI_m1, zn, zw, zs, zjp0, (show (nI 0).toInt = 0 from by decide), (show (nI 1).toInt = 1 from by decide), (show (nI 4).toInt = 4 from by decide), (show (nI 10).toInt = 10 from by decide), (show (nI 20).toInt = 20 from by decide), nN_nI (show jp0 < 2 ^ 31 by omega)] at c1 c2 c3 c4 c5 ⊢); first | omega | (split <;> first | omega | (split <;> first | omega | (split <;> omega)))
            exact hThr 53 ls H locs eS "there are 10 stretches, or a step has gone by" 42 44 46 (by rw [hk9]; decide) (by rw [hk9]; rfl) xt_S g4 g5 (fun w h => hts w (List.mem_cons_of_mem _ (List.mem_append_right _ (h)))) (by decide) hl.1 dX2_addStretch_53 dX2_addStretch_56 dX2_addStretch_57 dX2_addStretch_59 dX2_addStretch_62 hP hS
          · skip
            refine lv_aload_n hx hb dX2_addStretch_43 rfl (lv_at hl 0 rfl) ?_
            refine li_gf2 hx hb hX2 hown hK hP 40 rfl 1 (by decide) f21 rfl dX2_addStretch_44 ?_
            refine li_gf0 hx hb hX0 hown hK hP 0 rfl 1 (by decide) f39 rfl dX2_addStretch_47 ?_
            refine lv_if_le (tgt := 63) hx hb dX2_addStretch_50 (by decide) (fun c6 => ?_) (fun c6 => ?_)
            · skip
              refine lv_aload_n hx hb dX2_addStretch_63 rfl (lv_at hl 0 rfl) ?_
              refine li_gf2 hx hb hX2 hown hK hP 40 rfl 0 (by decide) f10 rfl dX2_addStretch_64 ?_
              refine lv_iload_n hx hb dX2_addStretch_67 rfl (lv_at hl 1 rfl) ?_
              refine lv_iload_n hx hb dX2_addStretch_68 rfl (lv_at hl 2 rfl) ?_
              refine miV (As := [.int (nI jp0), .int p1]) (q0 := 16) (ci := 1) hx hb hml hown hts (c_X1_appendStretch l D cI cZ cL cO a n pl nw ns σ κ H jp0 p1 (A_ a 24) (hA.A_ (by decide)) (hB) (by omega)) (cwV 2 hts gX2_addStretch_X1_appendStretch rfl rfl rfl (by decide +kernel) ⟨by decide, by decide⟩) hK hE (hP.sub (ws' := wP cI cZ a n pl nw ns σ κ) i24 rfl) rfl rfl rfl rfl hl.1 rfl (Nat.le_of_ble_eq_true rfl) hS (ak_of (hA.M (by decide))) dX2_addStretch_69 ⟨Nat.zero_le _, Nat.zero_le _⟩ (fun G locs hP1 _ hk1 hS => ?_)
              replace hP := jnX hA hP hP1 hk1
              replace hP : va_P D vwCl (wX cI cZ a (n + 1) (pl + jp0) nw ns (up2 (up2 (up2 σ 0 n (nI jp0)) 1 n p1) 2 n (nI pl)) κ σ' κ') G := hP
              have hk9 : kAdd n σ (nI jp0) p1 = 0 := by have zn := nI_toInt (n := n) (by omega); have zw := nI_toInt (n := nw) (by omega); have zs := nI_toInt (n := ns) (by omega); have zjp0 := nI_toInt (n := jp0) (by omega); (try simp only [kAdd, isI, has, noneOr, Bool.and_eq_true, Bool.or_eq_true, decide_eq_true_eq, decide_eq_false_iff_not, Bool.not_eq_true, Bool.and_eq_false_iff, Int32.lt_iff_toInt_lt, Int32.le_iff_toInt_le, eq_tI, tI_0, tI_m1, zn, zw, zs, zjp0, (show (nI 0).toInt = 0 from by decide), (show (nI 1).toInt = 1 from by decide), (show (nI 4).toInt = 4 from by decide), (show (nI 10).toInt = 10 from by decide), (show (nI 20).toInt = 20 from by decide), nN_nI (show jp0 < 2 ^ 31 by omega)] at c1 c2 c3 c4 c5 c6 ⊢); first | omega | (split <;> first | omega | (split <;> first | omega | (split <;> omega)))
              refine li_topi (show nI n = vAdd n σ (nI jp0) p1 from by unfold vAdd; rw [hk9]; first | rfl | (rw [if_pos rfl]; repeat rw [nN_nI (by omega)])) ?_
              have hw9 : up2 (up2 (up2 σ 0 n (nI jp0)) 1 n p1) 2 n (nI pl) = sAddK n pl σ (nI jp0) p1 := by unfold sAddK; rw [hk9]; first | rfl | (rw [if_pos rfl]; repeat rw [nN_nI (by omega)])
              have hP : va_P D vwCl (wX cI cZ a (n + 1) (pl + jp0) nw ns (sAddK n pl σ (nI jp0) p1) κ σ' κ') G := Eq.mp (congrArg (fun z9 => va_P D vwCl (wX cI cZ a (n + 1) (pl + jp0) nw ns z9 κ σ' κ') G) hw9) hP
              clear hw9
              have hw9 : n + 1 = nAdd n σ (nI jp0) p1 := by unfold nAdd; rw [hk9]; first | rfl | (rw [if_pos rfl]; repeat rw [nN_nI (by omega)])
              have hP : va_P D vwCl (wX cI cZ a (nAdd n σ (nI jp0) p1) (pl + jp0) nw ns (sAddK n pl σ (nI jp0) p1) κ σ' κ') G := Eq.mp (congrArg (fun z9 => va_P D vwCl (wX cI cZ a z9 (pl + jp0) nw ns (sAddK n pl σ (nI jp0) p1) κ σ' κ') G) hw9) hP
              clear hw9
              have hw9 : pl + jp0 = plAdd n pl σ (nI jp0) p1 := by unfold plAdd; rw [hk9]; first | rfl | (rw [if_pos rfl]; repeat rw [nN_nI (by omega)])
              have hP : va_P D vwCl (wX cI cZ a (nAdd n σ (nI jp0) p1) (plAdd n pl σ (nI jp0) p1) nw ns (sAddK n pl σ (nI jp0) p1) κ σ' κ') G := Eq.mp (congrArg (fun z9 => va_P D vwCl (wX cI cZ a (nAdd n σ (nI jp0) p1) z9 nw ns (sAddK n pl σ (nI jp0) p1) κ σ' κ') G) hw9) hP
              clear hw9
              exact hEnd 72 ls G locs (κ, σ', κ') hk9 dX2_addStretch_72 hP hS
            · skip
              have hk9 : kAdd n σ (nI jp0) p1 = 2 := by have zn := nI_toInt (n := n) (by omega); have zw := nI_toInt (n := nw) (by omega); have zs := nI_toInt (n := ns) (by omega); have zjp0 := nI_toInt (n := jp0) (by omega); (try simp only [kAdd, isI, has, noneOr, Bool.and_eq_true, Bool.or_eq_true, decide_eq_true_eq, decide_eq_false_iff_not, Bool.not_eq_true, Bool.and_eq_false_iff, Int32.lt_iff_toInt_lt, Int32.le_iff_toInt_le, eq_tI, tI_0, tI_m1, zn, zw, zs, zjp0, (show (nI 0).toInt = 0 from by decide), (show (nI 1).toInt = 1 from by decide), (show (nI 4).toInt = 4 from by decide), (show (nI 10).toInt = 10 from by decide), (show (nI 20).toInt = 20 from by decide), nN_nI (show jp0 < 2 ^ 31 by omega)] at c1 c2 c3 c4 c5 c6 ⊢); first | omega | (split <;> first | omega | (split <;> first | omega | (split <;> omega)))
              exact hThr 53 ls H locs eS "there are 10 stretches, or a step has gone by" 42 44 46 (by rw [hk9]; decide) (by rw [hk9]; rfl) xt_S g4 g5 (fun w h => hts w (List.mem_cons_of_mem _ (List.mem_append_right _ (h)))) (by decide) hl.1 dX2_addStretch_53 dX2_addStretch_56 dX2_addStretch_57 dX2_addStretch_59 dX2_addStretch_62 hP hS
        · skip
          have hk9 : kAdd n σ (nI jp0) p1 = 1 := by have zn := nI_toInt (n := n) (by omega); have zw := nI_toInt (n := nw) (by omega); have zs := nI_toInt (n := ns) (by omega); have zjp0 := nI_toInt (n := jp0) (by omega); (try simp only [kAdd, isI, has, noneOr, Bool.and_eq_true, Bool.or_eq_true, decide_eq_true_eq, decide_eq_false_iff_not, Bool.not_eq_true, Bool.and_eq_false_iff, Int32.lt_iff_toInt_lt, Int32.le_iff_toInt_le, eq_tI, tI_0, tI_m1, zn, zw, zs, zjp0, (show (nI 0).toInt = 0 from by decide), (show (nI 1).toInt = 1 from by decide), (show (nI 4).toInt = 4 from by decide), (show (nI 10).toInt = 10 from by decide), (show (nI 20).toInt = 20 from by decide), nN_nI (show jp0 < 2 ^ 31 by omega)] at c1 c2 c3 c4 ⊢); first | omega | (split <;> first | omega | (split <;> first | omega | (split <;> omega)))
          exact hThr 21 ls H locs eA "length is not 1 to 20, or lets is not 1 to 4" 28 30 32 (by rw [hk9]; decide) (by rw [hk9]; rfl) xt_A g0 g1 (fun w h => hts w (List.mem_cons_of_mem _ (List.mem_append_left _ (List.mem_append_right _ (h))))) (by decide) hl.1 dX2_addStretch_21 dX2_addStretch_24 dX2_addStretch_25 dX2_addStretch_27 dX2_addStretch_30 hP hS
set_option maxHeartbeats 4000000 in
set_option maxRecDepth 100000 in
theorem c_X2_post (l : Launch) (D : va_G) (cI cZ cL cO : ClassId) (a : Nat → Nat) (n pl nw ns : Nat) (σ κ σ' κ' : Sg) (H : Heap) (p0 : Int32) (p1 : Int32) (A : Nat → Prop) (hA : okP A a 41) (hB : n ≤ 10 ∧ pl ≤ 200 ∧ nw ≤ 20 ∧ ns ≤ 6) (hK0 : (kPost n p0 p1) = 0) : Met l yX2_post wsX2_post ({ frames := 6, cells := 0, slots := 0, locals := 82 } : Room) (ro_P D (T4 cI cZ cL cO) (wX cI cZ a n pl nw ns σ κ σ' κ') H [.ref (a 40), .int p0, .int p1]) (ay_Q D (vPost n σ p0 p1) (fun u : S3 => wX cI cZ a n pl nw ns (sPost n σ p0 p1) u.1 u.2.1 u.2.2) A) 0 0 A := by
  refine ay_of (K := (kPost n p0 p1)) (nm := (nmK [eI])) (cc := cX2_post) (maxL := 4) hK0 (by decide) rfl rfl (Nat.le_of_ble_eq_true rfl) ?_
  intro p e s m args below meth c Q ls locs hx hb hml hown hts hK hE hP hl hS hEnd hThr
  have hl : lv_has ls 4 [(0, .ref (a 40)), (1, .int p0), (2, .int p1)] := hl
  have hX0 : ∀ w ∈ wsX00, w.before args s = true := fun w h => hts w (List.mem_cons_of_mem _ (List.mem_append_left _ (List.mem_append_left _ (List.mem_append_right _ (h)))))
  have hX2 : ∀ w ∈ wsX20, w.before args s = true := fun w h => hts w (List.mem_cons_of_mem _ (List.mem_append_left _ (List.mem_append_left _ (List.mem_append_left _ (List.mem_append_right _ (h))))))
  have g0 : (Cond.classLink RX2 55 "java/lang/IndexOutOfBoundsException").before args s = true := hts _ (List.mem_of_getElem? (i := 1) rfl)
  have g1 : (Cond.initialized "java/lang/IndexOutOfBoundsException").before args s = true := hts _ (List.mem_of_getElem? (i := 2) rfl)
  have f21 : (Cond.fieldLink RX2 21 "LanternWalk" "now" "LLanternWalk$Parade;").before args s = true := hts _ (List.mem_of_getElem? (i := 4) rfl)
  have f60 : (Cond.fieldLink RX2 60 "LanternWalk$Parade" "corner" "[I").before args s = true := hts _ (List.mem_of_getElem? (i := 5) rfl)
  have f10 : (Cond.fieldLink RX2 10 "LanternWalk" "setting" "LLanternWalk$Setting;").before args s = true := hts _ (List.mem_of_getElem? (i := 3) rfl)
  refine lv_iload_n hx hb dX2_post_0 rfl (lv_at hl 1 rfl) ?_
  refine lv_if_lt (tgt := 25) hx hb dX2_post_1 (by decide) (fun c1 => ?_) (fun c1 => ?_)
  · skip
    have hk9 : kPost n p0 p1 = 1 := by have zn := nI_toInt (n := n) (by omega); have zw := nI_toInt (n := nw) (by omega); have zs := nI_toInt (n := ns) (by omega); (try simp only [kPost, isI, has, noneOr, Bool.and_eq_true, Bool.or_eq_true, decide_eq_true_eq, decide_eq_false_iff_not, Bool.not_eq_true, Bool.and_eq_false_iff, Int32.lt_iff_toInt_lt, Int32.le_iff_toInt_le, eq_tI, tI_0, tI_m1, zn, zw, zs, (show (nI 0).toInt = 0 from by decide), (show (nI 1).toInt = 1 from by decide), (show (nI 2).toInt = 2 from by decide)] at c1 ⊢); first | omega | (split <;> first | omega | (split <;> first | omega | (split <;> omega)))
    exact hThr 25 ls H locs eI "no such steward or stretch" 55 57 59 (by rw [hk9]; decide) (by rw [hk9]; rfl) xt_I g0 g1 (fun w h => hts w (List.mem_cons_of_mem _ (List.mem_append_right _ (h)))) (by decide) hl.1 dX2_post_25 dX2_post_28 dX2_post_29 dX2_post_31 dX2_post_34 hP hS
  · skip
    refine lv_iload_n hx hb dX2_post_4 rfl (lv_at hl 1 rfl) ?_
    refine lv_iconst (v := nI 2) hx hb dX2_post_5 rfl ?_
    refine lv_icmp_ge (tgt := 25) hx hb dX2_post_6 (by decide) (fun c2 => ?_) (fun c2 => ?_)
    · skip
      have hk9 : kPost n p0 p1 = 1 := by have zn := nI_toInt (n := n) (by omega); have zw := nI_toInt (n := nw) (by omega); have zs := nI_toInt (n := ns) (by omega); (try simp only [kPost, isI, has, noneOr, Bool.and_eq_true, Bool.or_eq_true, decide_eq_true_eq, decide_eq_false_iff_not, Bool.not_eq_true, Bool.and_eq_false_iff, Int32.lt_iff_toInt_lt, Int32.le_iff_toInt_le, eq_tI, tI_0, tI_m1, zn, zw, zs, (show (nI 0).toInt = 0 from by decide), (show (nI 1).toInt = 1 from by decide), (show (nI 2).toInt = 2 from by decide)] at c1 c2 ⊢); first | omega | (split <;> first | omega | (split <;> first | omega | (split <;> omega)))
      exact hThr 25 ls H locs eI "no such steward or stretch" 55 57 59 (by rw [hk9]; decide) (by rw [hk9]; rfl) xt_I g0 g1 (fun w h => hts w (List.mem_cons_of_mem _ (List.mem_append_right _ (h)))) (by decide) hl.1 dX2_post_25 dX2_post_28 dX2_post_29 dX2_post_31 dX2_post_34 hP hS
    · skip
      obtain ⟨jp0, hljp0, hhjp0, rfl⟩ := nat_in (x := p0) (lo := 0) (hi := 1) (by simp only [Int32.lt_iff_toInt_lt, Int32.le_iff_toInt_le, tI_0, (show (nI 0).toInt = 0 from by decide), (show (nI 1).toInt = 1 from by decide), (show (nI 2).toInt = 2 from by decide)] at c1 c2; omega) (by decide)
      refine lv_iload_n hx hb dX2_post_9 rfl (lv_at hl 2 rfl) ?_
      refine lv_iconst (v := (-1)) hx hb dX2_post_10 rfl ?_
      refine lv_icmp_eq (tgt := 35) hx hb dX2_post_11 (by decide) (fun c3 => ?_) (fun c3 => ?_)
      · skip
        refine lv_aload_n hx hb dX2_post_35 rfl (lv_at hl 0 rfl) ?_
        refine li_gf2 hx hb hX2 hown hK hP 40 rfl 1 (by decide) f21 rfl dX2_post_36 ?_
        refine li_gf0 hx hb hX0 hown hK hP 0 rfl 2 (by decide) f60 rfl dX2_post_39 ?_
        refine lv_iload_n hx hb dX2_post_42 rfl (lv_at hl 1 rfl) ?_
        refine li_ild hx hb hK hP 1 0 rfl rfl (by omega) (by decide) dX2_post_43 ?_
        refine lv_istore_n (lv' := [(3, .int (σ 7 jp0)), (0, .ref (a 40)), (1, .int (nI jp0)), (2, .int p1)]) hx hb dX2_post_44 rfl hl (by decide) rfl (fun ls hl => ?_)
        refine lv_aload_n hx hb dX2_post_45 rfl (lv_at hl 1 rfl) ?_
        refine li_gf2 hx hb hX2 hown hK hP 40 rfl 1 (by decide) f21 rfl dX2_post_46 ?_
        refine li_gf0 hx hb hX0 hown hK hP 0 rfl 2 (by decide) f60 rfl dX2_post_49 ?_
        refine lv_iload_n hx hb dX2_post_52 rfl (lv_at hl 2 rfl) ?_
        refine lv_iload_n hx hb dX2_post_53 rfl (lv_at hl 3 rfl) ?_
        refine li_ist hx hb hK hP hA.DX41 hS 1 0 rfl rfl (by omega) (by decide) stX_7 dX2_post_54 (fun G locs hP hS => ?_)
        refine lv_iload_n hx hb dX2_post_55 rfl (lv_at hl 0 rfl) ?_
        have hk9 : kPost n (nI jp0) p1 = 0 := by have zn := nI_toInt (n := n) (by omega); have zw := nI_toInt (n := nw) (by omega); have zs := nI_toInt (n := ns) (by omega); have zjp0 := nI_toInt (n := jp0) (by omega); (try simp only [kPost, isI, has, noneOr, Bool.and_eq_true, Bool.or_eq_true, decide_eq_true_eq, decide_eq_false_iff_not, Bool.not_eq_true, Bool.and_eq_false_iff, Int32.lt_iff_toInt_lt, Int32.le_iff_toInt_le, eq_tI, tI_0, tI_m1, zn, zw, zs, zjp0, (show (nI 0).toInt = 0 from by decide), (show (nI 1).toInt = 1 from by decide), (show (nI 2).toInt = 2 from by decide), nN_nI (show jp0 < 2 ^ 31 by omega)] at c1 c2 c3 ⊢); first | omega | (split <;> first | omega | (split <;> first | omega | (split <;> omega)))
        refine li_topi (show σ 7 jp0 = vPost n σ (nI jp0) p1 from by unfold vPost; rw [hk9]; first | rfl | (rw [if_pos rfl]; repeat rw [nN_nI (by omega)])) ?_
        have hw9 : up2 σ 7 jp0 p1 = sPost n σ (nI jp0) p1 := by unfold sPost; rw [hk9]; first | rfl | (rw [if_pos rfl]; repeat rw [nN_nI (by omega)])
        have hP : va_P D vwCl (wX cI cZ a n pl nw ns (sPost n σ (nI jp0) p1) κ σ' κ') G := Eq.mp (congrArg (fun z9 => va_P D vwCl (wX cI cZ a n pl nw ns z9 κ σ' κ') G) hw9) hP
        clear hw9
        exact hEnd 56 ls G locs (κ, σ', κ') hk9 dX2_post_56 hP hS
      · skip
        refine lv_aload_n hx hb dX2_post_14 rfl (lv_at hl 0 rfl) ?_
        refine li_gf2 hx hb hX2 hown hK hP 40 rfl 0 (by decide) f10 rfl dX2_post_15 ?_
        refine lv_iload_n hx hb dX2_post_18 rfl (lv_at hl 2 rfl) ?_
        refine roV (As := [.int p1]) (q0 := 16) (ci := 1) hx hb hml hown hts (c_X1_hasStretch l D cI cZ cL cO a n pl nw ns σ κ H p1 (hB)) (cwV 1 hts gX2_post_X1_hasStretch rfl rfl rfl (by decide +kernel) ⟨by decide, by decide⟩) hK hE (hP.sub (ws' := wP cI cZ a n pl nw ns σ κ) i24 rfl) rfl rfl rfl rfl hl.1 rfl (Nat.le_of_ble_eq_true rfl) hS dX2_post_19 ⟨Nat.zero_le _, Nat.zero_le _⟩ (fun locs hS => ?_)
        refine li_zne (tgt := 35) hx hb dX2_post_22 (by decide) (fun c4 => ?_) (fun c4 => ?_)
        · skip
          obtain ⟨jp1, hhjp1, rfl⟩ := has_nat (by omega) c4
          refine lv_aload_n hx hb dX2_post_35 rfl (lv_at hl 0 rfl) ?_
          refine li_gf2 hx hb hX2 hown hK hP 40 rfl 1 (by decide) f21 rfl dX2_post_36 ?_
          refine li_gf0 hx hb hX0 hown hK hP 0 rfl 2 (by decide) f60 rfl dX2_post_39 ?_
          refine lv_iload_n hx hb dX2_post_42 rfl (lv_at hl 1 rfl) ?_
          refine li_ild hx hb hK hP 1 0 rfl rfl (by omega) (by decide) dX2_post_43 ?_
          refine lv_istore_n (lv' := [(3, .int (σ 7 jp0)), (0, .ref (a 40)), (1, .int (nI jp0)), (2, .int (nI jp1))]) hx hb dX2_post_44 rfl hl (by decide) rfl (fun ls hl => ?_)
          refine lv_aload_n hx hb dX2_post_45 rfl (lv_at hl 1 rfl) ?_
          refine li_gf2 hx hb hX2 hown hK hP 40 rfl 1 (by decide) f21 rfl dX2_post_46 ?_
          refine li_gf0 hx hb hX0 hown hK hP 0 rfl 2 (by decide) f60 rfl dX2_post_49 ?_
          refine lv_iload_n hx hb dX2_post_52 rfl (lv_at hl 2 rfl) ?_
          refine lv_iload_n hx hb dX2_post_53 rfl (lv_at hl 3 rfl) ?_
          refine li_ist hx hb hK hP hA.DX41 hS 1 0 rfl rfl (by omega) (by decide) stX_7 dX2_post_54 (fun G locs hP hS => ?_)
          refine lv_iload_n hx hb dX2_post_55 rfl (lv_at hl 0 rfl) ?_
          have hk9 : kPost n (nI jp0) (nI jp1) = 0 := by have zn := nI_toInt (n := n) (by omega); have zw := nI_toInt (n := nw) (by omega); have zs := nI_toInt (n := ns) (by omega); have zjp0 := nI_toInt (n := jp0) (by omega); have zjp1 := nI_toInt (n := jp1) (by omega); (try simp only [kPost, isI, has, noneOr, Bool.and_eq_true, Bool.or_eq_true, decide_eq_true_eq, decide_eq_false_iff_not, Bool.not_eq_true, Bool.and_eq_false_iff, Int32.lt_iff_toInt_lt, Int32.le_iff_toInt_le, eq_tI, tI_0, tI_m1, zn, zw, zs, zjp0, zjp1, (show (nI 0).toInt = 0 from by decide), (show (nI 1).toInt = 1 from by decide), (show (nI 2).toInt = 2 from by decide), nN_nI (show jp0 < 2 ^ 31 by omega), nN_nI (show jp1 < 2 ^ 31 by omega)] at c1 c2 c3 c4 ⊢); first | omega | (split <;> first | omega | (split <;> first | omega | (split <;> omega)))
          refine li_topi (show σ 7 jp0 = vPost n σ (nI jp0) (nI jp1) from by unfold vPost; rw [hk9]; first | rfl | (rw [if_pos rfl]; repeat rw [nN_nI (by omega)])) ?_
          have hw9 : up2 σ 7 jp0 (nI jp1) = sPost n σ (nI jp0) (nI jp1) := by unfold sPost; rw [hk9]; first | rfl | (rw [if_pos rfl]; repeat rw [nN_nI (by omega)])
          have hP : va_P D vwCl (wX cI cZ a n pl nw ns (sPost n σ (nI jp0) (nI jp1)) κ σ' κ') G := Eq.mp (congrArg (fun z9 => va_P D vwCl (wX cI cZ a n pl nw ns z9 κ σ' κ') G) hw9) hP
          clear hw9
          exact hEnd 56 ls G locs (κ, σ', κ') hk9 dX2_post_56 hP hS
        · skip
          have hk9 : kPost n (nI jp0) p1 = 1 := by have zn := nI_toInt (n := n) (by omega); have zw := nI_toInt (n := nw) (by omega); have zs := nI_toInt (n := ns) (by omega); have zjp0 := nI_toInt (n := jp0) (by omega); (try simp only [kPost, isI, has, noneOr, Bool.and_eq_true, Bool.or_eq_true, decide_eq_true_eq, decide_eq_false_iff_not, Bool.not_eq_true, Bool.and_eq_false_iff, Int32.lt_iff_toInt_lt, Int32.le_iff_toInt_le, eq_tI, tI_0, tI_m1, zn, zw, zs, zjp0, (show (nI 0).toInt = 0 from by decide), (show (nI 1).toInt = 1 from by decide), (show (nI 2).toInt = 2 from by decide), nN_nI (show jp0 < 2 ^ 31 by omega)] at c1 c2 c3 c4 ⊢); first | omega | (split <;> first | omega | (split <;> first | omega | (split <;> omega)))
          exact hThr 25 ls H locs eI "no such steward or stretch" 55 57 59 (by rw [hk9]; decide) (by rw [hk9]; rfl) xt_I g0 g1 (fun w h => hts w (List.mem_cons_of_mem _ (List.mem_append_right _ (h)))) (by decide) hl.1 dX2_post_25 dX2_post_28 dX2_post_29 dX2_post_31 dX2_post_34 hP hS
set_option maxHeartbeats 4000000 in
set_option maxRecDepth 100000 in
theorem c_X2_setWind (l : Launch) (D : va_G) (cI cZ cL cO : ClassId) (a : Nat → Nat) (n pl nw ns : Nat) (σ κ σ' κ' : Sg) (H : Heap) (p0 : Int32) (p1 : Int32) (A : Nat → Prop) (hA : okP A a 41) (hB : n ≤ 10 ∧ pl ≤ 200 ∧ nw ≤ 20 ∧ ns ≤ 6) (hK0 : (kWind p0 p1) = 0) : Met l yX2_setWind wsX2_setWind ({ frames := 6, cells := 0, slots := 0, locals := 82 } : Room) (ro_P D (T4 cI cZ cL cO) (wX cI cZ a n pl nw ns σ κ σ' κ') H [.ref (a 40), .int p0, .int p1]) (ay_Q D (vWind σ p0 p1) (fun u : S3 => wX cI cZ a n pl nw ns (sWind σ p0 p1) u.1 u.2.1 u.2.2) A) 0 0 A := by
  refine ay_of (K := (kWind p0 p1)) (nm := (nmK [eI, eA])) (cc := cX2_setWind) (maxL := 4) hK0 (by decide) rfl rfl (Nat.le_of_ble_eq_true rfl) ?_
  intro p e s m args below meth c Q ls locs hx hb hml hown hts hK hE hP hl hS hEnd hThr
  have hl : lv_has ls 4 [(0, .ref (a 40)), (1, .int p0), (2, .int p1)] := hl
  have hX1 : ∀ w ∈ wsX10, w.before args s = true := fun w h => hts w (List.mem_cons_of_mem _ (List.mem_append_left _ (List.mem_append_left _ (List.mem_append_right _ (h)))))
  have hX2 : ∀ w ∈ wsX20, w.before args s = true := fun w h => hts w (List.mem_cons_of_mem _ (List.mem_append_left _ (List.mem_append_left _ (List.mem_append_left _ (List.mem_append_right _ (h))))))
  have g0 : (Cond.classLink RX2 55 "java/lang/IndexOutOfBoundsException").before args s = true := hts _ (List.mem_of_getElem? (i := 1) rfl)
  have g1 : (Cond.initialized "java/lang/IndexOutOfBoundsException").before args s = true := hts _ (List.mem_of_getElem? (i := 2) rfl)
  have g2 : (Cond.classLink RX2 28 "java/lang/IllegalArgumentException").before args s = true := hts _ (List.mem_of_getElem? (i := 3) rfl)
  have g3 : (Cond.initialized "java/lang/IllegalArgumentException").before args s = true := hts _ (List.mem_of_getElem? (i := 4) rfl)
  have f10 : (Cond.fieldLink RX2 10 "LanternWalk" "setting" "LLanternWalk$Setting;").before args s = true := hts _ (List.mem_of_getElem? (i := 5) rfl)
  have f68 : (Cond.fieldLink RX2 68 "LanternWalk$Setting" "wind" "[I").before args s = true := hts _ (List.mem_of_getElem? (i := 6) rfl)
  refine lv_iload_n hx hb dX2_setWind_0 rfl (lv_at hl 1 rfl) ?_
  refine lv_if_lt (tgt := 10) hx hb dX2_setWind_1 (by decide) (fun c1 => ?_) (fun c1 => ?_)
  · skip
    have hk9 : kWind p0 p1 = 1 := by have zn := nI_toInt (n := n) (by omega); have zw := nI_toInt (n := nw) (by omega); have zs := nI_toInt (n := ns) (by omega); (try simp only [kWind, isI, has, noneOr, Bool.and_eq_true, Bool.or_eq_true, decide_eq_true_eq, decide_eq_false_iff_not, Bool.not_eq_true, Bool.and_eq_false_iff, Int32.lt_iff_toInt_lt, Int32.le_iff_toInt_le, eq_tI, tI_0, tI_m1, zn, zw, zs, (show (nI 0).toInt = 0 from by decide), (show (nI 1).toInt = 1 from by decide), (show (nI 9).toInt = 9 from by decide), (show (nI 10).toInt = 10 from by decide)] at c1 ⊢); first | omega | (split <;> first | omega | (split <;> first | omega | (split <;> omega)))
    exact hThr 10 ls H locs eI "step is not 0 to 9" 55 64 59 (by rw [hk9]; decide) (by rw [hk9]; rfl) xt_I g0 g1 (fun w h => hts w (List.mem_cons_of_mem _ (List.mem_append_left _ (List.mem_append_right _ (h))))) (by decide) hl.1 dX2_setWind_10 dX2_setWind_13 dX2_setWind_14 dX2_setWind_16 dX2_setWind_19 hP hS
  · skip
    refine lv_iload_n hx hb dX2_setWind_4 rfl (lv_at hl 1 rfl) ?_
    refine lv_bipush (v := nI 10) hx hb dX2_setWind_5 rfl ?_
    refine lv_icmp_lt (tgt := 20) hx hb dX2_setWind_7 (by decide) (fun c2 => ?_) (fun c2 => ?_)
    · skip
      obtain ⟨jp0, hljp0, hhjp0, rfl⟩ := nat_in (x := p0) (lo := 0) (hi := 9) (by simp only [Int32.lt_iff_toInt_lt, Int32.le_iff_toInt_le, tI_0, (show (nI 0).toInt = 0 from by decide), (show (nI 1).toInt = 1 from by decide), (show (nI 9).toInt = 9 from by decide), (show (nI 10).toInt = 10 from by decide)] at c1 c2; omega) (by decide)
      refine lv_iload_n hx hb dX2_setWind_20 rfl (lv_at hl 2 rfl) ?_
      refine lv_if_lt (tgt := 30) hx hb dX2_setWind_21 (by decide) (fun c3 => ?_) (fun c3 => ?_)
      · skip
        have hk9 : kWind (nI jp0) p1 = 2 := by have zn := nI_toInt (n := n) (by omega); have zw := nI_toInt (n := nw) (by omega); have zs := nI_toInt (n := ns) (by omega); have zjp0 := nI_toInt (n := jp0) (by omega); (try simp only [kWind, isI, has, noneOr, Bool.and_eq_true, Bool.or_eq_true, decide_eq_true_eq, decide_eq_false_iff_not, Bool.not_eq_true, Bool.and_eq_false_iff, Int32.lt_iff_toInt_lt, Int32.le_iff_toInt_le, eq_tI, tI_0, tI_m1, zn, zw, zs, zjp0, (show (nI 0).toInt = 0 from by decide), (show (nI 1).toInt = 1 from by decide), (show (nI 9).toInt = 9 from by decide), (show (nI 10).toInt = 10 from by decide), nN_nI (show jp0 < 2 ^ 31 by omega)] at c1 c2 c3 ⊢); first | omega | (split <;> first | omega | (split <;> first | omega | (split <;> omega)))
        exact hThr 30 ls H locs eA "wind is not 0 to 9" 28 66 32 (by rw [hk9]; decide) (by rw [hk9]; rfl) xt_A g2 g3 (fun w h => hts w (List.mem_cons_of_mem _ (List.mem_append_right _ (h)))) (by decide) hl.1 dX2_setWind_30 dX2_setWind_33 dX2_setWind_34 dX2_setWind_36 dX2_setWind_39 hP hS
      · skip
        refine lv_iload_n hx hb dX2_setWind_24 rfl (lv_at hl 2 rfl) ?_
        refine lv_bipush (v := nI 9) hx hb dX2_setWind_25 rfl ?_
        refine lv_icmp_le (tgt := 40) hx hb dX2_setWind_27 (by decide) (fun c4 => ?_) (fun c4 => ?_)
        · skip
          refine lv_aload_n hx hb dX2_setWind_40 rfl (lv_at hl 0 rfl) ?_
          refine li_gf2 hx hb hX2 hown hK hP 40 rfl 0 (by decide) f10 rfl dX2_setWind_41 ?_
          refine li_gf1 hx hb hX1 hown hK hP 16 rfl 5 (by decide) f68 rfl dX2_setWind_44 ?_
          refine lv_iload_n hx hb dX2_setWind_47 rfl (lv_at hl 1 rfl) ?_
          refine li_ild hx hb hK hP 20 0 rfl rfl (by omega) (by decide) dX2_setWind_48 ?_
          refine lv_istore_n (lv' := [(3, .int (σ 3 jp0)), (0, .ref (a 40)), (1, .int (nI jp0)), (2, .int p1)]) hx hb dX2_setWind_49 rfl hl (by decide) rfl (fun ls hl => ?_)
          refine lv_aload_n hx hb dX2_setWind_50 rfl (lv_at hl 1 rfl) ?_
          refine li_gf2 hx hb hX2 hown hK hP 40 rfl 0 (by decide) f10 rfl dX2_setWind_51 ?_
          refine li_gf1 hx hb hX1 hown hK hP 16 rfl 5 (by decide) f68 rfl dX2_setWind_54 ?_
          refine lv_iload_n hx hb dX2_setWind_57 rfl (lv_at hl 2 rfl) ?_
          refine lv_iload_n hx hb dX2_setWind_58 rfl (lv_at hl 3 rfl) ?_
          refine li_ist hx hb hK hP hA.DX41 hS 20 0 rfl rfl (by omega) (by decide) stX_3 dX2_setWind_59 (fun G locs hP hS => ?_)
          refine lv_iload_n hx hb dX2_setWind_60 rfl (lv_at hl 0 rfl) ?_
          have hk9 : kWind (nI jp0) p1 = 0 := by have zn := nI_toInt (n := n) (by omega); have zw := nI_toInt (n := nw) (by omega); have zs := nI_toInt (n := ns) (by omega); have zjp0 := nI_toInt (n := jp0) (by omega); (try simp only [kWind, isI, has, noneOr, Bool.and_eq_true, Bool.or_eq_true, decide_eq_true_eq, decide_eq_false_iff_not, Bool.not_eq_true, Bool.and_eq_false_iff, Int32.lt_iff_toInt_lt, Int32.le_iff_toInt_le, eq_tI, tI_0, tI_m1, zn, zw, zs, zjp0, (show (nI 0).toInt = 0 from by decide), (show (nI 1).toInt = 1 from by decide), (show (nI 9).toInt = 9 from by decide), (show (nI 10).toInt = 10 from by decide), nN_nI (show jp0 < 2 ^ 31 by omega)] at c1 c2 c3 c4 ⊢); first | omega | (split <;> first | omega | (split <;> first | omega | (split <;> omega)))
          refine li_topi (show σ 3 jp0 = vWind σ (nI jp0) p1 from by unfold vWind; rw [hk9]; first | rfl | (rw [if_pos rfl]; repeat rw [nN_nI (by omega)])) ?_
          have hw9 : up2 σ 3 jp0 p1 = sWind σ (nI jp0) p1 := by unfold sWind; rw [hk9]; first | rfl | (rw [if_pos rfl]; repeat rw [nN_nI (by omega)])
          have hP : va_P D vwCl (wX cI cZ a n pl nw ns (sWind σ (nI jp0) p1) κ σ' κ') G := Eq.mp (congrArg (fun z9 => va_P D vwCl (wX cI cZ a n pl nw ns z9 κ σ' κ') G) hw9) hP
          clear hw9
          exact hEnd 61 ls G locs (κ, σ', κ') hk9 dX2_setWind_61 hP hS
        · skip
          have hk9 : kWind (nI jp0) p1 = 2 := by have zn := nI_toInt (n := n) (by omega); have zw := nI_toInt (n := nw) (by omega); have zs := nI_toInt (n := ns) (by omega); have zjp0 := nI_toInt (n := jp0) (by omega); (try simp only [kWind, isI, has, noneOr, Bool.and_eq_true, Bool.or_eq_true, decide_eq_true_eq, decide_eq_false_iff_not, Bool.not_eq_true, Bool.and_eq_false_iff, Int32.lt_iff_toInt_lt, Int32.le_iff_toInt_le, eq_tI, tI_0, tI_m1, zn, zw, zs, zjp0, (show (nI 0).toInt = 0 from by decide), (show (nI 1).toInt = 1 from by decide), (show (nI 9).toInt = 9 from by decide), (show (nI 10).toInt = 10 from by decide), nN_nI (show jp0 < 2 ^ 31 by omega)] at c1 c2 c3 c4 ⊢); first | omega | (split <;> first | omega | (split <;> first | omega | (split <;> omega)))
          exact hThr 30 ls H locs eA "wind is not 0 to 9" 28 66 32 (by rw [hk9]; decide) (by rw [hk9]; rfl) xt_A g2 g3 (fun w h => hts w (List.mem_cons_of_mem _ (List.mem_append_right _ (h)))) (by decide) hl.1 dX2_setWind_30 dX2_setWind_33 dX2_setWind_34 dX2_setWind_36 dX2_setWind_39 hP hS
    · skip
      have hk9 : kWind p0 p1 = 1 := by have zn := nI_toInt (n := n) (by omega); have zw := nI_toInt (n := nw) (by omega); have zs := nI_toInt (n := ns) (by omega); (try simp only [kWind, isI, has, noneOr, Bool.and_eq_true, Bool.or_eq_true, decide_eq_true_eq, decide_eq_false_iff_not, Bool.not_eq_true, Bool.and_eq_false_iff, Int32.lt_iff_toInt_lt, Int32.le_iff_toInt_le, eq_tI, tI_0, tI_m1, zn, zw, zs, (show (nI 0).toInt = 0 from by decide), (show (nI 1).toInt = 1 from by decide), (show (nI 9).toInt = 9 from by decide), (show (nI 10).toInt = 10 from by decide)] at c1 c2 ⊢); first | omega | (split <;> first | omega | (split <;> first | omega | (split <;> omega)))
      exact hThr 10 ls H locs eI "step is not 0 to 9" 55 64 59 (by rw [hk9]; decide) (by rw [hk9]; rfl) xt_I g0 g1 (fun w h => hts w (List.mem_cons_of_mem _ (List.mem_append_left _ (List.mem_append_right _ (h))))) (by decide) hl.1 dX2_setWind_10 dX2_setWind_13 dX2_setWind_14 dX2_setWind_16 dX2_setWind_19 hP hS
set_option maxHeartbeats 4000000 in
set_option maxRecDepth 100000 in
theorem c_X2_come (l : Launch) (D : va_G) (cI cZ cL cO : ClassId) (a : Nat → Nat) (n pl nw ns : Nat) (σ κ σ' κ' : Sg) (H : Heap) (p0 : Int32) (p1 : Int32) (p2 : Int32) (A : Nat → Prop) (hA : okP A a 41) (hB : n ≤ 10 ∧ pl ≤ 200 ∧ nw ≤ 20 ∧ ns ≤ 6) (hK0 : (kCome nw p0 p1 p2) = 0) : Met l yX2_come wsX2_come ({ frames := 6, cells := 0, slots := 0, locals := 82 } : Room) (ro_P D (T4 cI cZ cL cO) (wX cI cZ a n pl nw ns σ κ σ' κ') H [.ref (a 40), .int p0, .int p1, .int p2]) (ay_Q D (vCome nw p0 p1 p2) (fun u : S3 => wX cI cZ a n pl (nCome nw p0 p1 p2) ns (sComeK nw σ p0 p1 p2) u.1 u.2.1 u.2.2) A) 0 0 A := by
  refine ay_of (K := (kCome nw p0 p1 p2)) (nm := (nmK [eA, eS])) (cc := cX2_come) (maxL := 5) hK0 (by decide) rfl rfl (Nat.le_of_ble_eq_true rfl) ?_
  intro p e s m args below meth c Q ls locs hx hb hml hown hts hK hE hP hl hS hEnd hThr
  have hl : lv_has ls 5 [(0, .ref (a 40)), (1, .int p0), (2, .int p1), (3, .int p2)] := hl
  have hX0 : ∀ w ∈ wsX00, w.before args s = true := fun w h => hts w (List.mem_cons_of_mem _ (List.mem_append_left _ (List.mem_append_left _ (List.mem_append_right _ (h)))))
  have hX1 : ∀ w ∈ wsX10, w.before args s = true := fun w h => hts w (List.mem_cons_of_mem _ (List.mem_append_left _ (List.mem_append_left _ (List.mem_append_left _ (List.mem_append_right _ (h))))))
  have hX2 : ∀ w ∈ wsX20, w.before args s = true := fun w h => hts w (List.mem_cons_of_mem _ (List.mem_append_left _ (List.mem_append_left _ (List.mem_append_left _ (List.mem_append_left _ (List.mem_append_right _ (h)))))))
  have g0 : (Cond.classLink RX2 28 "java/lang/IllegalArgumentException").before args s = true := hts _ (List.mem_of_getElem? (i := 1) rfl)
  have g1 : (Cond.initialized "java/lang/IllegalArgumentException").before args s = true := hts _ (List.mem_of_getElem? (i := 2) rfl)
  have f10 : (Cond.fieldLink RX2 10 "LanternWalk" "setting" "LLanternWalk$Setting;").before args s = true := hts _ (List.mem_of_getElem? (i := 5) rfl)
  have f73 : (Cond.fieldLink RX2 73 "LanternWalk$Setting" "walkers" "I").before args s = true := hts _ (List.mem_of_getElem? (i := 6) rfl)
  have f21 : (Cond.fieldLink RX2 21 "LanternWalk" "now" "LLanternWalk$Parade;").before args s = true := hts _ (List.mem_of_getElem? (i := 7) rfl)
  have f81 : (Cond.fieldLink RX2 81 "LanternWalk$Parade" "wick" "[I").before args s = true := hts _ (List.mem_of_getElem? (i := 8) rfl)
  have f84 : (Cond.fieldLink RX2 84 "LanternWalk$Parade" "burns" "[Z").before args s = true := hts _ (List.mem_of_getElem? (i := 9) rfl)
  have g7 : (Cond.classLink RX2 42 "java/lang/IllegalStateException").before args s = true := hts _ (List.mem_of_getElem? (i := 3) rfl)
  have g8 : (Cond.initialized "java/lang/IllegalStateException").before args s = true := hts _ (List.mem_of_getElem? (i := 4) rfl)
  refine lv_iload_n hx hb dX2_come_0 rfl (lv_at hl 1 rfl) ?_
  refine lv_iconst (v := nI 1) hx hb dX2_come_1 rfl ?_
  refine lv_icmp_lt (tgt := 31) hx hb dX2_come_2 (by decide) (fun c1 => ?_) (fun c1 => ?_)
  · skip
    have hk9 : kCome nw p0 p1 p2 = 1 := by have zn := nI_toInt (n := n) (by omega); have zw := nI_toInt (n := nw) (by omega); have zs := nI_toInt (n := ns) (by omega); (try simp only [kCome, isI, has, noneOr, Bool.and_eq_true, Bool.or_eq_true, decide_eq_true_eq, decide_eq_false_iff_not, Bool.not_eq_true, Bool.and_eq_false_iff, Int32.lt_iff_toInt_lt, Int32.le_iff_toInt_le, eq_tI, tI_0, tI_m1, zn, zw, zs, (show (nI 0).toInt = 0 from by decide), (show (nI 1).toInt = 1 from by decide), (show (nI 3).toInt = 3 from by decide), (show (nI 9).toInt = 9 from by decide), (show (nI 20).toInt = 20 from by decide), (show (nI 200).toInt = 200 from by decide)] at c1 ⊢); first | omega | (split <;> first | omega | (split <;> first | omega | (split <;> omega)))
    exact hThr 31 ls H locs eA "pace is not 1 to 3, wick not 0 to 200, or voice not 0 to 9" 28 71 32 (by rw [hk9]; decide) (by rw [hk9]; rfl) xt_A g0 g1 (fun w h => hts w (List.mem_cons_of_mem _ (List.mem_append_left _ (List.mem_append_right _ (h))))) (by decide) hl.1 dX2_come_31 dX2_come_34 dX2_come_35 dX2_come_37 dX2_come_40 hP hS
  · skip
    refine lv_iload_n hx hb dX2_come_5 rfl (lv_at hl 1 rfl) ?_
    refine lv_iconst (v := nI 3) hx hb dX2_come_6 rfl ?_
    refine lv_icmp_gt (tgt := 31) hx hb dX2_come_7 (by decide) (fun c2 => ?_) (fun c2 => ?_)
    · skip
      have hk9 : kCome nw p0 p1 p2 = 1 := by have zn := nI_toInt (n := n) (by omega); have zw := nI_toInt (n := nw) (by omega); have zs := nI_toInt (n := ns) (by omega); (try simp only [kCome, isI, has, noneOr, Bool.and_eq_true, Bool.or_eq_true, decide_eq_true_eq, decide_eq_false_iff_not, Bool.not_eq_true, Bool.and_eq_false_iff, Int32.lt_iff_toInt_lt, Int32.le_iff_toInt_le, eq_tI, tI_0, tI_m1, zn, zw, zs, (show (nI 0).toInt = 0 from by decide), (show (nI 1).toInt = 1 from by decide), (show (nI 3).toInt = 3 from by decide), (show (nI 9).toInt = 9 from by decide), (show (nI 20).toInt = 20 from by decide), (show (nI 200).toInt = 200 from by decide)] at c1 c2 ⊢); first | omega | (split <;> first | omega | (split <;> first | omega | (split <;> omega)))
      exact hThr 31 ls H locs eA "pace is not 1 to 3, wick not 0 to 200, or voice not 0 to 9" 28 71 32 (by rw [hk9]; decide) (by rw [hk9]; rfl) xt_A g0 g1 (fun w h => hts w (List.mem_cons_of_mem _ (List.mem_append_left _ (List.mem_append_right _ (h))))) (by decide) hl.1 dX2_come_31 dX2_come_34 dX2_come_35 dX2_come_37 dX2_come_40 hP hS
    · skip
      refine lv_iload_n hx hb dX2_come_10 rfl (lv_at hl 2 rfl) ?_
      refine lv_if_lt (tgt := 31) hx hb dX2_come_11 (by decide) (fun c3 => ?_) (fun c3 => ?_)
      · skip
        have hk9 : kCome nw p0 p1 p2 = 1 := by have zn := nI_toInt (n := n) (by omega); have zw := nI_toInt (n := nw) (by omega); have zs := nI_toInt (n := ns) (by omega); (try simp only [kCome, isI, has, noneOr, Bool.and_eq_true, Bool.or_eq_true, decide_eq_true_eq, decide_eq_false_iff_not, Bool.not_eq_true, Bool.and_eq_false_iff, Int32.lt_iff_toInt_lt, Int32.le_iff_toInt_le, eq_tI, tI_0, tI_m1, zn, zw, zs, (show (nI 0).toInt = 0 from by decide), (show (nI 1).toInt = 1 from by decide), (show (nI 3).toInt = 3 from by decide), (show (nI 9).toInt = 9 from by decide), (show (nI 20).toInt = 20 from by decide), (show (nI 200).toInt = 200 from by decide)] at c1 c2 c3 ⊢); first | omega | (split <;> first | omega | (split <;> first | omega | (split <;> omega)))
        exact hThr 31 ls H locs eA "pace is not 1 to 3, wick not 0 to 200, or voice not 0 to 9" 28 71 32 (by rw [hk9]; decide) (by rw [hk9]; rfl) xt_A g0 g1 (fun w h => hts w (List.mem_cons_of_mem _ (List.mem_append_left _ (List.mem_append_right _ (h))))) (by decide) hl.1 dX2_come_31 dX2_come_34 dX2_come_35 dX2_come_37 dX2_come_40 hP hS
      · skip
        refine lv_iload_n hx hb dX2_come_14 rfl (lv_at hl 2 rfl) ?_
        refine lv_sipush (v := nI 200) hx hb dX2_come_15 rfl ?_
        refine lv_icmp_gt (tgt := 31) hx hb dX2_come_18 (by decide) (fun c4 => ?_) (fun c4 => ?_)
        · skip
          have hk9 : kCome nw p0 p1 p2 = 1 := by have zn := nI_toInt (n := n) (by omega); have zw := nI_toInt (n := nw) (by omega); have zs := nI_toInt (n := ns) (by omega); (try simp only [kCome, isI, has, noneOr, Bool.and_eq_true, Bool.or_eq_true, decide_eq_true_eq, decide_eq_false_iff_not, Bool.not_eq_true, Bool.and_eq_false_iff, Int32.lt_iff_toInt_lt, Int32.le_iff_toInt_le, eq_tI, tI_0, tI_m1, zn, zw, zs, (show (nI 0).toInt = 0 from by decide), (show (nI 1).toInt = 1 from by decide), (show (nI 3).toInt = 3 from by decide), (show (nI 9).toInt = 9 from by decide), (show (nI 20).toInt = 20 from by decide), (show (nI 200).toInt = 200 from by decide)] at c1 c2 c3 c4 ⊢); first | omega | (split <;> first | omega | (split <;> first | omega | (split <;> omega)))
          exact hThr 31 ls H locs eA "pace is not 1 to 3, wick not 0 to 200, or voice not 0 to 9" 28 71 32 (by rw [hk9]; decide) (by rw [hk9]; rfl) xt_A g0 g1 (fun w h => hts w (List.mem_cons_of_mem _ (List.mem_append_left _ (List.mem_append_right _ (h))))) (by decide) hl.1 dX2_come_31 dX2_come_34 dX2_come_35 dX2_come_37 dX2_come_40 hP hS
        · skip
          refine lv_iload_n hx hb dX2_come_21 rfl (lv_at hl 3 rfl) ?_
          refine lv_if_lt (tgt := 31) hx hb dX2_come_22 (by decide) (fun c5 => ?_) (fun c5 => ?_)
          · skip
            have hk9 : kCome nw p0 p1 p2 = 1 := by have zn := nI_toInt (n := n) (by omega); have zw := nI_toInt (n := nw) (by omega); have zs := nI_toInt (n := ns) (by omega); (try simp only [kCome, isI, has, noneOr, Bool.and_eq_true, Bool.or_eq_true, decide_eq_true_eq, decide_eq_false_iff_not, Bool.not_eq_true, Bool.and_eq_false_iff, Int32.lt_iff_toInt_lt, Int32.le_iff_toInt_le, eq_tI, tI_0, tI_m1, zn, zw, zs, (show (nI 0).toInt = 0 from by decide), (show (nI 1).toInt = 1 from by decide), (show (nI 3).toInt = 3 from by decide), (show (nI 9).toInt = 9 from by decide), (show (nI 20).toInt = 20 from by decide), (show (nI 200).toInt = 200 from by decide)] at c1 c2 c3 c4 c5 ⊢); first | omega | (split <;> first | omega | (split <;> first | omega | (split <;> omega)))
            exact hThr 31 ls H locs eA "pace is not 1 to 3, wick not 0 to 200, or voice not 0 to 9" 28 71 32 (by rw [hk9]; decide) (by rw [hk9]; rfl) xt_A g0 g1 (fun w h => hts w (List.mem_cons_of_mem _ (List.mem_append_left _ (List.mem_append_right _ (h))))) (by decide) hl.1 dX2_come_31 dX2_come_34 dX2_come_35 dX2_come_37 dX2_come_40 hP hS
          · skip
            refine lv_iload_n hx hb dX2_come_25 rfl (lv_at hl 3 rfl) ?_
            refine lv_bipush (v := nI 9) hx hb dX2_come_26 rfl ?_
            refine lv_icmp_le (tgt := 41) hx hb dX2_come_28 (by decide) (fun c6 => ?_) (fun c6 => ?_)
            · skip
              refine lv_aload_n hx hb dX2_come_41 rfl (lv_at hl 0 rfl) ?_
              refine li_gf2 hx hb hX2 hown hK hP 40 rfl 0 (by decide) f10 rfl dX2_come_42 ?_
              refine li_gf1 hx hb hX1 hown hK hP 16 rfl 6 (by decide) f73 rfl dX2_come_45 ?_
              refine lv_bipush (v := nI 20) hx hb dX2_come_48 rfl ?_
              refine li_lt (tgt := 63) hx hb dX2_come_50 (by decide) (by omega) (by omega) (fun c7 => ?_) (fun c7 => ?_)
              · skip
                refine lv_aload_n hx hb dX2_come_63 rfl (lv_at hl 0 rfl) ?_
                refine li_gf2 hx hb hX2 hown hK hP 40 rfl 0 (by decide) f10 rfl dX2_come_64 ?_
                refine lv_iload_n hx hb dX2_come_67 rfl (lv_at hl 1 rfl) ?_
                refine lv_iload_n hx hb dX2_come_68 rfl (lv_at hl 3 rfl) ?_
                refine miV (As := [.int p0, .int p2]) (q0 := 16) (ci := 1) hx hb hml hown hts (c_X1_appendWalker l D cI cZ cL cO a n pl nw ns σ κ H p0 p2 (A_ a 24) (hA.A_ (by decide)) (hB) (by omega)) (cwV 2 hts gX2_come_X1_appendWalker rfl rfl rfl (by decide +kernel) ⟨by decide, by decide⟩) hK hE (hP.sub (ws' := wP cI cZ a n pl nw ns σ κ) i24 rfl) rfl rfl rfl rfl hl.1 rfl (Nat.le_of_ble_eq_true rfl) hS (ak_of (hA.M (by decide))) dX2_come_69 ⟨Nat.zero_le _, Nat.zero_le _⟩ (fun G locs hP1 _ hk1 hS => ?_)
                replace hP := jnX hA hP hP1 hk1
                replace hP : va_P D vwCl (wX cI cZ a n pl (nw + 1) ns (up2 (up2 σ 4 nw p0) 5 nw p2) κ σ' κ') G := hP
                refine lv_istore (lv' := [(4, .int (nI nw)), (0, .ref (a 40)), (1, .int p0), (2, .int p1), (3, .int p2)]) hx hb dX2_come_72 hl (by decide) rfl (fun ls hl => ?_)
                refine lv_aload_n hx hb dX2_come_74 rfl (lv_at hl 1 rfl) ?_
                refine li_gf2 hx hb hX2 hown hK hP 40 rfl 1 (by decide) f21 rfl dX2_come_75 ?_
                refine li_gf0 hx hb hX0 hown hK hP 0 rfl 5 (by decide) f81 rfl dX2_come_78 ?_
                refine lv_iload hx hb dX2_come_81 (lv_at hl 0 rfl) ?_
                refine lv_iload_n hx hb dX2_come_83 rfl (lv_at hl 3 rfl) ?_
                refine li_ist hx hb hK hP hA.DX41 hS 4 0 rfl rfl (by omega) (by decide) stX_10 dX2_come_84 (fun G locs hP hS => ?_)
                refine lv_aload_n hx hb dX2_come_85 rfl (lv_at hl 1 rfl) ?_
                refine li_gf2 hx hb hX2 hown hK hP 40 rfl 1 (by decide) f21 rfl dX2_come_86 ?_
                refine li_gf0 hx hb hX0 hown hK hP 0 rfl 6 (by decide) f84 rfl dX2_come_89 ?_
                refine lv_iload hx hb dX2_come_92 (lv_at hl 0 rfl) ?_
                refine lv_iload_n hx hb dX2_come_94 rfl (lv_at hl 3 rfl) ?_
                refine lv_if_le (tgt := 102) hx hb dX2_come_95 (by decide) (fun c8 => ?_) (fun c8 => ?_)
                · skip
                  refine lv_iconst (v := nI 0) hx hb dX2_come_102 rfl ?_
                  refine li_zst hx hb hK hP hA.DX41 hS 5 1 rfl rfl (by omega) (by decide) (rfl) stX_11 dX2_come_103 (fun G locs hP hS => ?_)
                  refine lv_iload hx hb dX2_come_104 (lv_at hl 0 rfl) ?_
                  have hk9 : kCome nw p0 p1 p2 = 0 := by have zn := nI_toInt (n := n) (by omega); have zw := nI_toInt (n := nw) (by omega); have zs := nI_toInt (n := ns) (by omega); (try simp only [kCome, isI, has, noneOr, Bool.and_eq_true, Bool.or_eq_true, decide_eq_true_eq, decide_eq_false_iff_not, Bool.not_eq_true, Bool.and_eq_false_iff, Int32.lt_iff_toInt_lt, Int32.le_iff_toInt_le, eq_tI, tI_0, tI_m1, zn, zw, zs, (show (nI 0).toInt = 0 from by decide), (show (nI 1).toInt = 1 from by decide), (show (nI 3).toInt = 3 from by decide), (show (nI 9).toInt = 9 from by decide), (show (nI 20).toInt = 20 from by decide), (show (nI 200).toInt = 200 from by decide)] at c1 c2 c3 c4 c5 c6 c7 c8 ⊢); first | omega | (split <;> first | omega | (split <;> first | omega | (split <;> omega)))
                  refine li_topi (show nI nw = vCome nw p0 p1 p2 from by unfold vCome; rw [hk9]; first | rfl | (rw [if_pos rfl]; repeat rw [nN_nI (by omega)])) ?_
                  have hw9 : up2 (up2 (up2 (up2 σ 4 nw p0) 5 nw p2) 10 nw p1) 11 nw (nI 0) = sComeK nw σ p0 p1 p2 := by unfold sComeK; rw [hk9, if_pos rfl]; unfold sCome; first | rw [if_pos (by rw [nI_0]; exact Int32.not_le.mp (by assumption))] | rw [if_neg (by rw [nI_0]; exact Int32.not_lt.mpr (by assumption))]
                  have hP : va_P D vwCl (wX cI cZ a n pl (nw + 1) ns (sComeK nw σ p0 p1 p2) κ σ' κ') G := Eq.mp (congrArg (fun z9 => va_P D vwCl (wX cI cZ a n pl (nw + 1) ns z9 κ σ' κ') G) hw9) hP
                  clear hw9
                  have hw9 : nw + 1 = nCome nw p0 p1 p2 := by unfold nCome; rw [hk9]; first | rfl | (rw [if_pos rfl]; repeat rw [nN_nI (by omega)])
                  have hP : va_P D vwCl (wX cI cZ a n pl (nCome nw p0 p1 p2) ns (sComeK nw σ p0 p1 p2) κ σ' κ') G := Eq.mp (congrArg (fun z9 => va_P D vwCl (wX cI cZ a n pl z9 ns (sComeK nw σ p0 p1 p2) κ σ' κ') G) hw9) hP
                  clear hw9
                  exact hEnd 106 ls G locs (κ, σ', κ') hk9 dX2_come_106 hP hS
                · skip
                  refine lv_iconst (v := nI 1) hx hb dX2_come_98 rfl ?_
                  refine lv_goto (tgt := 103) hx hb dX2_come_99 (by decide) ?_
                  refine li_zst hx hb hK hP hA.DX41 hS 5 1 rfl rfl (by omega) (by decide) (rfl) stX_11 dX2_come_103 (fun G locs hP hS => ?_)
                  refine lv_iload hx hb dX2_come_104 (lv_at hl 0 rfl) ?_
                  have hk9 : kCome nw p0 p1 p2 = 0 := by have zn := nI_toInt (n := n) (by omega); have zw := nI_toInt (n := nw) (by omega); have zs := nI_toInt (n := ns) (by omega); (try simp only [kCome, isI, has, noneOr, Bool.and_eq_true, Bool.or_eq_true, decide_eq_true_eq, decide_eq_false_iff_not, Bool.not_eq_true, Bool.and_eq_false_iff, Int32.lt_iff_toInt_lt, Int32.le_iff_toInt_le, eq_tI, tI_0, tI_m1, zn, zw, zs, (show (nI 0).toInt = 0 from by decide), (show (nI 1).toInt = 1 from by decide), (show (nI 3).toInt = 3 from by decide), (show (nI 9).toInt = 9 from by decide), (show (nI 20).toInt = 20 from by decide), (show (nI 200).toInt = 200 from by decide)] at c1 c2 c3 c4 c5 c6 c7 c8 ⊢); first | omega | (split <;> first | omega | (split <;> first | omega | (split <;> omega)))
                  refine li_topi (show nI nw = vCome nw p0 p1 p2 from by unfold vCome; rw [hk9]; first | rfl | (rw [if_pos rfl]; repeat rw [nN_nI (by omega)])) ?_
                  have hw9 : up2 (up2 (up2 (up2 σ 4 nw p0) 5 nw p2) 10 nw p1) 11 nw (nI 1) = sComeK nw σ p0 p1 p2 := by unfold sComeK; rw [hk9, if_pos rfl]; unfold sCome; first | rw [if_pos (by rw [nI_0]; exact Int32.not_le.mp (by assumption))] | rw [if_neg (by rw [nI_0]; exact Int32.not_lt.mpr (by assumption))]
                  have hP : va_P D vwCl (wX cI cZ a n pl (nw + 1) ns (sComeK nw σ p0 p1 p2) κ σ' κ') G := Eq.mp (congrArg (fun z9 => va_P D vwCl (wX cI cZ a n pl (nw + 1) ns z9 κ σ' κ') G) hw9) hP
                  clear hw9
                  have hw9 : nw + 1 = nCome nw p0 p1 p2 := by unfold nCome; rw [hk9]; first | rfl | (rw [if_pos rfl]; repeat rw [nN_nI (by omega)])
                  have hP : va_P D vwCl (wX cI cZ a n pl (nCome nw p0 p1 p2) ns (sComeK nw σ p0 p1 p2) κ σ' κ') G := Eq.mp (congrArg (fun z9 => va_P D vwCl (wX cI cZ a n pl z9 ns (sComeK nw σ p0 p1 p2) κ σ' κ') G) hw9) hP
                  clear hw9
                  exact hEnd 106 ls G locs (κ, σ', κ') hk9 dX2_come_106 hP hS
              · skip
                have hk9 : kCome nw p0 p1 p2 = 2 := by have zn := nI_toInt (n := n) (by omega); have zw := nI_toInt (n := nw) (by omega); have zs := nI_toInt (n := ns) (by omega); (try simp only [kCome, isI, has, noneOr, Bool.and_eq_true, Bool.or_eq_true, decide_eq_true_eq, decide_eq_false_iff_not, Bool.not_eq_true, Bool.and_eq_false_iff, Int32.lt_iff_toInt_lt, Int32.le_iff_toInt_le, eq_tI, tI_0, tI_m1, zn, zw, zs, (show (nI 0).toInt = 0 from by decide), (show (nI 1).toInt = 1 from by decide), (show (nI 3).toInt = 3 from by decide), (show (nI 9).toInt = 9 from by decide), (show (nI 20).toInt = 20 from by decide), (show (nI 200).toInt = 200 from by decide)] at c1 c2 c3 c4 c5 c6 c7 ⊢); first | omega | (split <;> first | omega | (split <;> first | omega | (split <;> omega)))
                exact hThr 53 ls H locs eS "there are 20 walkers" 42 76 46 (by rw [hk9]; decide) (by rw [hk9]; rfl) xt_S g7 g8 (fun w h => hts w (List.mem_cons_of_mem _ (List.mem_append_right _ (h)))) (by decide) hl.1 dX2_come_53 dX2_come_56 dX2_come_57 dX2_come_59 dX2_come_62 hP hS
            · skip
              have hk9 : kCome nw p0 p1 p2 = 1 := by have zn := nI_toInt (n := n) (by omega); have zw := nI_toInt (n := nw) (by omega); have zs := nI_toInt (n := ns) (by omega); (try simp only [kCome, isI, has, noneOr, Bool.and_eq_true, Bool.or_eq_true, decide_eq_true_eq, decide_eq_false_iff_not, Bool.not_eq_true, Bool.and_eq_false_iff, Int32.lt_iff_toInt_lt, Int32.le_iff_toInt_le, eq_tI, tI_0, tI_m1, zn, zw, zs, (show (nI 0).toInt = 0 from by decide), (show (nI 1).toInt = 1 from by decide), (show (nI 3).toInt = 3 from by decide), (show (nI 9).toInt = 9 from by decide), (show (nI 20).toInt = 20 from by decide), (show (nI 200).toInt = 200 from by decide)] at c1 c2 c3 c4 c5 c6 ⊢); first | omega | (split <;> first | omega | (split <;> first | omega | (split <;> omega)))
              exact hThr 31 ls H locs eA "pace is not 1 to 3, wick not 0 to 200, or voice not 0 to 9" 28 71 32 (by rw [hk9]; decide) (by rw [hk9]; rfl) xt_A g0 g1 (fun w h => hts w (List.mem_cons_of_mem _ (List.mem_append_left _ (List.mem_append_right _ (h))))) (by decide) hl.1 dX2_come_31 dX2_come_34 dX2_come_35 dX2_come_37 dX2_come_40 hP hS
set_option maxHeartbeats 4000000 in
set_option maxRecDepth 100000 in
theorem c_X2_trim (l : Launch) (D : va_G) (cI cZ cL cO : ClassId) (a : Nat → Nat) (n pl nw ns : Nat) (σ κ σ' κ' : Sg) (H : Heap) (p0 : Int32) (p1 : Int32) (A : Nat → Prop) (hA : okP A a 41) (hB : n ≤ 10 ∧ pl ≤ 200 ∧ nw ≤ 20 ∧ ns ≤ 6) (hK0 : (kTrim nw σ p0 p1) = 0) : Met l yX2_trim wsX2_trim ({ frames := 6, cells := 0, slots := 0, locals := 82 } : Room) (ro_P D (T4 cI cZ cL cO) (wX cI cZ a n pl nw ns σ κ σ' κ') H [.ref (a 40), .int p0, .int p1]) (ay_Q D (vTrim nw σ p0 p1) (fun u : S3 => wX cI cZ a n pl nw ns (sTrim nw σ p0 p1) u.1 u.2.1 u.2.2) A) 0 0 A := by
  refine ay_of (K := (kTrim nw σ p0 p1)) (nm := (nmK [eI, eA, eS])) (cc := cX2_trim) (maxL := 3) hK0 (by decide) rfl rfl (Nat.le_of_ble_eq_true rfl) ?_
  intro p e s m args below meth c Q ls locs hx hb hml hown hts hK hE hP hl hS hEnd hThr
  have hl : lv_has ls 3 [(0, .ref (a 40)), (1, .int p0), (2, .int p1)] := hl
  have hX0 : ∀ w ∈ wsX00, w.before args s = true := fun w h => hts w (List.mem_cons_of_mem _ (List.mem_append_left _ (List.mem_append_left _ (List.mem_append_left _ (List.mem_append_left _ (List.mem_append_right _ (h)))))))
  have hX2 : ∀ w ∈ wsX20, w.before args s = true := fun w h => hts w (List.mem_cons_of_mem _ (List.mem_append_left _ (List.mem_append_left _ (List.mem_append_left _ (List.mem_append_left _ (List.mem_append_left _ (List.mem_append_right _ (h))))))))
  have f10 : (Cond.fieldLink RX2 10 "LanternWalk" "setting" "LLanternWalk$Setting;").before args s = true := hts _ (List.mem_of_getElem? (i := 7) rfl)
  have g1 : (Cond.classLink RX2 28 "java/lang/IllegalArgumentException").before args s = true := hts _ (List.mem_of_getElem? (i := 3) rfl)
  have g2 : (Cond.initialized "java/lang/IllegalArgumentException").before args s = true := hts _ (List.mem_of_getElem? (i := 4) rfl)
  have f21 : (Cond.fieldLink RX2 21 "LanternWalk" "now" "LLanternWalk$Parade;").before args s = true := hts _ (List.mem_of_getElem? (i := 8) rfl)
  have f95 : (Cond.fieldLink RX2 95 "LanternWalk$Parade" "stage" "[I").before args s = true := hts _ (List.mem_of_getElem? (i := 9) rfl)
  have f81 : (Cond.fieldLink RX2 81 "LanternWalk$Parade" "wick" "[I").before args s = true := hts _ (List.mem_of_getElem? (i := 10) rfl)
  have g6 : (Cond.methodLink RX2 100 Lib.Math.min.name).before args s = true := hts _ (List.mem_of_getElem? (i := 11) rfl)
  have g7 : (Cond.static Lib.Math.min.name).before args s = true := hts _ (List.mem_of_getElem? (i := 12) rfl)
  have g8 : (Cond.initialized "java/lang/Math").before args s = true := hts _ (List.mem_of_getElem? (i := 13) rfl)
  have g9 : (Cond.code Lib.Math.min.name Lib.Math.min.code 2 (some .int)).before args s = true := hts _ (List.mem_of_getElem? (i := 14) rfl)
  have f84 : (Cond.fieldLink RX2 84 "LanternWalk$Parade" "burns" "[Z").before args s = true := hts _ (List.mem_of_getElem? (i := 15) rfl)
  have g11 : (Cond.classLink RX2 42 "java/lang/IllegalStateException").before args s = true := hts _ (List.mem_of_getElem? (i := 5) rfl)
  have g12 : (Cond.initialized "java/lang/IllegalStateException").before args s = true := hts _ (List.mem_of_getElem? (i := 6) rfl)
  have g13 : (Cond.classLink RX2 55 "java/lang/IndexOutOfBoundsException").before args s = true := hts _ (List.mem_of_getElem? (i := 1) rfl)
  have g14 : (Cond.initialized "java/lang/IndexOutOfBoundsException").before args s = true := hts _ (List.mem_of_getElem? (i := 2) rfl)
  refine lv_aload_n hx hb dX2_trim_0 rfl (lv_at hl 0 rfl) ?_
  refine li_gf2 hx hb hX2 hown hK hP 40 rfl 0 (by decide) f10 rfl dX2_trim_1 ?_
  refine lv_iload_n hx hb dX2_trim_4 rfl (lv_at hl 1 rfl) ?_
  refine roV (As := [.int p0]) (q0 := 16) (ci := 1) hx hb hml hown hts (c_X1_hasWalker l D cI cZ cL cO a n pl nw ns σ κ H p0 (hB)) (cwV 1 hts gX2_trim_X1_hasWalker rfl rfl rfl (by decide +kernel) ⟨by decide, by decide⟩) hK hE (hP.sub (ws' := wP cI cZ a n pl nw ns σ κ) i24 rfl) rfl rfl rfl rfl hl.1 rfl (Nat.le_of_ble_eq_true rfl) hS dX2_trim_5 ⟨Nat.zero_le _, Nat.zero_le _⟩ (fun locs hS => ?_)
  refine li_zne (tgt := 21) hx hb dX2_trim_8 (by decide) (fun c1 => ?_) (fun c1 => ?_)
  · skip
    obtain ⟨jp0, hhjp0, rfl⟩ := has_nat (by omega) c1
    refine lv_iload_n hx hb dX2_trim_21 rfl (lv_at hl 2 rfl) ?_
    refine lv_iconst (v := nI 1) hx hb dX2_trim_22 rfl ?_
    refine lv_icmp_lt (tgt := 33) hx hb dX2_trim_23 (by decide) (fun c2 => ?_) (fun c2 => ?_)
    · skip
      have hk9 : kTrim nw σ (nI jp0) p1 = 2 := by have zn := nI_toInt (n := n) (by omega); have zw := nI_toInt (n := nw) (by omega); have zs := nI_toInt (n := ns) (by omega); have zjp0 := nI_toInt (n := jp0) (by omega); (try simp only [kTrim, isI, has, noneOr, Bool.and_eq_true, Bool.or_eq_true, decide_eq_true_eq, decide_eq_false_iff_not, Bool.not_eq_true, Bool.and_eq_false_iff, Int32.lt_iff_toInt_lt, Int32.le_iff_toInt_le, eq_tI, tI_0, tI_m1, zn, zw, zs, zjp0, (show (nI 0).toInt = 0 from by decide), (show (nI 1).toInt = 1 from by decide), (show (nI 2).toInt = 2 from by decide), (show (nI 200).toInt = 200 from by decide), nN_nI (show jp0 < 2 ^ 31 by omega)] at c1 c2 ⊢); first | omega | (split <;> first | omega | (split <;> first | omega | (split <;> omega)))
      exact hThr 33 ls H locs eA "wick is not 1 to 200" 28 93 32 (by rw [hk9]; decide) (by rw [hk9]; rfl) xt_A g1 g2 (fun w h => hts w (List.mem_cons_of_mem _ (List.mem_append_left _ (List.mem_append_right _ (h))))) (by decide) hl.1 dX2_trim_33 dX2_trim_36 dX2_trim_37 dX2_trim_39 dX2_trim_42 hP hS
    · skip
      refine lv_iload_n hx hb dX2_trim_26 rfl (lv_at hl 2 rfl) ?_
      refine lv_sipush (v := nI 200) hx hb dX2_trim_27 rfl ?_
      refine lv_icmp_le (tgt := 43) hx hb dX2_trim_30 (by decide) (fun c3 => ?_) (fun c3 => ?_)
      · skip
        refine lv_aload_n hx hb dX2_trim_43 rfl (lv_at hl 0 rfl) ?_
        refine li_gf2 hx hb hX2 hown hK hP 40 rfl 1 (by decide) f21 rfl dX2_trim_44 ?_
        refine li_gf0 hx hb hX0 hown hK hP 0 rfl 7 (by decide) f95 rfl dX2_trim_47 ?_
        refine lv_iload_n hx hb dX2_trim_50 rfl (lv_at hl 1 rfl) ?_
        refine li_ild hx hb hK hP 6 0 rfl rfl (by omega) (by decide) dX2_trim_51 ?_
        refine lv_iconst (v := nI 2) hx hb dX2_trim_52 rfl ?_
        refine lv_icmp_ne (tgt := 66) hx hb dX2_trim_53 (by decide) (fun c4 => ?_) (fun c4 => ?_)
        · skip
          refine lv_aload_n hx hb dX2_trim_66 rfl (lv_at hl 0 rfl) ?_
          refine li_gf2 hx hb hX2 hown hK hP 40 rfl 1 (by decide) f21 rfl dX2_trim_67 ?_
          refine li_gf0 hx hb hX0 hown hK hP 0 rfl 5 (by decide) f81 rfl dX2_trim_70 ?_
          refine lv_iload_n hx hb dX2_trim_73 rfl (lv_at hl 1 rfl) ?_
          refine lv_sipush (v := nI 200) hx hb dX2_trim_74 rfl ?_
          refine lv_aload_n hx hb dX2_trim_77 rfl (lv_at hl 0 rfl) ?_
          refine li_gf2 hx hb hX2 hown hK hP 40 rfl 1 (by decide) f21 rfl dX2_trim_78 ?_
          refine li_gf0 hx hb hX0 hown hK hP 0 rfl 5 (by decide) f81 rfl dX2_trim_81 ?_
          refine lv_iload_n hx hb dX2_trim_84 rfl (lv_at hl 1 rfl) ?_
          refine li_ild hx hb hK hP 4 0 rfl rfl (by omega) (by decide) dX2_trim_85 ?_
          refine lv_iload_n hx hb dX2_trim_86 rfl (lv_at hl 2 rfl) ?_
          refine lv_iadd hx hb dX2_trim_87 ?_
          refine va_mmin hx hb (hml.trans hl.1.symm) hown g6 g7 g8 g9 (by decide) (Nat.le_of_ble_eq_true rfl) (Nat.zero_le _) (Nat.zero_le _) dX2_trim_88 ?_
          refine li_ist hx hb hK hP hA.DX41 hS 4 0 rfl rfl (by omega) (by decide) stX_10 dX2_trim_91 (fun G locs hP hS => ?_)
          refine lv_aload_n hx hb dX2_trim_92 rfl (lv_at hl 0 rfl) ?_
          refine li_gf2 hx hb hX2 hown hK hP 40 rfl 1 (by decide) f21 rfl dX2_trim_93 ?_
          refine li_gf0 hx hb hX0 hown hK hP 0 rfl 6 (by decide) f84 rfl dX2_trim_96 ?_
          refine lv_iload_n hx hb dX2_trim_99 rfl (lv_at hl 1 rfl) ?_
          refine lv_iconst (v := nI 1) hx hb dX2_trim_100 rfl ?_
          refine li_zst hx hb hK hP hA.DX41 hS 5 1 rfl rfl (by omega) (by decide) (rfl) stX_11 dX2_trim_101 (fun G locs hP hS => ?_)
          refine lv_aload_n hx hb dX2_trim_102 rfl (lv_at hl 0 rfl) ?_
          refine li_gf2 hx hb hX2 hown hK hP 40 rfl 1 (by decide) f21 rfl dX2_trim_103 ?_
          refine li_gf0 hx hb hX0 hown hK hP 0 rfl 5 (by decide) f81 rfl dX2_trim_106 ?_
          refine lv_iload_n hx hb dX2_trim_109 rfl (lv_at hl 1 rfl) ?_
          refine li_ild hx hb hK hP 4 0 rfl rfl (by omega) (by decide) dX2_trim_110 ?_
          have hk9 : kTrim nw σ (nI jp0) p1 = 0 := by have zn := nI_toInt (n := n) (by omega); have zw := nI_toInt (n := nw) (by omega); have zs := nI_toInt (n := ns) (by omega); have zjp0 := nI_toInt (n := jp0) (by omega); (try simp only [kTrim, isI, has, noneOr, Bool.and_eq_true, Bool.or_eq_true, decide_eq_true_eq, decide_eq_false_iff_not, Bool.not_eq_true, Bool.and_eq_false_iff, Int32.lt_iff_toInt_lt, Int32.le_iff_toInt_le, eq_tI, tI_0, tI_m1, zn, zw, zs, zjp0, (show (nI 0).toInt = 0 from by decide), (show (nI 1).toInt = 1 from by decide), (show (nI 2).toInt = 2 from by decide), (show (nI 200).toInt = 200 from by decide), nN_nI (show jp0 < 2 ^ 31 by omega)] at c1 c2 c3 c4 ⊢); first | omega | (split <;> first | omega | (split <;> first | omega | (split <;> omega)))
          refine li_topi (show (up2 (up2 σ 10 jp0 (if (σ 10 jp0) + p1 < nI 200 then (σ 10 jp0) + p1 else nI 200)) 11 jp0 (nI 1)) 10 jp0 = vTrim nw σ (nI jp0) p1 from by unfold vTrim; rw [hk9]; first | rfl | (rw [if_pos rfl]; unfold wTrim; repeat rw [nN_nI (by omega)]; simp [up2_at])) ?_
          have hw9 : up2 (up2 σ 10 jp0 (if (σ 10 jp0) + p1 < nI 200 then (σ 10 jp0) + p1 else nI 200)) 11 jp0 (nI 1) = sTrim nw σ (nI jp0) p1 := by unfold sTrim; rw [hk9]; first | rfl | (rw [if_pos rfl]; unfold wTrim; repeat rw [nN_nI (by omega)])
          have hP : va_P D vwCl (wX cI cZ a n pl nw ns (sTrim nw σ (nI jp0) p1) κ σ' κ') G := Eq.mp (congrArg (fun z9 => va_P D vwCl (wX cI cZ a n pl nw ns z9 κ σ' κ') G) hw9) hP
          clear hw9
          exact hEnd 111 ls G locs (κ, σ', κ') hk9 dX2_trim_111 hP hS
        · skip
          have hk9 : kTrim nw σ (nI jp0) p1 = 3 := by have zn := nI_toInt (n := n) (by omega); have zw := nI_toInt (n := nw) (by omega); have zs := nI_toInt (n := ns) (by omega); have zjp0 := nI_toInt (n := jp0) (by omega); (try simp only [kTrim, isI, has, noneOr, Bool.and_eq_true, Bool.or_eq_true, decide_eq_true_eq, decide_eq_false_iff_not, Bool.not_eq_true, Bool.and_eq_false_iff, Int32.lt_iff_toInt_lt, Int32.le_iff_toInt_le, eq_tI, tI_0, tI_m1, zn, zw, zs, zjp0, (show (nI 0).toInt = 0 from by decide), (show (nI 1).toInt = 1 from by decide), (show (nI 2).toInt = 2 from by decide), (show (nI 200).toInt = 200 from by decide), nN_nI (show jp0 < 2 ^ 31 by omega)] at c1 c2 c3 c4 ⊢); first | omega | (split <;> first | omega | (split <;> first | omega | (split <;> omega)))
          exact hThr 56 ls H locs eS "this walker is home" 42 98 46 (by rw [hk9]; decide) (by rw [hk9]; rfl) xt_S g11 g12 (fun w h => hts w (List.mem_cons_of_mem _ (List.mem_append_right _ (h)))) (by decide) hl.1 dX2_trim_56 dX2_trim_59 dX2_trim_60 dX2_trim_62 dX2_trim_65 hP hS
      · skip
        have hk9 : kTrim nw σ (nI jp0) p1 = 2 := by have zn := nI_toInt (n := n) (by omega); have zw := nI_toInt (n := nw) (by omega); have zs := nI_toInt (n := ns) (by omega); have zjp0 := nI_toInt (n := jp0) (by omega); (try simp only [kTrim, isI, has, noneOr, Bool.and_eq_true, Bool.or_eq_true, decide_eq_true_eq, decide_eq_false_iff_not, Bool.not_eq_true, Bool.and_eq_false_iff, Int32.lt_iff_toInt_lt, Int32.le_iff_toInt_le, eq_tI, tI_0, tI_m1, zn, zw, zs, zjp0, (show (nI 0).toInt = 0 from by decide), (show (nI 1).toInt = 1 from by decide), (show (nI 2).toInt = 2 from by decide), (show (nI 200).toInt = 200 from by decide), nN_nI (show jp0 < 2 ^ 31 by omega)] at c1 c2 c3 ⊢); first | omega | (split <;> first | omega | (split <;> first | omega | (split <;> omega)))
        exact hThr 33 ls H locs eA "wick is not 1 to 200" 28 93 32 (by rw [hk9]; decide) (by rw [hk9]; rfl) xt_A g1 g2 (fun w h => hts w (List.mem_cons_of_mem _ (List.mem_append_left _ (List.mem_append_right _ (h))))) (by decide) hl.1 dX2_trim_33 dX2_trim_36 dX2_trim_37 dX2_trim_39 dX2_trim_42 hP hS
  · skip
    have hk9 : kTrim nw σ p0 p1 = 1 := by have zn := nI_toInt (n := n) (by omega); have zw := nI_toInt (n := nw) (by omega); have zs := nI_toInt (n := ns) (by omega); (try simp only [kTrim, isI, has, noneOr, Bool.and_eq_true, Bool.or_eq_true, decide_eq_true_eq, decide_eq_false_iff_not, Bool.not_eq_true, Bool.and_eq_false_iff, Int32.lt_iff_toInt_lt, Int32.le_iff_toInt_le, eq_tI, tI_0, tI_m1, zn, zw, zs, (show (nI 0).toInt = 0 from by decide), (show (nI 1).toInt = 1 from by decide), (show (nI 2).toInt = 2 from by decide), (show (nI 200).toInt = 200 from by decide)] at c1 ⊢); first | omega | (split <;> first | omega | (split <;> first | omega | (split <;> omega)))
    exact hThr 11 ls H locs eI "no such walker" 55 91 59 (by rw [hk9]; decide) (by rw [hk9]; rfl) xt_I g13 g14 (fun w h => hts w (List.mem_cons_of_mem _ (List.mem_append_left _ (List.mem_append_left _ (List.mem_append_right _ (h)))))) (by decide) hl.1 dX2_trim_11 dX2_trim_14 dX2_trim_15 dX2_trim_17 dX2_trim_20 hP hS
set_option maxHeartbeats 4000000 in
set_option maxRecDepth 100000 in
theorem c_X2_addSong (l : Launch) (D : va_G) (cI cZ cL cO : ClassId) (a : Nat → Nat) (n pl nw ns : Nat) (σ κ σ' κ' : Sg) (H : Heap) (p0 : Int32) (A : Nat → Prop) (hA : okP A a 41) (hB : n ≤ 10 ∧ pl ≤ 200 ∧ nw ≤ 20 ∧ ns ≤ 6) (hK0 : (kSong ns p0) = 0) : Met l yX2_addSong wsX2_addSong ({ frames := 6, cells := 0, slots := 0, locals := 82 } : Room) (ro_P D (T4 cI cZ cL cO) (wX cI cZ a n pl nw ns σ κ σ' κ') H [.ref (a 40), .int p0]) (ay_Q D (vSong ns p0) (fun u : S3 => wX cI cZ a n pl nw (nSong ns p0) (sSong ns σ p0) u.1 u.2.1 u.2.2) A) 0 0 A := by
  refine ay_of (K := (kSong ns p0)) (nm := (nmK [eA, eS])) (cc := cX2_addSong) (maxL := 2) hK0 (by decide) rfl rfl (Nat.le_of_ble_eq_true rfl) ?_
  intro p e s m args below meth c Q ls locs hx hb hml hown hts hK hE hP hl hS hEnd hThr
  have hl : lv_has ls 2 [(0, .ref (a 40)), (1, .int p0)] := hl
  have hX1 : ∀ w ∈ wsX10, w.before args s = true := fun w h => hts w (List.mem_cons_of_mem _ (List.mem_append_left _ (List.mem_append_left _ (List.mem_append_right _ (h)))))
  have hX2 : ∀ w ∈ wsX20, w.before args s = true := fun w h => hts w (List.mem_cons_of_mem _ (List.mem_append_left _ (List.mem_append_left _ (List.mem_append_left _ (List.mem_append_right _ (h))))))
  have g0 : (Cond.classLink RX2 28 "java/lang/IllegalArgumentException").before args s = true := hts _ (List.mem_of_getElem? (i := 1) rfl)
  have g1 : (Cond.initialized "java/lang/IllegalArgumentException").before args s = true := hts _ (List.mem_of_getElem? (i := 2) rfl)
  have f10 : (Cond.fieldLink RX2 10 "LanternWalk" "setting" "LLanternWalk$Setting;").before args s = true := hts _ (List.mem_of_getElem? (i := 5) rfl)
  have f107 : (Cond.fieldLink RX2 107 "LanternWalk$Setting" "songs" "I").before args s = true := hts _ (List.mem_of_getElem? (i := 6) rfl)
  have g4 : (Cond.classLink RX2 42 "java/lang/IllegalStateException").before args s = true := hts _ (List.mem_of_getElem? (i := 3) rfl)
  have g5 : (Cond.initialized "java/lang/IllegalStateException").before args s = true := hts _ (List.mem_of_getElem? (i := 4) rfl)
  refine lv_iload_n hx hb dX2_addSong_0 rfl (lv_at hl 1 rfl) ?_
  refine lv_iconst (v := nI 1) hx hb dX2_addSong_1 rfl ?_
  refine lv_icmp_lt (tgt := 11) hx hb dX2_addSong_2 (by decide) (fun c1 => ?_) (fun c1 => ?_)
  · skip
    have hk9 : kSong ns p0 = 1 := by have zn := nI_toInt (n := n) (by omega); have zw := nI_toInt (n := nw) (by omega); have zs := nI_toInt (n := ns) (by omega); (try simp only [kSong, isI, has, noneOr, Bool.and_eq_true, Bool.or_eq_true, decide_eq_true_eq, decide_eq_false_iff_not, Bool.not_eq_true, Bool.and_eq_false_iff, Int32.lt_iff_toInt_lt, Int32.le_iff_toInt_le, eq_tI, tI_0, tI_m1, zn, zw, zs, (show (nI 0).toInt = 0 from by decide), (show (nI 1).toInt = 1 from by decide), (show (nI 6).toInt = 6 from by decide), (show (nI 9).toInt = 9 from by decide)] at c1 ⊢); first | omega | (split <;> first | omega | (split <;> first | omega | (split <;> omega)))
    exact hThr 11 ls H locs eA "length is not 1 to 9" 28 105 32 (by rw [hk9]; decide) (by rw [hk9]; rfl) xt_A g0 g1 (fun w h => hts w (List.mem_cons_of_mem _ (List.mem_append_left _ (List.mem_append_right _ (h))))) (by decide) hl.1 dX2_addSong_11 dX2_addSong_14 dX2_addSong_15 dX2_addSong_17 dX2_addSong_20 hP hS
  · skip
    refine lv_iload_n hx hb dX2_addSong_5 rfl (lv_at hl 1 rfl) ?_
    refine lv_bipush (v := nI 9) hx hb dX2_addSong_6 rfl ?_
    refine lv_icmp_le (tgt := 21) hx hb dX2_addSong_8 (by decide) (fun c2 => ?_) (fun c2 => ?_)
    · skip
      refine lv_aload_n hx hb dX2_addSong_21 rfl (lv_at hl 0 rfl) ?_
      refine li_gf2 hx hb hX2 hown hK hP 40 rfl 0 (by decide) f10 rfl dX2_addSong_22 ?_
      refine li_gf1 hx hb hX1 hown hK hP 16 rfl 9 (by decide) f107 rfl dX2_addSong_25 ?_
      refine lv_bipush (v := nI 6) hx hb dX2_addSong_28 rfl ?_
      refine li_lt (tgt := 43) hx hb dX2_addSong_30 (by decide) (by omega) (by omega) (fun c3 => ?_) (fun c3 => ?_)
      · skip
        refine lv_aload_n hx hb dX2_addSong_43 rfl (lv_at hl 0 rfl) ?_
        refine li_gf2 hx hb hX2 hown hK hP 40 rfl 0 (by decide) f10 rfl dX2_addSong_44 ?_
        refine lv_iload_n hx hb dX2_addSong_47 rfl (lv_at hl 1 rfl) ?_
        refine miV (As := [.int p0]) (q0 := 16) (ci := 1) hx hb hml hown hts (c_X1_appendSong l D cI cZ cL cO a n pl nw ns σ κ H p0 (A_ a 24) (hA.A_ (by decide)) (hB) (by omega)) (cwV 1 hts gX2_addSong_X1_appendSong rfl rfl rfl (by decide +kernel) ⟨by decide, by decide⟩) hK hE (hP.sub (ws' := wP cI cZ a n pl nw ns σ κ) i24 rfl) rfl rfl rfl rfl hl.1 rfl (Nat.le_of_ble_eq_true rfl) hS (ak_of (hA.M (by decide))) dX2_addSong_48 ⟨Nat.zero_le _, Nat.zero_le _⟩ (fun G locs hP1 _ hk1 hS => ?_)
        replace hP := jnX hA hP hP1 hk1
        replace hP : va_P D vwCl (wX cI cZ a n pl nw (ns + 1) (up2 σ 6 ns p0) κ σ' κ') G := hP
        have hk9 : kSong ns p0 = 0 := by have zn := nI_toInt (n := n) (by omega); have zw := nI_toInt (n := nw) (by omega); have zs := nI_toInt (n := ns) (by omega); (try simp only [kSong, isI, has, noneOr, Bool.and_eq_true, Bool.or_eq_true, decide_eq_true_eq, decide_eq_false_iff_not, Bool.not_eq_true, Bool.and_eq_false_iff, Int32.lt_iff_toInt_lt, Int32.le_iff_toInt_le, eq_tI, tI_0, tI_m1, zn, zw, zs, (show (nI 0).toInt = 0 from by decide), (show (nI 1).toInt = 1 from by decide), (show (nI 6).toInt = 6 from by decide), (show (nI 9).toInt = 9 from by decide)] at c1 c2 c3 ⊢); first | omega | (split <;> first | omega | (split <;> first | omega | (split <;> omega)))
        refine li_topi (show nI ns = vSong ns p0 from by unfold vSong; rw [hk9]; first | rfl | (rw [if_pos rfl]; repeat rw [nN_nI (by omega)])) ?_
        have hw9 : up2 σ 6 ns p0 = sSong ns σ p0 := by unfold sSong; rw [hk9]; first | rfl | (rw [if_pos rfl]; repeat rw [nN_nI (by omega)])
        have hP : va_P D vwCl (wX cI cZ a n pl nw (ns + 1) (sSong ns σ p0) κ σ' κ') G := Eq.mp (congrArg (fun z9 => va_P D vwCl (wX cI cZ a n pl nw (ns + 1) z9 κ σ' κ') G) hw9) hP
        clear hw9
        have hw9 : ns + 1 = nSong ns p0 := by unfold nSong; rw [hk9]; first | rfl | (rw [if_pos rfl]; repeat rw [nN_nI (by omega)])
        have hP : va_P D vwCl (wX cI cZ a n pl nw (nSong ns p0) (sSong ns σ p0) κ σ' κ') G := Eq.mp (congrArg (fun z9 => va_P D vwCl (wX cI cZ a n pl nw z9 (sSong ns σ p0) κ σ' κ') G) hw9) hP
        clear hw9
        exact hEnd 51 ls G locs (κ, σ', κ') hk9 dX2_addSong_51 hP hS
      · skip
        have hk9 : kSong ns p0 = 2 := by have zn := nI_toInt (n := n) (by omega); have zw := nI_toInt (n := nw) (by omega); have zs := nI_toInt (n := ns) (by omega); (try simp only [kSong, isI, has, noneOr, Bool.and_eq_true, Bool.or_eq_true, decide_eq_true_eq, decide_eq_false_iff_not, Bool.not_eq_true, Bool.and_eq_false_iff, Int32.lt_iff_toInt_lt, Int32.le_iff_toInt_le, eq_tI, tI_0, tI_m1, zn, zw, zs, (show (nI 0).toInt = 0 from by decide), (show (nI 1).toInt = 1 from by decide), (show (nI 6).toInt = 6 from by decide), (show (nI 9).toInt = 9 from by decide)] at c1 c2 c3 ⊢); first | omega | (split <;> first | omega | (split <;> first | omega | (split <;> omega)))
        exact hThr 33 ls H locs eS "there are 6 songs" 42 110 46 (by rw [hk9]; decide) (by rw [hk9]; rfl) xt_S g4 g5 (fun w h => hts w (List.mem_cons_of_mem _ (List.mem_append_right _ (h)))) (by decide) hl.1 dX2_addSong_33 dX2_addSong_36 dX2_addSong_37 dX2_addSong_39 dX2_addSong_42 hP hS
    · skip
      have hk9 : kSong ns p0 = 1 := by have zn := nI_toInt (n := n) (by omega); have zw := nI_toInt (n := nw) (by omega); have zs := nI_toInt (n := ns) (by omega); (try simp only [kSong, isI, has, noneOr, Bool.and_eq_true, Bool.or_eq_true, decide_eq_true_eq, decide_eq_false_iff_not, Bool.not_eq_true, Bool.and_eq_false_iff, Int32.lt_iff_toInt_lt, Int32.le_iff_toInt_le, eq_tI, tI_0, tI_m1, zn, zw, zs, (show (nI 0).toInt = 0 from by decide), (show (nI 1).toInt = 1 from by decide), (show (nI 6).toInt = 6 from by decide), (show (nI 9).toInt = 9 from by decide)] at c1 c2 ⊢); first | omega | (split <;> first | omega | (split <;> first | omega | (split <;> omega)))
      exact hThr 11 ls H locs eA "length is not 1 to 9" 28 105 32 (by rw [hk9]; decide) (by rw [hk9]; rfl) xt_A g0 g1 (fun w h => hts w (List.mem_cons_of_mem _ (List.mem_append_left _ (List.mem_append_right _ (h))))) (by decide) hl.1 dX2_addSong_11 dX2_addSong_14 dX2_addSong_15 dX2_addSong_17 dX2_addSong_20 hP hS
set_option maxHeartbeats 4000000 in
set_option maxRecDepth 100000 in
theorem c_X2_teach (l : Launch) (D : va_G) (cI cZ cL cO : ClassId) (a : Nat → Nat) (n pl nw ns : Nat) (σ κ σ' κ' : Sg) (H : Heap) (p0 : Int32) (p1 : Int32) (p2 : Int32) (A : Nat → Prop) (hA : okP A a 41) (hB : n ≤ 10 ∧ pl ≤ 200 ∧ nw ≤ 20 ∧ ns ≤ 6) (hK0 : (kTeach nw ns p0 p1 p2) = 0) : Met l yX2_teach wsX2_teach ({ frames := 6, cells := 0, slots := 0, locals := 82 } : Room) (ro_P D (T4 cI cZ cL cO) (wX cI cZ a n pl nw ns σ κ σ' κ') H [.ref (a 40), .int p0, .int p1, .int p2]) (ay_Q D (vTeach nw ns σ p0 p1 p2) (fun u : S3 => wX cI cZ a n pl nw ns (sTeach nw ns σ p0 p1 p2) u.1 u.2.1 u.2.2) A) 0 0 A := by
  refine ay_of (K := (kTeach nw ns p0 p1 p2)) (nm := (nmK [eI, eA])) (cc := cX2_teach) (maxL := 6) hK0 (by decide) rfl rfl (Nat.le_of_ble_eq_true rfl) ?_
  intro p e s m args below meth c Q ls locs hx hb hml hown hts hK hE hP hl hS hEnd hThr
  have hl : lv_has ls 6 [(0, .ref (a 40)), (1, .int p0), (2, .int p1), (3, .int p2)] := hl
  have hX0 : ∀ w ∈ wsX00, w.before args s = true := fun w h => hts w (List.mem_cons_of_mem _ (List.mem_append_left _ (List.mem_append_left _ (List.mem_append_left _ (List.mem_append_right _ (h))))))
  have hX2 : ∀ w ∈ wsX20, w.before args s = true := fun w h => hts w (List.mem_cons_of_mem _ (List.mem_append_left _ (List.mem_append_left _ (List.mem_append_left _ (List.mem_append_left _ (List.mem_append_right _ (h)))))))
  have f10 : (Cond.fieldLink RX2 10 "LanternWalk" "setting" "LLanternWalk$Setting;").before args s = true := hts _ (List.mem_of_getElem? (i := 5) rfl)
  have g1 : (Cond.classLink RX2 55 "java/lang/IndexOutOfBoundsException").before args s = true := hts _ (List.mem_of_getElem? (i := 1) rfl)
  have g2 : (Cond.initialized "java/lang/IndexOutOfBoundsException").before args s = true := hts _ (List.mem_of_getElem? (i := 2) rfl)
  have g3 : (Cond.classLink RX2 28 "java/lang/IllegalArgumentException").before args s = true := hts _ (List.mem_of_getElem? (i := 3) rfl)
  have g4 : (Cond.initialized "java/lang/IllegalArgumentException").before args s = true := hts _ (List.mem_of_getElem? (i := 4) rfl)
  have f21 : (Cond.fieldLink RX2 21 "LanternWalk" "now" "LLanternWalk$Parade;").before args s = true := hts _ (List.mem_of_getElem? (i := 6) rfl)
  have f126 : (Cond.fieldLink RX2 126 "LanternWalk$Parade" "known" "[I").before args s = true := hts _ (List.mem_of_getElem? (i := 7) rfl)
  refine lv_aload_n hx hb dX2_teach_0 rfl (lv_at hl 0 rfl) ?_
  refine li_gf2 hx hb hX2 hown hK hP 40 rfl 0 (by decide) f10 rfl dX2_teach_1 ?_
  refine lv_iload_n hx hb dX2_teach_4 rfl (lv_at hl 1 rfl) ?_
  refine roV (As := [.int p0]) (q0 := 16) (ci := 1) hx hb hml hown hts (c_X1_hasWalker l D cI cZ cL cO a n pl nw ns σ κ H p0 (hB)) (cwV 1 hts gX2_teach_X1_hasWalker rfl rfl rfl (by decide +kernel) ⟨by decide, by decide⟩) hK hE (hP.sub (ws' := wP cI cZ a n pl nw ns σ κ) i24 rfl) rfl rfl rfl rfl hl.1 rfl (Nat.le_of_ble_eq_true rfl) hS dX2_teach_5 ⟨Nat.zero_le _, Nat.zero_le _⟩ (fun locs hS => ?_)
  refine li_zeq (tgt := 22) hx hb dX2_teach_8 (by decide) (fun c1 => ?_) (fun c1 => ?_)
  · skip
    have hk9 : kTeach nw ns p0 p1 p2 = 1 := by have zn := nI_toInt (n := n) (by omega); have zw := nI_toInt (n := nw) (by omega); have zs := nI_toInt (n := ns) (by omega); (try simp only [kTeach, isI, has, noneOr, Bool.and_eq_true, Bool.or_eq_true, decide_eq_true_eq, decide_eq_false_iff_not, Bool.not_eq_true, Bool.and_eq_false_iff, Int32.lt_iff_toInt_lt, Int32.le_iff_toInt_le, eq_tI, tI_0, tI_m1, zn, zw, zs, (show (nI 0).toInt = 0 from by decide), (show (nI 1).toInt = 1 from by decide), (show (nI 99).toInt = 99 from by decide)] at c1 ⊢); first | omega | (split <;> first | omega | (split <;> first | omega | (split <;> omega)))
    exact hThr 22 ls H locs eI "no such walker or song" 55 119 59 (by rw [hk9]; decide) (by rw [hk9]; rfl) xt_I g1 g2 (fun w h => hts w (List.mem_cons_of_mem _ (List.mem_append_left _ (List.mem_append_right _ (h))))) (by decide) hl.1 dX2_teach_22 dX2_teach_25 dX2_teach_26 dX2_teach_28 dX2_teach_31 hP hS
  · skip
    obtain ⟨jp0, hhjp0, rfl⟩ := has_nat (by omega) c1
    refine lv_aload_n hx hb dX2_teach_11 rfl (lv_at hl 0 rfl) ?_
    refine li_gf2 hx hb hX2 hown hK hP 40 rfl 0 (by decide) f10 rfl dX2_teach_12 ?_
    refine lv_iload_n hx hb dX2_teach_15 rfl (lv_at hl 2 rfl) ?_
    refine roV (As := [.int p1]) (q0 := 16) (ci := 1) hx hb hml hown hts (c_X1_hasSong l D cI cZ cL cO a n pl nw ns σ κ H p1 (hB)) (cwV 1 hts gX2_teach_X1_hasSong rfl rfl rfl (by decide +kernel) ⟨by decide, by decide⟩) hK hE (hP.sub (ws' := wP cI cZ a n pl nw ns σ κ) i24 rfl) rfl rfl rfl rfl hl.1 rfl (Nat.le_of_ble_eq_true rfl) hS dX2_teach_16 ⟨Nat.zero_le _, Nat.zero_le _⟩ (fun locs hS => ?_)
    refine li_zne (tgt := 32) hx hb dX2_teach_19 (by decide) (fun c2 => ?_) (fun c2 => ?_)
    · skip
      obtain ⟨jp1, hhjp1, rfl⟩ := has_nat (by omega) c2
      refine lv_iload_n hx hb dX2_teach_32 rfl (lv_at hl 3 rfl) ?_
      refine lv_if_lt (tgt := 42) hx hb dX2_teach_33 (by decide) (fun c3 => ?_) (fun c3 => ?_)
      · skip
        have hk9 : kTeach nw ns (nI jp0) (nI jp1) p2 = 2 := by have zn := nI_toInt (n := n) (by omega); have zw := nI_toInt (n := nw) (by omega); have zs := nI_toInt (n := ns) (by omega); have zjp0 := nI_toInt (n := jp0) (by omega); have zjp1 := nI_toInt (n := jp1) (by omega); (try simp only [kTeach, isI, has, noneOr, Bool.and_eq_true, Bool.or_eq_true, decide_eq_true_eq, decide_eq_false_iff_not, Bool.not_eq_true, Bool.and_eq_false_iff, Int32.lt_iff_toInt_lt, Int32.le_iff_toInt_le, eq_tI, tI_0, tI_m1, zn, zw, zs, zjp0, zjp1, (show (nI 0).toInt = 0 from by decide), (show (nI 1).toInt = 1 from by decide), (show (nI 99).toInt = 99 from by decide), nN_nI (show jp0 < 2 ^ 31 by omega), nN_nI (show jp1 < 2 ^ 31 by omega)] at c1 c2 c3 ⊢); first | omega | (split <;> first | omega | (split <;> first | omega | (split <;> omega)))
        exact hThr 42 ls H locs eA "version is not 0 to 99" 28 121 32 (by rw [hk9]; decide) (by rw [hk9]; rfl) xt_A g3 g4 (fun w h => hts w (List.mem_cons_of_mem _ (List.mem_append_right _ (h)))) (by decide) hl.1 dX2_teach_42 dX2_teach_45 dX2_teach_46 dX2_teach_48 dX2_teach_51 hP hS
      · skip
        refine lv_iload_n hx hb dX2_teach_36 rfl (lv_at hl 3 rfl) ?_
        refine lv_bipush (v := nI 99) hx hb dX2_teach_37 rfl ?_
        refine lv_icmp_le (tgt := 52) hx hb dX2_teach_39 (by decide) (fun c4 => ?_) (fun c4 => ?_)
        · skip
          refine lv_iload_n hx hb dX2_teach_52 rfl (lv_at hl 1 rfl) ?_
          refine lv_iload_n hx hb dX2_teach_53 rfl (lv_at hl 2 rfl) ?_
          refine roS (As := [.int (nI jp0), .int (nI jp1)]) hx hb hml hown hts (c_X2_cellOf l D cI cZ cL cO a n pl nw ns σ κ H jp0 jp1 hB) (cwS 2 hts gX2_teach_X2_cellOf rfl rfl rfl (by decide +kernel) ⟨by decide, by decide⟩) hK hE (hP.sub (ws' := wP cI cZ a n pl nw ns σ κ) i24 rfl) rfl hl.1 rfl (Nat.le_of_ble_eq_true rfl) hS dX2_teach_54 ⟨Nat.zero_le _, Nat.zero_le _⟩ (fun locs hS => ?_)
          refine lv_istore (lv' := [(4, .int (nI (6 * jp0 + jp1))), (0, .ref (a 40)), (1, .int (nI jp0)), (2, .int (nI jp1)), (3, .int p2)]) hx hb dX2_teach_57 hl (by decide) rfl (fun ls hl => ?_)
          refine lv_aload_n hx hb dX2_teach_59 rfl (lv_at hl 1 rfl) ?_
          refine li_gf2 hx hb hX2 hown hK hP 40 rfl 1 (by decide) f21 rfl dX2_teach_60 ?_
          refine li_gf0 hx hb hX0 hown hK hP 0 rfl 11 (by decide) f126 rfl dX2_teach_63 ?_
          refine lv_iload hx hb dX2_teach_66 (lv_at hl 0 rfl) ?_
          refine li_ild hx hb hK hP 10 0 rfl rfl (by omega) (by decide) dX2_teach_68 ?_
          refine lv_istore (lv' := [(5, .int (σ 16 (6 * jp0 + jp1))), (4, .int (nI (6 * jp0 + jp1))), (0, .ref (a 40)), (1, .int (nI jp0)), (2, .int (nI jp1)), (3, .int p2)]) hx hb dX2_teach_69 hl (by decide) rfl (fun ls hl => ?_)
          refine lv_aload_n hx hb dX2_teach_71 rfl (lv_at hl 2 rfl) ?_
          refine li_gf2 hx hb hX2 hown hK hP 40 rfl 1 (by decide) f21 rfl dX2_teach_72 ?_
          refine li_gf0 hx hb hX0 hown hK hP 0 rfl 11 (by decide) f126 rfl dX2_teach_75 ?_
          refine lv_iload hx hb dX2_teach_78 (lv_at hl 1 rfl) ?_
          refine lv_iload_n hx hb dX2_teach_80 rfl (lv_at hl 5 rfl) ?_
          refine li_ist hx hb hK hP hA.DX41 hS 10 0 rfl rfl (by omega) (by decide) stX_16 dX2_teach_81 (fun G locs hP hS => ?_)
          refine lv_iload hx hb dX2_teach_82 (lv_at hl 0 rfl) ?_
          have hk9 : kTeach nw ns (nI jp0) (nI jp1) p2 = 0 := by have zn := nI_toInt (n := n) (by omega); have zw := nI_toInt (n := nw) (by omega); have zs := nI_toInt (n := ns) (by omega); have zjp0 := nI_toInt (n := jp0) (by omega); have zjp1 := nI_toInt (n := jp1) (by omega); (try simp only [kTeach, isI, has, noneOr, Bool.and_eq_true, Bool.or_eq_true, decide_eq_true_eq, decide_eq_false_iff_not, Bool.not_eq_true, Bool.and_eq_false_iff, Int32.lt_iff_toInt_lt, Int32.le_iff_toInt_le, eq_tI, tI_0, tI_m1, zn, zw, zs, zjp0, zjp1, (show (nI 0).toInt = 0 from by decide), (show (nI 1).toInt = 1 from by decide), (show (nI 99).toInt = 99 from by decide), nN_nI (show jp0 < 2 ^ 31 by omega), nN_nI (show jp1 < 2 ^ 31 by omega)] at c1 c2 c3 c4 ⊢); first | omega | (split <;> first | omega | (split <;> first | omega | (split <;> omega)))
          refine li_topi (show σ 16 (6 * jp0 + jp1) = vTeach nw ns σ (nI jp0) (nI jp1) p2 from by unfold vTeach; rw [hk9]; first | rfl | (rw [if_pos rfl]; repeat rw [nN_nI (by omega)])) ?_
          have hw9 : up2 σ 16 (6 * jp0 + jp1) p2 = sTeach nw ns σ (nI jp0) (nI jp1) p2 := by unfold sTeach; rw [hk9]; first | rfl | (rw [if_pos rfl]; repeat rw [nN_nI (by omega)])
          have hP : va_P D vwCl (wX cI cZ a n pl nw ns (sTeach nw ns σ (nI jp0) (nI jp1) p2) κ σ' κ') G := Eq.mp (congrArg (fun z9 => va_P D vwCl (wX cI cZ a n pl nw ns z9 κ σ' κ') G) hw9) hP
          clear hw9
          exact hEnd 84 ls G locs (κ, σ', κ') hk9 dX2_teach_84 hP hS
        · skip
          have hk9 : kTeach nw ns (nI jp0) (nI jp1) p2 = 2 := by have zn := nI_toInt (n := n) (by omega); have zw := nI_toInt (n := nw) (by omega); have zs := nI_toInt (n := ns) (by omega); have zjp0 := nI_toInt (n := jp0) (by omega); have zjp1 := nI_toInt (n := jp1) (by omega); (try simp only [kTeach, isI, has, noneOr, Bool.and_eq_true, Bool.or_eq_true, decide_eq_true_eq, decide_eq_false_iff_not, Bool.not_eq_true, Bool.and_eq_false_iff, Int32.lt_iff_toInt_lt, Int32.le_iff_toInt_le, eq_tI, tI_0, tI_m1, zn, zw, zs, zjp0, zjp1, (show (nI 0).toInt = 0 from by decide), (show (nI 1).toInt = 1 from by decide), (show (nI 99).toInt = 99 from by decide), nN_nI (show jp0 < 2 ^ 31 by omega), nN_nI (show jp1 < 2 ^ 31 by omega)] at c1 c2 c3 c4 ⊢); first | omega | (split <;> first | omega | (split <;> first | omega | (split <;> omega)))
          exact hThr 42 ls H locs eA "version is not 0 to 99" 28 121 32 (by rw [hk9]; decide) (by rw [hk9]; rfl) xt_A g3 g4 (fun w h => hts w (List.mem_cons_of_mem _ (List.mem_append_right _ (h)))) (by decide) hl.1 dX2_teach_42 dX2_teach_45 dX2_teach_46 dX2_teach_48 dX2_teach_51 hP hS
    · skip
      have hk9 : kTeach nw ns (nI jp0) p1 p2 = 1 := by have zn := nI_toInt (n := n) (by omega); have zw := nI_toInt (n := nw) (by omega); have zs := nI_toInt (n := ns) (by omega); have zjp0 := nI_toInt (n := jp0) (by omega); (try simp only [kTeach, isI, has, noneOr, Bool.and_eq_true, Bool.or_eq_true, decide_eq_true_eq, decide_eq_false_iff_not, Bool.not_eq_true, Bool.and_eq_false_iff, Int32.lt_iff_toInt_lt, Int32.le_iff_toInt_le, eq_tI, tI_0, tI_m1, zn, zw, zs, zjp0, (show (nI 0).toInt = 0 from by decide), (show (nI 1).toInt = 1 from by decide), (show (nI 99).toInt = 99 from by decide), nN_nI (show jp0 < 2 ^ 31 by omega)] at c1 c2 ⊢); first | omega | (split <;> first | omega | (split <;> first | omega | (split <;> omega)))
      exact hThr 22 ls H locs eI "no such walker or song" 55 119 59 (by rw [hk9]; decide) (by rw [hk9]; rfl) xt_I g1 g2 (fun w h => hts w (List.mem_cons_of_mem _ (List.mem_append_left _ (List.mem_append_right _ (h))))) (by decide) hl.1 dX2_teach_22 dX2_teach_25 dX2_teach_26 dX2_teach_28 dX2_teach_31 hP hS
set_option maxHeartbeats 4000000 in
set_option maxRecDepth 100000 in
theorem c_X2_stretch (l : Launch) (D : va_G) (cI cZ cL cO : ClassId) (a : Nat → Nat) (n pl nw ns : Nat) (σ κ σ' κ' : Sg) (H : Heap) (p0 : Int32) (p1 : Int32) (A : Nat → Prop) (hA : okP A a 41) (hB : n ≤ 10 ∧ pl ≤ 200 ∧ nw ≤ 20 ∧ ns ≤ 6) (hK0 : (kTwo n 5 p0 p1) = 0) : Met l yX2_stretch wsX2_stretch ({ frames := 6, cells := 0, slots := 0, locals := 82 } : Room) (ro_P D (T4 cI cZ cL cO) (wX cI cZ a n pl nw ns σ κ σ' κ') H [.ref (a 40), .int p0, .int p1]) (ay_Q D (ifk (kTwo n 5 p0 p1) (stT n nw σ (nN p0) (nN p1))) (fun u : S3 => wX cI cZ a n pl nw ns σ u.1 u.2.1 u.2.2) A) 0 0 A := by
  refine ay_of (K := (kTwo n 5 p0 p1)) (nm := (nmK [eI])) (cc := cX2_stretch) (maxL := 3) hK0 (by decide) rfl rfl (Nat.le_of_ble_eq_true rfl) ?_
  intro p e s m args below meth c Q ls locs hx hb hml hown hts hK hE hP hl hS hEnd hThr
  have hl : lv_has ls 3 [(0, .ref (a 40)), (1, .int p0), (2, .int p1)] := hl
  have hX2 : ∀ w ∈ wsX20, w.before args s = true := fun w h => hts w (List.mem_cons_of_mem _ (List.mem_append_left _ (List.mem_append_left _ (List.mem_append_left _ (List.mem_append_right _ (h))))))
  have f10 : (Cond.fieldLink RX2 10 "LanternWalk" "setting" "LLanternWalk$Setting;").before args s = true := hts _ (List.mem_of_getElem? (i := 3) rfl)
  have g1 : (Cond.classLink RX2 55 "java/lang/IndexOutOfBoundsException").before args s = true := hts _ (List.mem_of_getElem? (i := 1) rfl)
  have g2 : (Cond.initialized "java/lang/IndexOutOfBoundsException").before args s = true := hts _ (List.mem_of_getElem? (i := 2) rfl)
  refine lv_aload_n hx hb dX2_stretch_0 rfl (lv_at hl 0 rfl) ?_
  refine li_gf2 hx hb hX2 hown hK hP 40 rfl 0 (by decide) f10 rfl dX2_stretch_1 ?_
  refine lv_iload_n hx hb dX2_stretch_4 rfl (lv_at hl 1 rfl) ?_
  refine roV (As := [.int p0]) (q0 := 16) (ci := 1) hx hb hml hown hts (c_X1_hasStretch l D cI cZ cL cO a n pl nw ns σ κ H p0 (hB)) (cwV 1 hts gX2_stretch_X1_hasStretch rfl rfl rfl (by decide +kernel) ⟨by decide, by decide⟩) hK hE (hP.sub (ws' := wP cI cZ a n pl nw ns σ κ) i24 rfl) rfl rfl rfl rfl hl.1 rfl (Nat.le_of_ble_eq_true rfl) hS dX2_stretch_5 ⟨Nat.zero_le _, Nat.zero_le _⟩ (fun locs hS => ?_)
  refine li_zeq (tgt := 21) hx hb dX2_stretch_8 (by decide) (fun c1 => ?_) (fun c1 => ?_)
  · skip
    have hk9 : kTwo n 5 p0 p1 = 1 := by have zn := nI_toInt (n := n) (by omega); have zw := nI_toInt (n := nw) (by omega); have zs := nI_toInt (n := ns) (by omega); (try simp only [kTwo, isI, has, noneOr, Bool.and_eq_true, Bool.or_eq_true, decide_eq_true_eq, decide_eq_false_iff_not, Bool.not_eq_true, Bool.and_eq_false_iff, Int32.lt_iff_toInt_lt, Int32.le_iff_toInt_le, eq_tI, tI_0, tI_m1, zn, zw, zs, (show (nI 0).toInt = 0 from by decide), (show (nI 1).toInt = 1 from by decide), (show (nI 5).toInt = 5 from by decide), (show (nI 6).toInt = 6 from by decide)] at c1 ⊢); first | omega | (split <;> first | omega | (split <;> first | omega | (split <;> omega)))
    exact hThr 21 ls H locs eI "no such stretch, or what is not 0 to 5" 55 129 59 (by rw [hk9]; decide) (by rw [hk9]; rfl) xt_I g1 g2 (fun w h => hts w (List.mem_cons_of_mem _ (List.mem_append_right _ (h)))) (by decide) hl.1 dX2_stretch_21 dX2_stretch_24 dX2_stretch_25 dX2_stretch_27 dX2_stretch_30 hP hS
  · skip
    obtain ⟨jp0, hhjp0, rfl⟩ := has_nat (by omega) c1
    refine lv_iload_n hx hb dX2_stretch_11 rfl (lv_at hl 2 rfl) ?_
    refine lv_if_lt (tgt := 21) hx hb dX2_stretch_12 (by decide) (fun c2 => ?_) (fun c2 => ?_)
    · skip
      have hk9 : kTwo n 5 (nI jp0) p1 = 1 := by have zn := nI_toInt (n := n) (by omega); have zw := nI_toInt (n := nw) (by omega); have zs := nI_toInt (n := ns) (by omega); have zjp0 := nI_toInt (n := jp0) (by omega); (try simp only [kTwo, isI, has, noneOr, Bool.and_eq_true, Bool.or_eq_true, decide_eq_true_eq, decide_eq_false_iff_not, Bool.not_eq_true, Bool.and_eq_false_iff, Int32.lt_iff_toInt_lt, Int32.le_iff_toInt_le, eq_tI, tI_0, tI_m1, zn, zw, zs, zjp0, (show (nI 0).toInt = 0 from by decide), (show (nI 1).toInt = 1 from by decide), (show (nI 5).toInt = 5 from by decide), (show (nI 6).toInt = 6 from by decide), nN_nI (show jp0 < 2 ^ 31 by omega)] at c1 c2 ⊢); first | omega | (split <;> first | omega | (split <;> first | omega | (split <;> omega)))
      exact hThr 21 ls H locs eI "no such stretch, or what is not 0 to 5" 55 129 59 (by rw [hk9]; decide) (by rw [hk9]; rfl) xt_I g1 g2 (fun w h => hts w (List.mem_cons_of_mem _ (List.mem_append_right _ (h)))) (by decide) hl.1 dX2_stretch_21 dX2_stretch_24 dX2_stretch_25 dX2_stretch_27 dX2_stretch_30 hP hS
    · skip
      refine lv_iload_n hx hb dX2_stretch_15 rfl (lv_at hl 2 rfl) ?_
      refine lv_bipush (v := nI 6) hx hb dX2_stretch_16 rfl ?_
      refine lv_icmp_lt (tgt := 31) hx hb dX2_stretch_18 (by decide) (fun c3 => ?_) (fun c3 => ?_)
      · skip
        obtain ⟨jp1, hljp1, hhjp1, rfl⟩ := nat_in (x := p1) (lo := 0) (hi := 5) (by simp only [Int32.lt_iff_toInt_lt, Int32.le_iff_toInt_le, tI_0, (show (nI 0).toInt = 0 from by decide), (show (nI 1).toInt = 1 from by decide), (show (nI 5).toInt = 5 from by decide), (show (nI 6).toInt = 6 from by decide)] at c2 c3; omega) (by decide)
        refine lv_aload_n hx hb dX2_stretch_31 rfl (lv_at hl 0 rfl) ?_
        refine lv_iload_n hx hb dX2_stretch_32 rfl (lv_at hl 1 rfl) ?_
        refine lv_iload_n hx hb dX2_stretch_33 rfl (lv_at hl 2 rfl) ?_
        refine roV (As := [.int (nI jp0), .int (nI jp1)]) (q0 := 40) (ci := 2) hx hb hml hown hts (c_X2_tellOfStretch l D cI cZ cL cO a n pl nw ns σ κ σ' κ' H jp0 jp1 (hB) (by omega) (by omega)) (cwV 2 hts gX2_stretch_X2_tellOfStretch rfl rfl rfl (by decide +kernel) ⟨by decide, by decide⟩) hK hE hP rfl rfl rfl rfl hl.1 rfl (Nat.le_of_ble_eq_true rfl) hS dX2_stretch_34 ⟨Nat.zero_le _, Nat.zero_le _⟩ (fun locs hS => ?_)
        have hk9 : kTwo n 5 (nI jp0) (nI jp1) = 0 := by have zn := nI_toInt (n := n) (by omega); have zw := nI_toInt (n := nw) (by omega); have zs := nI_toInt (n := ns) (by omega); have zjp0 := nI_toInt (n := jp0) (by omega); have zjp1 := nI_toInt (n := jp1) (by omega); (try simp only [kTwo, isI, has, noneOr, Bool.and_eq_true, Bool.or_eq_true, decide_eq_true_eq, decide_eq_false_iff_not, Bool.not_eq_true, Bool.and_eq_false_iff, Int32.lt_iff_toInt_lt, Int32.le_iff_toInt_le, eq_tI, tI_0, tI_m1, zn, zw, zs, zjp0, zjp1, (show (nI 0).toInt = 0 from by decide), (show (nI 1).toInt = 1 from by decide), (show (nI 5).toInt = 5 from by decide), (show (nI 6).toInt = 6 from by decide), nN_nI (show jp0 < 2 ^ 31 by omega), nN_nI (show jp1 < 2 ^ 31 by omega)] at c1 c2 c3 ⊢); first | omega | (split <;> first | omega | (split <;> first | omega | (split <;> omega)))
        refine li_topi (show stT n nw σ jp0 jp1 = ifk (kTwo n 5 (nI jp0) (nI jp1)) (stT n nw σ (nN (nI jp0)) (nN (nI jp1))) from by rw [hk9]; first | rfl | (rw [ifk_0 rfl]; (repeat rw [nN_nI (by omega)]); (try rfl))) ?_
        exact hEnd 37 ls H locs (κ, σ', κ') hk9 dX2_stretch_37 hP hS
      · skip
        have hk9 : kTwo n 5 (nI jp0) p1 = 1 := by have zn := nI_toInt (n := n) (by omega); have zw := nI_toInt (n := nw) (by omega); have zs := nI_toInt (n := ns) (by omega); have zjp0 := nI_toInt (n := jp0) (by omega); (try simp only [kTwo, isI, has, noneOr, Bool.and_eq_true, Bool.or_eq_true, decide_eq_true_eq, decide_eq_false_iff_not, Bool.not_eq_true, Bool.and_eq_false_iff, Int32.lt_iff_toInt_lt, Int32.le_iff_toInt_le, eq_tI, tI_0, tI_m1, zn, zw, zs, zjp0, (show (nI 0).toInt = 0 from by decide), (show (nI 1).toInt = 1 from by decide), (show (nI 5).toInt = 5 from by decide), (show (nI 6).toInt = 6 from by decide), nN_nI (show jp0 < 2 ^ 31 by omega)] at c1 c2 c3 ⊢); first | omega | (split <;> first | omega | (split <;> first | omega | (split <;> omega)))
        exact hThr 21 ls H locs eI "no such stretch, or what is not 0 to 5" 55 129 59 (by rw [hk9]; decide) (by rw [hk9]; rfl) xt_I g1 g2 (fun w h => hts w (List.mem_cons_of_mem _ (List.mem_append_right _ (h)))) (by decide) hl.1 dX2_stretch_21 dX2_stretch_24 dX2_stretch_25 dX2_stretch_27 dX2_stretch_30 hP hS
set_option maxHeartbeats 4000000 in
set_option maxRecDepth 100000 in
theorem c_X2_walker (l : Launch) (D : va_G) (cI cZ cL cO : ClassId) (a : Nat → Nat) (n pl nw ns : Nat) (σ κ σ' κ' : Sg) (H : Heap) (p0 : Int32) (p1 : Int32) (A : Nat → Prop) (hA : okP A a 41) (hB : n ≤ 10 ∧ pl ≤ 200 ∧ nw ≤ 20 ∧ ns ≤ 6) (hz : bz σ) (hK0 : (kTwo nw 8 p0 p1) = 0) : Met l yX2_walker wsX2_walker ({ frames := 6, cells := 0, slots := 0, locals := 82 } : Room) (ro_P D (T4 cI cZ cL cO) (wX cI cZ a n pl nw ns σ κ σ' κ') H [.ref (a 40), .int p0, .int p1]) (ay_Q D (ifk (kTwo nw 8 p0 p1) (waT nw σ (nN p0) (nN p1))) (fun u : S3 => wX cI cZ a n pl nw ns σ u.1 u.2.1 u.2.2) A) 0 0 A := by
  refine ay_of (K := (kTwo nw 8 p0 p1)) (nm := (nmK [eI])) (cc := cX2_walker) (maxL := 3) hK0 (by decide) rfl rfl (Nat.le_of_ble_eq_true rfl) ?_
  intro p e s m args below meth c Q ls locs hx hb hml hown hts hK hE hP hl hS hEnd hThr
  have hl : lv_has ls 3 [(0, .ref (a 40)), (1, .int p0), (2, .int p1)] := hl
  have hX2 : ∀ w ∈ wsX20, w.before args s = true := fun w h => hts w (List.mem_cons_of_mem _ (List.mem_append_left _ (List.mem_append_left _ (List.mem_append_left _ (List.mem_append_right _ (h))))))
  have f10 : (Cond.fieldLink RX2 10 "LanternWalk" "setting" "LLanternWalk$Setting;").before args s = true := hts _ (List.mem_of_getElem? (i := 3) rfl)
  have g1 : (Cond.classLink RX2 55 "java/lang/IndexOutOfBoundsException").before args s = true := hts _ (List.mem_of_getElem? (i := 1) rfl)
  have g2 : (Cond.initialized "java/lang/IndexOutOfBoundsException").before args s = true := hts _ (List.mem_of_getElem? (i := 2) rfl)
  refine lv_aload_n hx hb dX2_walker_0 rfl (lv_at hl 0 rfl) ?_
  refine li_gf2 hx hb hX2 hown hK hP 40 rfl 0 (by decide) f10 rfl dX2_walker_1 ?_
  refine lv_iload_n hx hb dX2_walker_4 rfl (lv_at hl 1 rfl) ?_
  refine roV (As := [.int p0]) (q0 := 16) (ci := 1) hx hb hml hown hts (c_X1_hasWalker l D cI cZ cL cO a n pl nw ns σ κ H p0 (hB)) (cwV 1 hts gX2_walker_X1_hasWalker rfl rfl rfl (by decide +kernel) ⟨by decide, by decide⟩) hK hE (hP.sub (ws' := wP cI cZ a n pl nw ns σ κ) i24 rfl) rfl rfl rfl rfl hl.1 rfl (Nat.le_of_ble_eq_true rfl) hS dX2_walker_5 ⟨Nat.zero_le _, Nat.zero_le _⟩ (fun locs hS => ?_)
  refine li_zeq (tgt := 21) hx hb dX2_walker_8 (by decide) (fun c1 => ?_) (fun c1 => ?_)
  · skip
    have hk9 : kTwo nw 8 p0 p1 = 1 := by have zn := nI_toInt (n := n) (by omega); have zw := nI_toInt (n := nw) (by omega); have zs := nI_toInt (n := ns) (by omega); (try simp only [kTwo, isI, has, noneOr, Bool.and_eq_true, Bool.or_eq_true, decide_eq_true_eq, decide_eq_false_iff_not, Bool.not_eq_true, Bool.and_eq_false_iff, Int32.lt_iff_toInt_lt, Int32.le_iff_toInt_le, eq_tI, tI_0, tI_m1, zn, zw, zs, (show (nI 0).toInt = 0 from by decide), (show (nI 1).toInt = 1 from by decide), (show (nI 8).toInt = 8 from by decide), (show (nI 9).toInt = 9 from by decide)] at c1 ⊢); first | omega | (split <;> first | omega | (split <;> first | omega | (split <;> omega)))
    exact hThr 21 ls H locs eI "no such walker, or what is not 0 to 8" 55 134 59 (by rw [hk9]; decide) (by rw [hk9]; rfl) xt_I g1 g2 (fun w h => hts w (List.mem_cons_of_mem _ (List.mem_append_right _ (h)))) (by decide) hl.1 dX2_walker_21 dX2_walker_24 dX2_walker_25 dX2_walker_27 dX2_walker_30 hP hS
  · skip
    obtain ⟨jp0, hhjp0, rfl⟩ := has_nat (by omega) c1
    refine lv_iload_n hx hb dX2_walker_11 rfl (lv_at hl 2 rfl) ?_
    refine lv_if_lt (tgt := 21) hx hb dX2_walker_12 (by decide) (fun c2 => ?_) (fun c2 => ?_)
    · skip
      have hk9 : kTwo nw 8 (nI jp0) p1 = 1 := by have zn := nI_toInt (n := n) (by omega); have zw := nI_toInt (n := nw) (by omega); have zs := nI_toInt (n := ns) (by omega); have zjp0 := nI_toInt (n := jp0) (by omega); (try simp only [kTwo, isI, has, noneOr, Bool.and_eq_true, Bool.or_eq_true, decide_eq_true_eq, decide_eq_false_iff_not, Bool.not_eq_true, Bool.and_eq_false_iff, Int32.lt_iff_toInt_lt, Int32.le_iff_toInt_le, eq_tI, tI_0, tI_m1, zn, zw, zs, zjp0, (show (nI 0).toInt = 0 from by decide), (show (nI 1).toInt = 1 from by decide), (show (nI 8).toInt = 8 from by decide), (show (nI 9).toInt = 9 from by decide), nN_nI (show jp0 < 2 ^ 31 by omega)] at c1 c2 ⊢); first | omega | (split <;> first | omega | (split <;> first | omega | (split <;> omega)))
      exact hThr 21 ls H locs eI "no such walker, or what is not 0 to 8" 55 134 59 (by rw [hk9]; decide) (by rw [hk9]; rfl) xt_I g1 g2 (fun w h => hts w (List.mem_cons_of_mem _ (List.mem_append_right _ (h)))) (by decide) hl.1 dX2_walker_21 dX2_walker_24 dX2_walker_25 dX2_walker_27 dX2_walker_30 hP hS
    · skip
      refine lv_iload_n hx hb dX2_walker_15 rfl (lv_at hl 2 rfl) ?_
      refine lv_bipush (v := nI 9) hx hb dX2_walker_16 rfl ?_
      refine lv_icmp_lt (tgt := 31) hx hb dX2_walker_18 (by decide) (fun c3 => ?_) (fun c3 => ?_)
      · skip
        obtain ⟨jp1, hljp1, hhjp1, rfl⟩ := nat_in (x := p1) (lo := 0) (hi := 8) (by simp only [Int32.lt_iff_toInt_lt, Int32.le_iff_toInt_le, tI_0, (show (nI 0).toInt = 0 from by decide), (show (nI 1).toInt = 1 from by decide), (show (nI 8).toInt = 8 from by decide), (show (nI 9).toInt = 9 from by decide)] at c2 c3; omega) (by decide)
        refine lv_aload_n hx hb dX2_walker_31 rfl (lv_at hl 0 rfl) ?_
        refine lv_iload_n hx hb dX2_walker_32 rfl (lv_at hl 1 rfl) ?_
        refine lv_iload_n hx hb dX2_walker_33 rfl (lv_at hl 2 rfl) ?_
        refine roV (As := [.int (nI jp0), .int (nI jp1)]) (q0 := 40) (ci := 2) hx hb hml hown hts (c_X2_tellOfWalker l D cI cZ cL cO a n pl nw ns σ κ σ' κ' H jp0 jp1 (hB) (by omega) (by omega) (hz)) (cwV 2 hts gX2_walker_X2_tellOfWalker rfl rfl rfl (by decide +kernel) ⟨by decide, by decide⟩) hK hE hP rfl rfl rfl rfl hl.1 rfl (Nat.le_of_ble_eq_true rfl) hS dX2_walker_34 ⟨Nat.zero_le _, Nat.zero_le _⟩ (fun locs hS => ?_)
        have hk9 : kTwo nw 8 (nI jp0) (nI jp1) = 0 := by have zn := nI_toInt (n := n) (by omega); have zw := nI_toInt (n := nw) (by omega); have zs := nI_toInt (n := ns) (by omega); have zjp0 := nI_toInt (n := jp0) (by omega); have zjp1 := nI_toInt (n := jp1) (by omega); (try simp only [kTwo, isI, has, noneOr, Bool.and_eq_true, Bool.or_eq_true, decide_eq_true_eq, decide_eq_false_iff_not, Bool.not_eq_true, Bool.and_eq_false_iff, Int32.lt_iff_toInt_lt, Int32.le_iff_toInt_le, eq_tI, tI_0, tI_m1, zn, zw, zs, zjp0, zjp1, (show (nI 0).toInt = 0 from by decide), (show (nI 1).toInt = 1 from by decide), (show (nI 8).toInt = 8 from by decide), (show (nI 9).toInt = 9 from by decide), nN_nI (show jp0 < 2 ^ 31 by omega), nN_nI (show jp1 < 2 ^ 31 by omega)] at c1 c2 c3 ⊢); first | omega | (split <;> first | omega | (split <;> first | omega | (split <;> omega)))
        refine li_topi (show waT nw σ jp0 jp1 = ifk (kTwo nw 8 (nI jp0) (nI jp1)) (waT nw σ (nN (nI jp0)) (nN (nI jp1))) from by rw [hk9]; first | rfl | (rw [ifk_0 rfl]; (repeat rw [nN_nI (by omega)]); (try rfl))) ?_
        exact hEnd 37 ls H locs (κ, σ', κ') hk9 dX2_walker_37 hP hS
      · skip
        have hk9 : kTwo nw 8 (nI jp0) p1 = 1 := by have zn := nI_toInt (n := n) (by omega); have zw := nI_toInt (n := nw) (by omega); have zs := nI_toInt (n := ns) (by omega); have zjp0 := nI_toInt (n := jp0) (by omega); (try simp only [kTwo, isI, has, noneOr, Bool.and_eq_true, Bool.or_eq_true, decide_eq_true_eq, decide_eq_false_iff_not, Bool.not_eq_true, Bool.and_eq_false_iff, Int32.lt_iff_toInt_lt, Int32.le_iff_toInt_le, eq_tI, tI_0, tI_m1, zn, zw, zs, zjp0, (show (nI 0).toInt = 0 from by decide), (show (nI 1).toInt = 1 from by decide), (show (nI 8).toInt = 8 from by decide), (show (nI 9).toInt = 9 from by decide), nN_nI (show jp0 < 2 ^ 31 by omega)] at c1 c2 c3 ⊢); first | omega | (split <;> first | omega | (split <;> first | omega | (split <;> omega)))
        exact hThr 21 ls H locs eI "no such walker, or what is not 0 to 8" 55 134 59 (by rw [hk9]; decide) (by rw [hk9]; rfl) xt_I g1 g2 (fun w h => hts w (List.mem_cons_of_mem _ (List.mem_append_right _ (h)))) (by decide) hl.1 dX2_walker_21 dX2_walker_24 dX2_walker_25 dX2_walker_27 dX2_walker_30 hP hS
set_option maxHeartbeats 4000000 in
set_option maxRecDepth 100000 in
theorem c_X2_knows (l : Launch) (D : va_G) (cI cZ cL cO : ClassId) (a : Nat → Nat) (n pl nw ns : Nat) (σ κ σ' κ' : Sg) (H : Heap) (p0 : Int32) (p1 : Int32) (A : Nat → Prop) (hA : okP A a 41) (hB : n ≤ 10 ∧ pl ≤ 200 ∧ nw ≤ 20 ∧ ns ≤ 6) (hK0 : (kKnow nw ns p0 p1) = 0) : Met l yX2_knows wsX2_knows ({ frames := 6, cells := 0, slots := 0, locals := 82 } : Room) (ro_P D (T4 cI cZ cL cO) (wX cI cZ a n pl nw ns σ κ σ' κ') H [.ref (a 40), .int p0, .int p1]) (ay_Q D (vKnow nw ns σ p0 p1) (fun u : S3 => wX cI cZ a n pl nw ns σ u.1 u.2.1 u.2.2) A) 0 0 A := by
  refine ay_of (K := (kKnow nw ns p0 p1)) (nm := (nmK [eI])) (cc := cX2_knows) (maxL := 3) hK0 (by decide) rfl rfl (Nat.le_of_ble_eq_true rfl) ?_
  intro p e s m args below meth c Q ls locs hx hb hml hown hts hK hE hP hl hS hEnd hThr
  have hl : lv_has ls 3 [(0, .ref (a 40)), (1, .int p0), (2, .int p1)] := hl
  have hX0 : ∀ w ∈ wsX00, w.before args s = true := fun w h => hts w (List.mem_cons_of_mem _ (List.mem_append_left _ (List.mem_append_left _ (List.mem_append_right _ (h)))))
  have hX2 : ∀ w ∈ wsX20, w.before args s = true := fun w h => hts w (List.mem_cons_of_mem _ (List.mem_append_left _ (List.mem_append_left _ (List.mem_append_left _ (List.mem_append_right _ (h))))))
  have f10 : (Cond.fieldLink RX2 10 "LanternWalk" "setting" "LLanternWalk$Setting;").before args s = true := hts _ (List.mem_of_getElem? (i := 3) rfl)
  have g1 : (Cond.classLink RX2 55 "java/lang/IndexOutOfBoundsException").before args s = true := hts _ (List.mem_of_getElem? (i := 1) rfl)
  have g2 : (Cond.initialized "java/lang/IndexOutOfBoundsException").before args s = true := hts _ (List.mem_of_getElem? (i := 2) rfl)
  have f21 : (Cond.fieldLink RX2 21 "LanternWalk" "now" "LLanternWalk$Parade;").before args s = true := hts _ (List.mem_of_getElem? (i := 4) rfl)
  have f126 : (Cond.fieldLink RX2 126 "LanternWalk$Parade" "known" "[I").before args s = true := hts _ (List.mem_of_getElem? (i := 5) rfl)
  refine lv_aload_n hx hb dX2_knows_0 rfl (lv_at hl 0 rfl) ?_
  refine li_gf2 hx hb hX2 hown hK hP 40 rfl 0 (by decide) f10 rfl dX2_knows_1 ?_
  refine lv_iload_n hx hb dX2_knows_4 rfl (lv_at hl 1 rfl) ?_
  refine roV (As := [.int p0]) (q0 := 16) (ci := 1) hx hb hml hown hts (c_X1_hasWalker l D cI cZ cL cO a n pl nw ns σ κ H p0 (hB)) (cwV 1 hts gX2_knows_X1_hasWalker rfl rfl rfl (by decide +kernel) ⟨by decide, by decide⟩) hK hE (hP.sub (ws' := wP cI cZ a n pl nw ns σ κ) i24 rfl) rfl rfl rfl rfl hl.1 rfl (Nat.le_of_ble_eq_true rfl) hS dX2_knows_5 ⟨Nat.zero_le _, Nat.zero_le _⟩ (fun locs hS => ?_)
  refine li_zeq (tgt := 22) hx hb dX2_knows_8 (by decide) (fun c1 => ?_) (fun c1 => ?_)
  · skip
    have hk9 : kKnow nw ns p0 p1 = 1 := by have zn := nI_toInt (n := n) (by omega); have zw := nI_toInt (n := nw) (by omega); have zs := nI_toInt (n := ns) (by omega); (try simp only [kKnow, isI, has, noneOr, Bool.and_eq_true, Bool.or_eq_true, decide_eq_true_eq, decide_eq_false_iff_not, Bool.not_eq_true, Bool.and_eq_false_iff, Int32.lt_iff_toInt_lt, Int32.le_iff_toInt_le, eq_tI, tI_0, tI_m1, zn, zw, zs, (show (nI 0).toInt = 0 from by decide), (show (nI 1).toInt = 1 from by decide)] at c1 ⊢); first | omega | (split <;> first | omega | (split <;> first | omega | (split <;> omega)))
    exact hThr 22 ls H locs eI "no such walker or song" 55 119 59 (by rw [hk9]; decide) (by rw [hk9]; rfl) xt_I g1 g2 (fun w h => hts w (List.mem_cons_of_mem _ (List.mem_append_right _ (h)))) (by decide) hl.1 dX2_knows_22 dX2_knows_25 dX2_knows_26 dX2_knows_28 dX2_knows_31 hP hS
  · skip
    obtain ⟨jp0, hhjp0, rfl⟩ := has_nat (by omega) c1
    refine lv_aload_n hx hb dX2_knows_11 rfl (lv_at hl 0 rfl) ?_
    refine li_gf2 hx hb hX2 hown hK hP 40 rfl 0 (by decide) f10 rfl dX2_knows_12 ?_
    refine lv_iload_n hx hb dX2_knows_15 rfl (lv_at hl 2 rfl) ?_
    refine roV (As := [.int p1]) (q0 := 16) (ci := 1) hx hb hml hown hts (c_X1_hasSong l D cI cZ cL cO a n pl nw ns σ κ H p1 (hB)) (cwV 1 hts gX2_knows_X1_hasSong rfl rfl rfl (by decide +kernel) ⟨by decide, by decide⟩) hK hE (hP.sub (ws' := wP cI cZ a n pl nw ns σ κ) i24 rfl) rfl rfl rfl rfl hl.1 rfl (Nat.le_of_ble_eq_true rfl) hS dX2_knows_16 ⟨Nat.zero_le _, Nat.zero_le _⟩ (fun locs hS => ?_)
    refine li_zne (tgt := 32) hx hb dX2_knows_19 (by decide) (fun c2 => ?_) (fun c2 => ?_)
    · skip
      obtain ⟨jp1, hhjp1, rfl⟩ := has_nat (by omega) c2
      refine lv_aload_n hx hb dX2_knows_32 rfl (lv_at hl 0 rfl) ?_
      refine li_gf2 hx hb hX2 hown hK hP 40 rfl 1 (by decide) f21 rfl dX2_knows_33 ?_
      refine li_gf0 hx hb hX0 hown hK hP 0 rfl 11 (by decide) f126 rfl dX2_knows_36 ?_
      refine lv_iload_n hx hb dX2_knows_39 rfl (lv_at hl 1 rfl) ?_
      refine lv_iload_n hx hb dX2_knows_40 rfl (lv_at hl 2 rfl) ?_
      refine roS (As := [.int (nI jp0), .int (nI jp1)]) hx hb hml hown hts (c_X2_cellOf l D cI cZ cL cO a n pl nw ns σ κ H jp0 jp1 hB) (cwS 2 hts gX2_knows_X2_cellOf rfl rfl rfl (by decide +kernel) ⟨by decide, by decide⟩) hK hE (hP.sub (ws' := wP cI cZ a n pl nw ns σ κ) i24 rfl) rfl hl.1 rfl (Nat.le_of_ble_eq_true rfl) hS dX2_knows_41 ⟨Nat.zero_le _, Nat.zero_le _⟩ (fun locs hS => ?_)
      refine li_ild hx hb hK hP 10 0 rfl rfl (by omega) (by decide) dX2_knows_44 ?_
      have hk9 : kKnow nw ns (nI jp0) (nI jp1) = 0 := by have zn := nI_toInt (n := n) (by omega); have zw := nI_toInt (n := nw) (by omega); have zs := nI_toInt (n := ns) (by omega); have zjp0 := nI_toInt (n := jp0) (by omega); have zjp1 := nI_toInt (n := jp1) (by omega); (try simp only [kKnow, isI, has, noneOr, Bool.and_eq_true, Bool.or_eq_true, decide_eq_true_eq, decide_eq_false_iff_not, Bool.not_eq_true, Bool.and_eq_false_iff, Int32.lt_iff_toInt_lt, Int32.le_iff_toInt_le, eq_tI, tI_0, tI_m1, zn, zw, zs, zjp0, zjp1, (show (nI 0).toInt = 0 from by decide), (show (nI 1).toInt = 1 from by decide), nN_nI (show jp0 < 2 ^ 31 by omega), nN_nI (show jp1 < 2 ^ 31 by omega)] at c1 c2 ⊢); first | omega | (split <;> first | omega | (split <;> first | omega | (split <;> omega)))
      refine li_topi (show σ 16 (6 * jp0 + jp1) = vKnow nw ns σ (nI jp0) (nI jp1) from by unfold vKnow; rw [hk9]; first | rfl | (rw [if_pos rfl]; repeat rw [nN_nI (by omega)])) ?_
      exact hEnd 45 ls H locs (κ, σ', κ') hk9 dX2_knows_45 hP hS
    · skip
      have hk9 : kKnow nw ns (nI jp0) p1 = 1 := by have zn := nI_toInt (n := n) (by omega); have zw := nI_toInt (n := nw) (by omega); have zs := nI_toInt (n := ns) (by omega); have zjp0 := nI_toInt (n := jp0) (by omega); (try simp only [kKnow, isI, has, noneOr, Bool.and_eq_true, Bool.or_eq_true, decide_eq_true_eq, decide_eq_false_iff_not, Bool.not_eq_true, Bool.and_eq_false_iff, Int32.lt_iff_toInt_lt, Int32.le_iff_toInt_le, eq_tI, tI_0, tI_m1, zn, zw, zs, zjp0, (show (nI 0).toInt = 0 from by decide), (show (nI 1).toInt = 1 from by decide), nN_nI (show jp0 < 2 ^ 31 by omega)] at c1 c2 ⊢); first | omega | (split <;> first | omega | (split <;> first | omega | (split <;> omega)))
      exact hThr 22 ls H locs eI "no such walker or song" 55 119 59 (by rw [hk9]; decide) (by rw [hk9]; rfl) xt_I g1 g2 (fun w h => hts w (List.mem_cons_of_mem _ (List.mem_append_right _ (h)))) (by decide) hl.1 dX2_knows_22 dX2_knows_25 dX2_knows_26 dX2_knows_28 dX2_knows_31 hP hS
set_option maxHeartbeats 4000000 in
set_option maxRecDepth 100000 in
theorem c_X2_song (l : Launch) (D : va_G) (cI cZ cL cO : ClassId) (a : Nat → Nat) (n pl nw ns : Nat) (σ κ σ' κ' : Sg) (H : Heap) (p0 : Int32) (p1 : Int32) (A : Nat → Prop) (hA : okP A a 41) (hB : n ≤ 10 ∧ pl ≤ 200 ∧ nw ≤ 20 ∧ ns ≤ 6) (hK0 : (kTwo ns 3 p0 p1) = 0) : Met l yX2_song wsX2_song ({ frames := 6, cells := 0, slots := 0, locals := 82 } : Room) (ro_P D (T4 cI cZ cL cO) (wX cI cZ a n pl nw ns σ κ σ' κ') H [.ref (a 40), .int p0, .int p1]) (ay_Q D (ifk (kTwo ns 3 p0 p1) (soT nw σ (nN p0) (nN p1))) (fun u : S3 => wX cI cZ a n pl nw ns σ u.1 u.2.1 u.2.2) A) 0 0 A := by
  refine ay_of (K := (kTwo ns 3 p0 p1)) (nm := (nmK [eI])) (cc := cX2_song) (maxL := 3) hK0 (by decide) rfl rfl (Nat.le_of_ble_eq_true rfl) ?_
  intro p e s m args below meth c Q ls locs hx hb hml hown hts hK hE hP hl hS hEnd hThr
  have hl : lv_has ls 3 [(0, .ref (a 40)), (1, .int p0), (2, .int p1)] := hl
  have hX1 : ∀ w ∈ wsX10, w.before args s = true := fun w h => hts w (List.mem_cons_of_mem _ (List.mem_append_left _ (List.mem_append_left _ (List.mem_append_right _ (h)))))
  have hX2 : ∀ w ∈ wsX20, w.before args s = true := fun w h => hts w (List.mem_cons_of_mem _ (List.mem_append_left _ (List.mem_append_left _ (List.mem_append_left _ (List.mem_append_right _ (h))))))
  have f10 : (Cond.fieldLink RX2 10 "LanternWalk" "setting" "LLanternWalk$Setting;").before args s = true := hts _ (List.mem_of_getElem? (i := 3) rfl)
  have g1 : (Cond.classLink RX2 55 "java/lang/IndexOutOfBoundsException").before args s = true := hts _ (List.mem_of_getElem? (i := 1) rfl)
  have g2 : (Cond.initialized "java/lang/IndexOutOfBoundsException").before args s = true := hts _ (List.mem_of_getElem? (i := 2) rfl)
  have f141 : (Cond.fieldLink RX2 141 "LanternWalk$Setting" "songLength" "[I").before args s = true := hts _ (List.mem_of_getElem? (i := 4) rfl)
  have f21 : (Cond.fieldLink RX2 21 "LanternWalk" "now" "LLanternWalk$Parade;").before args s = true := hts _ (List.mem_of_getElem? (i := 5) rfl)
  refine lv_aload_n hx hb dX2_song_0 rfl (lv_at hl 0 rfl) ?_
  refine li_gf2 hx hb hX2 hown hK hP 40 rfl 0 (by decide) f10 rfl dX2_song_1 ?_
  refine lv_iload_n hx hb dX2_song_4 rfl (lv_at hl 1 rfl) ?_
  refine roV (As := [.int p0]) (q0 := 16) (ci := 1) hx hb hml hown hts (c_X1_hasSong l D cI cZ cL cO a n pl nw ns σ κ H p0 (hB)) (cwV 1 hts gX2_song_X1_hasSong rfl rfl rfl (by decide +kernel) ⟨by decide, by decide⟩) hK hE (hP.sub (ws' := wP cI cZ a n pl nw ns σ κ) i24 rfl) rfl rfl rfl rfl hl.1 rfl (Nat.le_of_ble_eq_true rfl) hS dX2_song_5 ⟨Nat.zero_le _, Nat.zero_le _⟩ (fun locs hS => ?_)
  refine li_zeq (tgt := 20) hx hb dX2_song_8 (by decide) (fun c1 => ?_) (fun c1 => ?_)
  · skip
    have hk9 : kTwo ns 3 p0 p1 = 1 := by have zn := nI_toInt (n := n) (by omega); have zw := nI_toInt (n := nw) (by omega); have zs := nI_toInt (n := ns) (by omega); (try simp only [kTwo, isI, has, noneOr, Bool.and_eq_true, Bool.or_eq_true, decide_eq_true_eq, decide_eq_false_iff_not, Bool.not_eq_true, Bool.and_eq_false_iff, Int32.lt_iff_toInt_lt, Int32.le_iff_toInt_le, eq_tI, tI_0, tI_m1, zn, zw, zs, (show (nI 0).toInt = 0 from by decide), (show (nI 1).toInt = 1 from by decide), (show (nI 3).toInt = 3 from by decide), (show (nI 4).toInt = 4 from by decide)] at c1 ⊢); first | omega | (split <;> first | omega | (split <;> first | omega | (split <;> omega)))
    exact hThr 20 ls H locs eI "no such song, or what is not 0 to 3" 55 139 59 (by rw [hk9]; decide) (by rw [hk9]; rfl) xt_I g1 g2 (fun w h => hts w (List.mem_cons_of_mem _ (List.mem_append_right _ (h)))) (by decide) hl.1 dX2_song_20 dX2_song_23 dX2_song_24 dX2_song_26 dX2_song_29 hP hS
  · skip
    obtain ⟨jp0, hhjp0, rfl⟩ := has_nat (by omega) c1
    refine lv_iload_n hx hb dX2_song_11 rfl (lv_at hl 2 rfl) ?_
    refine lv_if_lt (tgt := 20) hx hb dX2_song_12 (by decide) (fun c2 => ?_) (fun c2 => ?_)
    · skip
      have hk9 : kTwo ns 3 (nI jp0) p1 = 1 := by have zn := nI_toInt (n := n) (by omega); have zw := nI_toInt (n := nw) (by omega); have zs := nI_toInt (n := ns) (by omega); have zjp0 := nI_toInt (n := jp0) (by omega); (try simp only [kTwo, isI, has, noneOr, Bool.and_eq_true, Bool.or_eq_true, decide_eq_true_eq, decide_eq_false_iff_not, Bool.not_eq_true, Bool.and_eq_false_iff, Int32.lt_iff_toInt_lt, Int32.le_iff_toInt_le, eq_tI, tI_0, tI_m1, zn, zw, zs, zjp0, (show (nI 0).toInt = 0 from by decide), (show (nI 1).toInt = 1 from by decide), (show (nI 3).toInt = 3 from by decide), (show (nI 4).toInt = 4 from by decide), nN_nI (show jp0 < 2 ^ 31 by omega)] at c1 c2 ⊢); first | omega | (split <;> first | omega | (split <;> first | omega | (split <;> omega)))
      exact hThr 20 ls H locs eI "no such song, or what is not 0 to 3" 55 139 59 (by rw [hk9]; decide) (by rw [hk9]; rfl) xt_I g1 g2 (fun w h => hts w (List.mem_cons_of_mem _ (List.mem_append_right _ (h)))) (by decide) hl.1 dX2_song_20 dX2_song_23 dX2_song_24 dX2_song_26 dX2_song_29 hP hS
    · skip
      refine lv_iload_n hx hb dX2_song_15 rfl (lv_at hl 2 rfl) ?_
      refine lv_iconst (v := nI 4) hx hb dX2_song_16 rfl ?_
      refine lv_icmp_lt (tgt := 30) hx hb dX2_song_17 (by decide) (fun c3 => ?_) (fun c3 => ?_)
      · skip
        obtain ⟨jp1, hljp1, hhjp1, rfl⟩ := nat_in (x := p1) (lo := 0) (hi := 3) (by simp only [Int32.lt_iff_toInt_lt, Int32.le_iff_toInt_le, tI_0, (show (nI 0).toInt = 0 from by decide), (show (nI 1).toInt = 1 from by decide), (show (nI 3).toInt = 3 from by decide), (show (nI 4).toInt = 4 from by decide)] at c2 c3; omega) (by decide)
        refine lv_iload_n hx hb dX2_song_30 rfl (lv_at hl 2 rfl) ?_
        rcases (show jp1 = 0 ∨ jp1 = 1 ∨ jp1 = 2 ∨ jp1 = 3 from by omega) with rfl | rfl | rfl | rfl
        · refine lv_tableIn (off := 25) (tgt := 56) hx hb dX2_song_31 (by decide) (by decide) rfl (by decide) ?_
          refine lv_aload_n hx hb dX2_song_56 rfl (lv_at hl 0 rfl) ?_
          refine li_gf2 hx hb hX2 hown hK hP 40 rfl 0 (by decide) f10 rfl dX2_song_57 ?_
          refine li_gf1 hx hb hX1 hown hK hP 16 rfl 10 (by decide) f141 rfl dX2_song_60 ?_
          refine lv_iload_n hx hb dX2_song_63 rfl (lv_at hl 1 rfl) ?_
          refine li_ild hx hb hK hP 23 0 rfl rfl (by omega) (by decide) dX2_song_64 ?_
          have hk9 : kTwo ns 3 (nI jp0) (nI 0) = 0 := by have zn := nI_toInt (n := n) (by omega); have zw := nI_toInt (n := nw) (by omega); have zs := nI_toInt (n := ns) (by omega); have zjp0 := nI_toInt (n := jp0) (by omega); (try simp only [kTwo, isI, has, noneOr, Bool.and_eq_true, Bool.or_eq_true, decide_eq_true_eq, decide_eq_false_iff_not, Bool.not_eq_true, Bool.and_eq_false_iff, Int32.lt_iff_toInt_lt, Int32.le_iff_toInt_le, eq_tI, tI_0, tI_m1, zn, zw, zs, zjp0, (show (nI 0).toInt = 0 from by decide), (show (nI 1).toInt = 1 from by decide), (show (nI 3).toInt = 3 from by decide), (show (nI 4).toInt = 4 from by decide), nN_nI (show jp0 < 2 ^ 31 by omega)] at c1 c2 c3 ⊢); first | omega | (split <;> first | omega | (split <;> first | omega | (split <;> omega)))
          refine li_topi (show σ 6 jp0 = ifk (kTwo ns 3 (nI jp0) (nI 0)) (soT nw σ (nN (nI jp0)) (nN (nI 0))) from by rw [hk9]; first | rfl | (rw [ifk_0 rfl]; (repeat rw [nN_nI (by omega)]); (try rfl))) ?_
          exact hEnd 65 ls H locs (κ, σ', κ') hk9 dX2_song_65 hP hS
        · refine lv_tableIn (off := 35) (tgt := 66) hx hb dX2_song_31 (by decide) (by decide) rfl (by decide) ?_
          refine lv_aload_n hx hb dX2_song_66 rfl (lv_at hl 0 rfl) ?_
          refine li_gf2 hx hb hX2 hown hK hP 40 rfl 1 (by decide) f21 rfl dX2_song_67 ?_
          refine lv_iload_n hx hb dX2_song_70 rfl (lv_at hl 1 rfl) ?_
          refine roV (As := [.int (nI jp0)]) (q0 := 0) (ci := 0) hx hb hml hown hts (c_X0_knowersOf l D cI cZ cL cO a n pl nw ns σ κ H jp0 (hB) (by omega)) (cwV 1 hts gX2_song_X0_knowersOf rfl rfl rfl (by decide +kernel) ⟨by decide, by decide⟩) hK hE (hP.sub (ws' := wP cI cZ a n pl nw ns σ κ) i24 rfl) rfl rfl rfl rfl hl.1 rfl (Nat.le_of_ble_eq_true rfl) hS dX2_song_71 ⟨Nat.zero_le _, Nat.zero_le _⟩ (fun locs hS => ?_)
          have hk9 : kTwo ns 3 (nI jp0) (nI 1) = 0 := by have zn := nI_toInt (n := n) (by omega); have zw := nI_toInt (n := nw) (by omega); have zs := nI_toInt (n := ns) (by omega); have zjp0 := nI_toInt (n := jp0) (by omega); (try simp only [kTwo, isI, has, noneOr, Bool.and_eq_true, Bool.or_eq_true, decide_eq_true_eq, decide_eq_false_iff_not, Bool.not_eq_true, Bool.and_eq_false_iff, Int32.lt_iff_toInt_lt, Int32.le_iff_toInt_le, eq_tI, tI_0, tI_m1, zn, zw, zs, zjp0, (show (nI 0).toInt = 0 from by decide), (show (nI 1).toInt = 1 from by decide), (show (nI 3).toInt = 3 from by decide), (show (nI 4).toInt = 4 from by decide), nN_nI (show jp0 < 2 ^ 31 by omega)] at c1 c2 c3 ⊢); first | omega | (split <;> first | omega | (split <;> first | omega | (split <;> omega)))
          refine li_topi (show nI (kn σ nw jp0) = ifk (kTwo ns 3 (nI jp0) (nI 1)) (soT nw σ (nN (nI jp0)) (nN (nI 1))) from by rw [hk9]; first | rfl | (rw [ifk_0 rfl]; (repeat rw [nN_nI (by omega)]); (try rfl))) ?_
          exact hEnd 74 ls H locs (κ, σ', κ') hk9 dX2_song_74 hP hS
        · refine lv_tableIn (off := 44) (tgt := 75) hx hb dX2_song_31 (by decide) (by decide) rfl (by decide) ?_
          refine lv_aload_n hx hb dX2_song_75 rfl (lv_at hl 0 rfl) ?_
          refine li_gf2 hx hb hX2 hown hK hP 40 rfl 1 (by decide) f21 rfl dX2_song_76 ?_
          refine lv_iload_n hx hb dX2_song_79 rfl (lv_at hl 1 rfl) ?_
          refine roV (As := [.int (nI jp0)]) (q0 := 0) (ci := 0) hx hb hml hown hts (c_X0_versionsOf l D cI cZ cL cO a n pl nw ns σ κ H jp0 (hB) (by omega)) (cwV 1 hts gX2_song_X0_versionsOf rfl rfl rfl (by decide +kernel) ⟨by decide, by decide⟩) hK hE (hP.sub (ws' := wP cI cZ a n pl nw ns σ κ) i24 rfl) rfl rfl rfl rfl hl.1 rfl (Nat.le_of_ble_eq_true rfl) hS dX2_song_80 ⟨Nat.zero_le _, Nat.zero_le _⟩ (fun locs hS => ?_)
          have hk9 : kTwo ns 3 (nI jp0) (nI 2) = 0 := by have zn := nI_toInt (n := n) (by omega); have zw := nI_toInt (n := nw) (by omega); have zs := nI_toInt (n := ns) (by omega); have zjp0 := nI_toInt (n := jp0) (by omega); (try simp only [kTwo, isI, has, noneOr, Bool.and_eq_true, Bool.or_eq_true, decide_eq_true_eq, decide_eq_false_iff_not, Bool.not_eq_true, Bool.and_eq_false_iff, Int32.lt_iff_toInt_lt, Int32.le_iff_toInt_le, eq_tI, tI_0, tI_m1, zn, zw, zs, zjp0, (show (nI 0).toInt = 0 from by decide), (show (nI 1).toInt = 1 from by decide), (show (nI 3).toInt = 3 from by decide), (show (nI 4).toInt = 4 from by decide), nN_nI (show jp0 < 2 ^ 31 by omega)] at c1 c2 c3 ⊢); first | omega | (split <;> first | omega | (split <;> first | omega | (split <;> omega)))
          refine li_topi (show nI (vs σ nw jp0) = ifk (kTwo ns 3 (nI jp0) (nI 2)) (soT nw σ (nN (nI jp0)) (nN (nI 2))) from by rw [hk9]; first | rfl | (rw [ifk_0 rfl]; (repeat rw [nN_nI (by omega)]); (try rfl))) ?_
          exact hEnd 83 ls H locs (κ, σ', κ') hk9 dX2_song_83 hP hS
        · refine lv_tableOut (tgt := 84) hx hb dX2_song_31 (by decide) (by decide) ?_
          refine lv_aload_n hx hb dX2_song_84 rfl (lv_at hl 0 rfl) ?_
          refine li_gf2 hx hb hX2 hown hK hP 40 rfl 1 (by decide) f21 rfl dX2_song_85 ?_
          refine lv_iload_n hx hb dX2_song_88 rfl (lv_at hl 1 rfl) ?_
          refine roV (As := [.int (nI jp0)]) (q0 := 0) (ci := 0) hx hb hml hown hts (c_X0_commonestVersionOf l D cI cZ cL cO a n pl nw ns σ κ H jp0 (hB) (by omega)) (cwV 1 hts gX2_song_X0_commonestVersionOf rfl rfl rfl (by decide +kernel) ⟨by decide, by decide⟩) hK hE (hP.sub (ws' := wP cI cZ a n pl nw ns σ κ) i24 rfl) rfl rfl rfl rfl hl.1 rfl (Nat.le_of_ble_eq_true rfl) hS dX2_song_89 ⟨Nat.zero_le _, Nat.zero_le _⟩ (fun locs hS => ?_)
          have hk9 : kTwo ns 3 (nI jp0) (nI 3) = 0 := by have zn := nI_toInt (n := n) (by omega); have zw := nI_toInt (n := nw) (by omega); have zs := nI_toInt (n := ns) (by omega); have zjp0 := nI_toInt (n := jp0) (by omega); (try simp only [kTwo, isI, has, noneOr, Bool.and_eq_true, Bool.or_eq_true, decide_eq_true_eq, decide_eq_false_iff_not, Bool.not_eq_true, Bool.and_eq_false_iff, Int32.lt_iff_toInt_lt, Int32.le_iff_toInt_le, eq_tI, tI_0, tI_m1, zn, zw, zs, zjp0, (show (nI 0).toInt = 0 from by decide), (show (nI 1).toInt = 1 from by decide), (show (nI 3).toInt = 3 from by decide), (show (nI 4).toInt = 4 from by decide), nN_nI (show jp0 < 2 ^ 31 by omega)] at c1 c2 c3 ⊢); first | omega | (split <;> first | omega | (split <;> first | omega | (split <;> omega)))
          refine li_topi (show nI ((cm σ nw jp0 99).1) = ifk (kTwo ns 3 (nI jp0) (nI 3)) (soT nw σ (nN (nI jp0)) (nN (nI 3))) from by rw [hk9]; first | rfl | (rw [ifk_0 rfl]; (repeat rw [nN_nI (by omega)]); (try rfl))) ?_
          exact hEnd 92 ls H locs (κ, σ', κ') hk9 dX2_song_92 hP hS
      · skip
        have hk9 : kTwo ns 3 (nI jp0) p1 = 1 := by have zn := nI_toInt (n := n) (by omega); have zw := nI_toInt (n := nw) (by omega); have zs := nI_toInt (n := ns) (by omega); have zjp0 := nI_toInt (n := jp0) (by omega); (try simp only [kTwo, isI, has, noneOr, Bool.and_eq_true, Bool.or_eq_true, decide_eq_true_eq, decide_eq_false_iff_not, Bool.not_eq_true, Bool.and_eq_false_iff, Int32.lt_iff_toInt_lt, Int32.le_iff_toInt_le, eq_tI, tI_0, tI_m1, zn, zw, zs, zjp0, (show (nI 0).toInt = 0 from by decide), (show (nI 1).toInt = 1 from by decide), (show (nI 3).toInt = 3 from by decide), (show (nI 4).toInt = 4 from by decide), nN_nI (show jp0 < 2 ^ 31 by omega)] at c1 c2 c3 ⊢); first | omega | (split <;> first | omega | (split <;> first | omega | (split <;> omega)))
        exact hThr 20 ls H locs eI "no such song, or what is not 0 to 3" 55 139 59 (by rw [hk9]; decide) (by rw [hk9]; rfl) xt_I g1 g2 (fun w h => hts w (List.mem_cons_of_mem _ (List.mem_append_right _ (h)))) (by decide) hl.1 dX2_song_20 dX2_song_23 dX2_song_24 dX2_song_26 dX2_song_29 hP hS
set_option maxHeartbeats 4000000 in
set_option maxRecDepth 100000 in
theorem c_X2_count (l : Launch) (D : va_G) (cI cZ cL cO : ClassId) (a : Nat → Nat) (n pl nw ns : Nat) (σ κ σ' κ' : Sg) (H : Heap) (p0 : Int32) (A : Nat → Prop) (hA : okP A a 41) (hB : n ≤ 10 ∧ pl ≤ 200 ∧ nw ≤ 20 ∧ ns ≤ 6) (hK0 : (kCount p0) = 0) : Met l yX2_count wsX2_count ({ frames := 6, cells := 0, slots := 0, locals := 82 } : Room) (ro_P D (T4 cI cZ cL cO) (wX cI cZ a n pl nw ns σ κ σ' κ') H [.ref (a 40), .int p0]) (ay_Q D (ifk (kCount p0) (alT n pl nw ns σ (nN p0))) (fun u : S3 => wX cI cZ a n pl nw ns σ u.1 u.2.1 u.2.2) A) 0 0 A := by
  refine ay_of (K := (kCount p0)) (nm := (nmK [eI])) (cc := cX2_count) (maxL := 2) hK0 (by decide) rfl rfl (Nat.le_of_ble_eq_true rfl) ?_
  intro p e s m args below meth c Q ls locs hx hb hml hown hts hK hE hP hl hS hEnd hThr
  have hl : lv_has ls 2 [(0, .ref (a 40)), (1, .int p0)] := hl
  have g0 : (Cond.classLink RX2 55 "java/lang/IndexOutOfBoundsException").before args s = true := hts _ (List.mem_of_getElem? (i := 1) rfl)
  have g1 : (Cond.initialized "java/lang/IndexOutOfBoundsException").before args s = true := hts _ (List.mem_of_getElem? (i := 2) rfl)
  refine lv_iload_n hx hb dX2_count_0 rfl (lv_at hl 1 rfl) ?_
  refine lv_if_lt (tgt := 10) hx hb dX2_count_1 (by decide) (fun c1 => ?_) (fun c1 => ?_)
  · skip
    have hk9 : kCount p0 = 1 := by have zn := nI_toInt (n := n) (by omega); have zw := nI_toInt (n := nw) (by omega); have zs := nI_toInt (n := ns) (by omega); (try simp only [kCount, isI, has, noneOr, Bool.and_eq_true, Bool.or_eq_true, decide_eq_true_eq, decide_eq_false_iff_not, Bool.not_eq_true, Bool.and_eq_false_iff, Int32.lt_iff_toInt_lt, Int32.le_iff_toInt_le, eq_tI, tI_0, tI_m1, zn, zw, zs, (show (nI 0).toInt = 0 from by decide), (show (nI 1).toInt = 1 from by decide), (show (nI 10).toInt = 10 from by decide), (show (nI 11).toInt = 11 from by decide)] at c1 ⊢); first | omega | (split <;> first | omega | (split <;> first | omega | (split <;> omega)))
    exact hThr 10 ls H locs eI "what is not 0 to 10" 55 164 59 (by rw [hk9]; decide) (by rw [hk9]; rfl) xt_I g0 g1 (fun w h => hts w (List.mem_cons_of_mem _ (List.mem_append_right _ (h)))) (by decide) hl.1 dX2_count_10 dX2_count_13 dX2_count_14 dX2_count_16 dX2_count_19 hP hS
  · skip
    refine lv_iload_n hx hb dX2_count_4 rfl (lv_at hl 1 rfl) ?_
    refine lv_bipush (v := nI 11) hx hb dX2_count_5 rfl ?_
    refine lv_icmp_lt (tgt := 20) hx hb dX2_count_7 (by decide) (fun c2 => ?_) (fun c2 => ?_)
    · skip
      obtain ⟨jp0, hljp0, hhjp0, rfl⟩ := nat_in (x := p0) (lo := 0) (hi := 10) (by simp only [Int32.lt_iff_toInt_lt, Int32.le_iff_toInt_le, tI_0, (show (nI 0).toInt = 0 from by decide), (show (nI 1).toInt = 1 from by decide), (show (nI 10).toInt = 10 from by decide), (show (nI 11).toInt = 11 from by decide)] at c1 c2; omega) (by decide)
      refine lv_aload_n hx hb dX2_count_20 rfl (lv_at hl 0 rfl) ?_
      refine lv_iload_n hx hb dX2_count_21 rfl (lv_at hl 1 rfl) ?_
      refine roV (As := [.int (nI jp0)]) (q0 := 40) (ci := 2) hx hb hml hown hts (c_X2_tellOfAll l D cI cZ cL cO a n pl nw ns σ κ σ' κ' H jp0 (hB) (by omega)) (cwV 1 hts gX2_count_X2_tellOfAll rfl rfl rfl (by decide +kernel) ⟨by decide, by decide⟩) hK hE hP rfl rfl rfl rfl hl.1 rfl (Nat.le_of_ble_eq_true rfl) hS dX2_count_22 ⟨Nat.zero_le _, Nat.zero_le _⟩ (fun locs hS => ?_)
      have hk9 : kCount (nI jp0) = 0 := by have zn := nI_toInt (n := n) (by omega); have zw := nI_toInt (n := nw) (by omega); have zs := nI_toInt (n := ns) (by omega); have zjp0 := nI_toInt (n := jp0) (by omega); (try simp only [kCount, isI, has, noneOr, Bool.and_eq_true, Bool.or_eq_true, decide_eq_true_eq, decide_eq_false_iff_not, Bool.not_eq_true, Bool.and_eq_false_iff, Int32.lt_iff_toInt_lt, Int32.le_iff_toInt_le, eq_tI, tI_0, tI_m1, zn, zw, zs, zjp0, (show (nI 0).toInt = 0 from by decide), (show (nI 1).toInt = 1 from by decide), (show (nI 10).toInt = 10 from by decide), (show (nI 11).toInt = 11 from by decide), nN_nI (show jp0 < 2 ^ 31 by omega)] at c1 c2 ⊢); first | omega | (split <;> first | omega | (split <;> first | omega | (split <;> omega)))
      refine li_topi (show alT n pl nw ns σ jp0 = ifk (kCount (nI jp0)) (alT n pl nw ns σ (nN (nI jp0))) from by rw [hk9]; first | rfl | (rw [ifk_0 rfl]; (repeat rw [nN_nI (by omega)]); (try rfl))) ?_
      exact hEnd 25 ls H locs (κ, σ', κ') hk9 dX2_count_25 hP hS
    · skip
      have hk9 : kCount p0 = 1 := by have zn := nI_toInt (n := n) (by omega); have zw := nI_toInt (n := nw) (by omega); have zs := nI_toInt (n := ns) (by omega); (try simp only [kCount, isI, has, noneOr, Bool.and_eq_true, Bool.or_eq_true, decide_eq_true_eq, decide_eq_false_iff_not, Bool.not_eq_true, Bool.and_eq_false_iff, Int32.lt_iff_toInt_lt, Int32.le_iff_toInt_le, eq_tI, tI_0, tI_m1, zn, zw, zs, (show (nI 0).toInt = 0 from by decide), (show (nI 1).toInt = 1 from by decide), (show (nI 10).toInt = 10 from by decide), (show (nI 11).toInt = 11 from by decide)] at c1 c2 ⊢); first | omega | (split <;> first | omega | (split <;> first | omega | (split <;> omega)))
      exact hThr 10 ls H locs eI "what is not 0 to 10" 55 164 59 (by rw [hk9]; decide) (by rw [hk9]; rfl) xt_I g0 g1 (fun w h => hts w (List.mem_cons_of_mem _ (List.mem_append_right _ (h)))) (by decide) hl.1 dX2_count_10 dX2_count_13 dX2_count_14 dX2_count_16 dX2_count_19 hP hS
