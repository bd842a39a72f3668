/-! the class: pass, and looking ahead -/
theorem subY {D : va_G} {H : Heap} {cI cZ : ClassId} {a : Nat → Nat} {n pl nw ns : Nat} {σ κ σ' κ' : Sg} (hr : ∀ r, r < 7 → σ' r = σ r) (hP : va_P D vwCl (wX cI cZ a n pl nw ns σ κ σ' κ') H) : va_P D vwCl (wP cI cZ (ah a) n pl nw ns σ' κ') H := by
  refine hP.sub j24 ?_
  unfold wX wP
  rw [hr 0 (by decide), hr 1 (by decide), hr 2 (by decide), hr 3 (by decide), hr 4 (by decide), hr 5 (by decide), hr 6 (by decide)]
  rfl
set_option maxHeartbeats 4000000 in
set_option maxRecDepth 100000 in
theorem c_X2_pass (l : Launch) (D : va_G) (cI cZ cL cO : ClassId) (a : Nat → Nat) (n pl nw ns : Nat) (σ κ σ' κ' : Sg) (H : Heap) (p0 : Int32) (A : Nat → Prop) (hA : okP A a 41) (hB : n ≤ 10 ∧ pl ≤ 200 ∧ nw ≤ 20 ∧ ns ≤ 6) (t : Nat) (hI : INV n pl nw ns t σ) (ht : t < 2 ^ 30) (hK0 : (kPass n p0) = 0) : Met l yX2_pass wsX2_pass ({ frames := 6, cells := 0, slots := 0, locals := 135 } : Room) (ro_P D (T4 cI cZ cL cO) (wX cI cZ a n pl nw ns σ κ σ' κ') H [.ref (a 40), .int p0]) (ay_Q D (vPassT n pl nw ns σ p0) (fun u : S3 => wX cI cZ a n pl nw ns (sPassT n pl nw ns σ p0) u.1 u.2.1 u.2.2) A) 0 0 A := by
  refine ay_of (K := (kPass n p0)) (nm := (nmK [eA, eS])) (cc := cX2_pass) (maxL := 3) hK0 (by decide) rfl rfl (Nat.le_of_ble_eq_true rfl) ?_
  intro p e s m args below meth c Q ls locs hx hb hml hown hts hK hE hP hl hS hEnd hThr
  have hl : lv_has ls 3 [(0, .ref (a 40)), (1, .int p0)] := hl
  have hX1 : ∀ w ∈ wsX10, w.before args s = true := fun w h => hts w (List.mem_cons_of_mem _ (List.mem_append_left _ (List.mem_append_left _ (List.mem_append_left _ (List.mem_append_right _ (h))))))
  have hX2 : ∀ w ∈ wsX20, w.before args s = true := fun w h => hts w (List.mem_cons_of_mem _ (List.mem_append_left _ (List.mem_append_left _ (List.mem_append_left _ (List.mem_append_left _ (List.mem_append_right _ (h)))))))
  have g0 : (Cond.classLink RX2 28 "java/lang/IllegalArgumentException").before args s = true := hts _ (List.mem_of_getElem? (i := 1) rfl)
  have g1 : (Cond.initialized "java/lang/IllegalArgumentException").before args s = true := hts _ (List.mem_of_getElem? (i := 2) rfl)
  have f10 : (Cond.fieldLink RX2 10 "LanternWalk" "setting" "LLanternWalk$Setting;").before args s = true := hts _ (List.mem_of_getElem? (i := 5) rfl)
  have f35 : (Cond.fieldLink RX2 35 "LanternWalk$Setting" "stretches" "I").before args s = true := hts _ (List.mem_of_getElem? (i := 6) rfl)
  have f21 : (Cond.fieldLink RX2 21 "LanternWalk" "now" "LLanternWalk$Parade;").before args s = true := hts _ (List.mem_of_getElem? (i := 7) rfl)
  have g5 : (Cond.classLink RX2 42 "java/lang/IllegalStateException").before args s = true := hts _ (List.mem_of_getElem? (i := 3) rfl)
  have g6 : (Cond.initialized "java/lang/IllegalStateException").before args s = true := hts _ (List.mem_of_getElem? (i := 4) rfl)
  refine lv_iload_n hx hb dX2_pass_0 rfl (lv_at hl 1 rfl) ?_
  refine lv_iconst (v := nI 1) hx hb dX2_pass_1 rfl ?_
  refine lv_icmp_lt (tgt := 12) hx hb dX2_pass_2 (by decide) (fun c1 => ?_) (fun c1 => ?_)
  · skip
    have hk9 : kPass n p0 = 1 := by have zn := nI_toInt (n := n) (by omega); have zw := nI_toInt (n := nw) (by omega); have zs := nI_toInt (n := ns) (by omega); (try simp only [kPass, isI, has, noneOr, Bool.and_eq_true, Bool.or_eq_true, decide_eq_true_eq, decide_eq_false_iff_not, Bool.not_eq_true, Bool.and_eq_false_iff, Int32.lt_iff_toInt_lt, Int32.le_iff_toInt_le, eq_tI, tI_0, tI_m1, zn, zw, zs, (show (nI 0).toInt = 0 from by decide), (show (nI 1).toInt = 1 from by decide), (show (nI 2).toInt = 2 from by decide), (show (nI 200).toInt = 200 from by decide)] at c1 ⊢); first | omega | (split <;> first | omega | (split <;> first | omega | (split <;> omega)))
    exact hThr 12 ls H locs eA "steps is not 1 to 200" 28 153 32 (by rw [hk9]; decide) (by rw [hk9]; rfl) xt_A g0 g1 (fun w h => hts w (List.mem_cons_of_mem _ (List.mem_append_left _ (List.mem_append_right _ (h))))) (by decide) hl.1 dX2_pass_12 dX2_pass_15 dX2_pass_16 dX2_pass_18 dX2_pass_21 hP hS
  · skip
    refine lv_iload_n hx hb dX2_pass_5 rfl (lv_at hl 1 rfl) ?_
    refine lv_sipush (v := nI 200) hx hb dX2_pass_6 rfl ?_
    refine lv_icmp_le (tgt := 22) hx hb dX2_pass_9 (by decide) (fun c2 => ?_) (fun c2 => ?_)
    · skip
      obtain ⟨jp0, hljp0, hhjp0, rfl⟩ := nat_in (x := p0) (lo := 1) (hi := 200) (by simp only [Int32.lt_iff_toInt_lt, Int32.le_iff_toInt_le, tI_0, (show (nI 0).toInt = 0 from by decide), (show (nI 1).toInt = 1 from by decide), (show (nI 2).toInt = 2 from by decide), (show (nI 200).toInt = 200 from by decide)] at c1 c2; omega) (by decide)
      refine lv_aload_n hx hb dX2_pass_22 rfl (lv_at hl 0 rfl) ?_
      refine li_gf2 hx hb hX2 hown hK hP 40 rfl 0 (by decide) f10 rfl dX2_pass_23 ?_
      refine li_gf1 hx hb hX1 hown hK hP 16 rfl 0 (by decide) f35 rfl dX2_pass_26 ?_
      refine li_ne0 (tgt := 42) hx hb dX2_pass_29 (by decide) (by omega) (fun c3 => ?_) (fun c3 => ?_)
      · skip
        have hn0 : 0 < n := by omega
        refine lv_aload_n hx hb dX2_pass_42 rfl (lv_at hl 0 rfl) ?_
        refine li_gf2 hx hb hX2 hown hK hP 40 rfl 1 (by decide) f21 rfl dX2_pass_43 ?_
        refine lv_iconst (v := nI 2) hx hb dX2_pass_46 rfl ?_
        refine roV (As := [.int (nI 2)]) (q0 := 0) (ci := 0) hx hb hml hown hts (c_X0_howManyAre l D cI cZ cL cO a n pl nw ns σ κ H (nI 2) (hB)) (cwV 1 hts gX2_pass_X0_howManyAre rfl rfl rfl (by decide +kernel) ⟨by decide, by decide⟩) hK hE (hP.sub (ws' := wP cI cZ a n pl nw ns σ κ) i24 rfl) rfl rfl rfl rfl hl.1 rfl (Nat.le_of_ble_eq_true rfl) hS dX2_pass_47 ⟨Nat.zero_le _, Nat.zero_le _⟩ (fun locs hS => ?_)
        refine lv_istore_n (lv' := [(2, .int (nI (hm σ nw (nI 2)))), (0, .ref (a 40)), (1, .int (nI jp0))]) hx hb dX2_pass_50 rfl hl (by decide) rfl (fun ls hl => ?_)
        refine lv_aload_n hx hb dX2_pass_51 rfl (lv_at hl 1 rfl) ?_
        refine li_gf2 hx hb hX2 hown hK hP 40 rfl 1 (by decide) f21 rfl dX2_pass_52 ?_
        refine lv_iload_n hx hb dX2_pass_55 rfl (lv_at hl 2 rfl) ?_
        refine muV (As := [.int (nI jp0)]) (q0 := 0) (ci := 0) hx hb hml hown hts (c_X0_takeSteps l D cI cZ cL cO a n pl nw ns σ κ H jp0 (A_ a 24) (hA.A_ (by decide)) (hB) (t) (hI.2.1) (by omega)) (cwV 1 hts gX2_pass_X0_takeSteps rfl rfl rfl (by decide +kernel) ⟨by decide, by decide⟩) hK hE (hP.sub (ws' := wP cI cZ a n pl nw ns σ κ) i24 rfl) rfl rfl rfl rfl hl.1 rfl (Nat.le_of_ble_eq_true rfl) hS (ak_of (hA.M (by decide))) dX2_pass_56 ⟨Nat.zero_le _, Nat.zero_le _⟩ (fun G locs hP1 _ hk1 hS => ?_)
        replace hP := jnX hA hP hP1 hk1
        replace hP : va_P D vwCl (wX cI cZ a n pl nw ns ((tsN n pl nw ns jp0 (σ, κ)).1) ((tsN n pl nw ns jp0 (σ, κ)).2) σ' κ') G := hP
        refine lv_aload_n hx hb dX2_pass_59 rfl (lv_at hl 1 rfl) ?_
        refine li_gf2 hx hb hX2 hown hK hP 40 rfl 1 (by decide) f21 rfl dX2_pass_60 ?_
        refine lv_iconst (v := nI 2) hx hb dX2_pass_63 rfl ?_
        refine roV (As := [.int (nI 2)]) (q0 := 0) (ci := 0) hx hb hml hown hts (c_X0_howManyAre l D cI cZ cL cO a n pl nw ns ((tsN n pl nw ns jp0 (σ, κ)).1) ((tsN n pl nw ns jp0 (σ, κ)).2) G (nI 2) (hB)) (cwV 1 hts gX2_pass_X0_howManyAre rfl rfl rfl (by decide +kernel) ⟨by decide, by decide⟩) hK hE (hP.sub (ws' := wP cI cZ a n pl nw ns ((tsN n pl nw ns jp0 (σ, κ)).1) ((tsN n pl nw ns jp0 (σ, κ)).2)) i24 rfl) rfl rfl rfl rfl hl.1 rfl (Nat.le_of_ble_eq_true rfl) hS dX2_pass_64 ⟨Nat.zero_le _, Nat.zero_le _⟩ (fun locs hS => ?_)
        refine lv_iload_n hx hb dX2_pass_67 rfl (lv_at hl 0 rfl) ?_
        refine lv_isub hx hb dX2_pass_68 ?_
        have hk9 : kPass n (nI jp0) = 0 := by have zn := nI_toInt (n := n) (by omega); have zw := nI_toInt (n := nw) (by omega); have zs := nI_toInt (n := ns) (by omega); have zjp0 := nI_toInt (n := jp0) (by omega); (try simp only [kPass, isI, has, noneOr, Bool.and_eq_true, Bool.or_eq_true, decide_eq_true_eq, decide_eq_false_iff_not, Bool.not_eq_true, Bool.and_eq_false_iff, Int32.lt_iff_toInt_lt, Int32.le_iff_toInt_le, eq_tI, tI_0, tI_m1, zn, zw, zs, zjp0, (show (nI 0).toInt = 0 from by decide), (show (nI 1).toInt = 1 from by decide), (show (nI 2).toInt = 2 from by decide), (show (nI 200).toInt = 200 from by decide), nN_nI (show jp0 < 2 ^ 31 by omega)] at c1 c2 c3 ⊢); first | omega | (split <;> first | omega | (split <;> first | omega | (split <;> omega)))
        refine li_topi (show (nI (hm ((tsN n pl nw ns jp0 (σ, κ)).1) nw (nI 2))) - (nI (hm σ nw (nI 2))) = vPassT n pl nw ns σ (nI jp0) from by unfold vPassT; rw [hk9, ifk_0 rfl, nN_nI (by omega), ← trj_any (κ := κ) hn0 hI]) ?_
        have hw9 : (tsN n pl nw ns jp0 (σ, κ)).1 = sPassT n pl nw ns σ (nI jp0) := by unfold sPassT; rw [hk9, if_pos rfl, nN_nI (by omega)]; exact trj_any hn0 hI _
        have hP : va_P D vwCl (wX cI cZ a n pl nw ns (sPassT n pl nw ns σ (nI jp0)) ((tsN n pl nw ns jp0 (σ, κ)).2) σ' κ') G := Eq.mp (congrArg (fun z9 => va_P D vwCl (wX cI cZ a n pl nw ns z9 ((tsN n pl nw ns jp0 (σ, κ)).2) σ' κ') G) hw9) hP
        clear hw9
        exact hEnd 69 ls G locs ((tsN n pl nw ns jp0 (σ, κ)).2, σ', κ') hk9 dX2_pass_69 hP hS
      · skip
        have hk9 : kPass n (nI jp0) = 2 := by have zn := nI_toInt (n := n) (by omega); have zw := nI_toInt (n := nw) (by omega); have zs := nI_toInt (n := ns) (by omega); have zjp0 := nI_toInt (n := jp0) (by omega); (try simp only [kPass, isI, has, noneOr, Bool.and_eq_true, Bool.or_eq_true, decide_eq_true_eq, decide_eq_false_iff_not, Bool.not_eq_true, Bool.and_eq_false_iff, Int32.lt_iff_toInt_lt, Int32.le_iff_toInt_le, eq_tI, tI_0, tI_m1, zn, zw, zs, zjp0, (show (nI 0).toInt = 0 from by decide), (show (nI 1).toInt = 1 from by decide), (show (nI 2).toInt = 2 from by decide), (show (nI 200).toInt = 200 from by decide), nN_nI (show jp0 < 2 ^ 31 by omega)] at c1 c2 c3 ⊢); first | omega | (split <;> first | omega | (split <;> first | omega | (split <;> omega)))
        exact hThr 32 ls H locs eS "the route has no stretch" 42 155 46 (by rw [hk9]; decide) (by rw [hk9]; rfl) xt_S g5 g6 (fun w h => hts w (List.mem_cons_of_mem _ (List.mem_append_right _ (h)))) (by decide) hl.1 dX2_pass_32 dX2_pass_35 dX2_pass_36 dX2_pass_38 dX2_pass_41 hP hS
    · skip
      have hk9 : kPass n p0 = 1 := by have zn := nI_toInt (n := n) (by omega); have zw := nI_toInt (n := nw) (by omega); have zs := nI_toInt (n := ns) (by omega); (try simp only [kPass, isI, has, noneOr, Bool.and_eq_true, Bool.or_eq_true, decide_eq_true_eq, decide_eq_false_iff_not, Bool.not_eq_true, Bool.and_eq_false_iff, Int32.lt_iff_toInt_lt, Int32.le_iff_toInt_le, eq_tI, tI_0, tI_m1, zn, zw, zs, (show (nI 0).toInt = 0 from by decide), (show (nI 1).toInt = 1 from by decide), (show (nI 2).toInt = 2 from by decide), (show (nI 200).toInt = 200 from by decide)] at c1 c2 ⊢); first | omega | (split <;> first | omega | (split <;> first | omega | (split <;> omega)))
      exact hThr 12 ls H locs eA "steps is not 1 to 200" 28 153 32 (by rw [hk9]; decide) (by rw [hk9]; rfl) xt_A g0 g1 (fun w h => hts w (List.mem_cons_of_mem _ (List.mem_append_left _ (List.mem_append_right _ (h))))) (by decide) hl.1 dX2_pass_12 dX2_pass_15 dX2_pass_16 dX2_pass_18 dX2_pass_21 hP hS
set_option maxHeartbeats 4000000 in
set_option maxRecDepth 100000 in
theorem c_X2_foresee (l : Launch) (D : va_G) (cI cZ cL cO : ClassId) (a : Nat → Nat) (n pl nw ns : Nat) (σ κ σ' κ' : Sg) (H : Heap) (p0 : Int32) (p1 : Int32) (A : Nat → Prop) (hA : okP A a 41) (hB : n ≤ 10 ∧ pl ≤ 200 ∧ nw ≤ 20 ∧ ns ≤ 6) (t : Nat) (hI : INV n pl nw ns t σ) (ht : t < 2 ^ 30) (hK0 : (kFor n p0 p1) = 0) : Met l yX2_foresee wsX2_foresee ({ frames := 6, cells := 0, slots := 0, locals := 135 } : Room) (ro_P D (T4 cI cZ cL cO) (wX cI cZ a n pl nw ns σ κ σ' κ') H [.ref (a 40), .int p0, .int p1]) (ay_Q D (vFor n pl nw ns σ p0 p1) (fun u : S3 => wX cI cZ a n pl nw ns σ u.1 u.2.1 u.2.2) A) 0 0 A := by
  refine ay_of (K := (kFor n p0 p1)) (nm := (nmK [eA, eI, eS])) (cc := cX2_foresee) (maxL := 3) hK0 (by decide) rfl rfl (Nat.le_of_ble_eq_true rfl) ?_
  intro p e s m args below meth c Q ls locs hx hb hml hown hts hK hE hP hl hS hEnd hThr
  have hl : lv_has ls 3 [(0, .ref (a 40)), (1, .int p0), (2, .int p1)] := hl
  have hX1 : ∀ w ∈ wsX10, w.before args s = true := fun w h => hts w (List.mem_cons_of_mem _ (List.mem_append_left _ (List.mem_append_left _ (List.mem_append_left _ (List.mem_append_left _ (List.mem_append_right _ (h)))))))
  have hX2 : ∀ w ∈ wsX20, w.before args s = true := fun w h => hts w (List.mem_cons_of_mem _ (List.mem_append_left _ (List.mem_append_left _ (List.mem_append_left _ (List.mem_append_left _ (List.mem_append_left _ (List.mem_append_right _ (h))))))))
  have g0 : (Cond.classLink RX2 28 "java/lang/IllegalArgumentException").before args s = true := hts _ (List.mem_of_getElem? (i := 1) rfl)
  have g1 : (Cond.initialized "java/lang/IllegalArgumentException").before args s = true := hts _ (List.mem_of_getElem? (i := 2) rfl)
  have g2 : (Cond.classLink RX2 55 "java/lang/IndexOutOfBoundsException").before args s = true := hts _ (List.mem_of_getElem? (i := 3) rfl)
  have g3 : (Cond.initialized "java/lang/IndexOutOfBoundsException").before args s = true := hts _ (List.mem_of_getElem? (i := 4) rfl)
  have f10 : (Cond.fieldLink RX2 10 "LanternWalk" "setting" "LLanternWalk$Setting;").before args s = true := hts _ (List.mem_of_getElem? (i := 7) rfl)
  have f35 : (Cond.fieldLink RX2 35 "LanternWalk$Setting" "stretches" "I").before args s = true := hts _ (List.mem_of_getElem? (i := 8) rfl)
  have f25 : (Cond.fieldLink RX2 25 "LanternWalk" "ahead" "LLanternWalk$Parade;").before args s = true := hts _ (List.mem_of_getElem? (i := 9) rfl)
  have f21 : (Cond.fieldLink RX2 21 "LanternWalk" "now" "LLanternWalk$Parade;").before args s = true := hts _ (List.mem_of_getElem? (i := 10) rfl)
  have g8 : (Cond.classLink RX2 42 "java/lang/IllegalStateException").before args s = true := hts _ (List.mem_of_getElem? (i := 5) rfl)
  have g9 : (Cond.initialized "java/lang/IllegalStateException").before args s = true := hts _ (List.mem_of_getElem? (i := 6) rfl)
  refine lv_iload_n hx hb dX2_foresee_0 rfl (lv_at hl 1 rfl) ?_
  refine lv_iconst (v := nI 1) hx hb dX2_foresee_1 rfl ?_
  refine lv_icmp_lt (tgt := 12) hx hb dX2_foresee_2 (by decide) (fun c1 => ?_) (fun c1 => ?_)
  · skip
    have hk9 : kFor n p0 p1 = 1 := by have zn := nI_toInt (n := n) (by omega); have zw := nI_toInt (n := nw) (by omega); have zs := nI_toInt (n := ns) (by omega); (try simp only [kFor, isI, has, noneOr, Bool.and_eq_true, Bool.or_eq_true, decide_eq_true_eq, decide_eq_false_iff_not, Bool.not_eq_true, Bool.and_eq_false_iff, Int32.lt_iff_toInt_lt, Int32.le_iff_toInt_le, eq_tI, tI_0, tI_m1, zn, zw, zs, (show (nI 0).toInt = 0 from by decide), (show (nI 1).toInt = 1 from by decide), (show (nI 2).toInt = 2 from by decide), (show (nI 3).toInt = 3 from by decide), (show (nI 150).toInt = 150 from by decide)] at c1 ⊢); first | omega | (split <;> first | omega | (split <;> first | omega | (split <;> omega)))
    exact hThr 12 ls H locs eA "steps is not 1 to 150" 28 169 32 (by rw [hk9]; decide) (by rw [hk9]; rfl) xt_A g0 g1 (fun w h => hts w (List.mem_cons_of_mem _ (List.mem_append_left _ (List.mem_append_left _ (List.mem_append_right _ (h)))))) (by decide) hl.1 dX2_foresee_12 dX2_foresee_15 dX2_foresee_16 dX2_foresee_18 dX2_foresee_21 hP hS
  · skip
    refine lv_iload_n hx hb dX2_foresee_5 rfl (lv_at hl 1 rfl) ?_
    refine lv_sipush (v := nI 150) hx hb dX2_foresee_6 rfl ?_
    refine lv_icmp_le (tgt := 22) hx hb dX2_foresee_9 (by decide) (fun c2 => ?_) (fun c2 => ?_)
    · skip
      obtain ⟨jp0, hljp0, hhjp0, rfl⟩ := nat_in (x := p0) (lo := 1) (hi := 150) (by simp only [Int32.lt_iff_toInt_lt, Int32.le_iff_toInt_le, tI_0, (show (nI 0).toInt = 0 from by decide), (show (nI 1).toInt = 1 from by decide), (show (nI 2).toInt = 2 from by decide), (show (nI 3).toInt = 3 from by decide), (show (nI 150).toInt = 150 from by decide)] at c1 c2; omega) (by decide)
      refine lv_iload_n hx hb dX2_foresee_22 rfl (lv_at hl 2 rfl) ?_
      refine lv_if_lt (tgt := 31) hx hb dX2_foresee_23 (by decide) (fun c3 => ?_) (fun c3 => ?_)
      · skip
        have hk9 : kFor n (nI jp0) p1 = 2 := by have zn := nI_toInt (n := n) (by omega); have zw := nI_toInt (n := nw) (by omega); have zs := nI_toInt (n := ns) (by omega); have zjp0 := nI_toInt (n := jp0) (by omega); (try simp only [kFor, isI, has, noneOr, Bool.and_eq_true, Bool.or_eq_true, decide_eq_true_eq, decide_eq_false_iff_not, Bool.not_eq_true, Bool.and_eq_false_iff, Int32.lt_iff_toInt_lt, Int32.le_iff_toInt_le, eq_tI, tI_0, tI_m1, zn, zw, zs, zjp0, (show (nI 0).toInt = 0 from by decide), (show (nI 1).toInt = 1 from by decide), (show (nI 2).toInt = 2 from by decide), (show (nI 3).toInt = 3 from by decide), (show (nI 150).toInt = 150 from by decide), nN_nI (show jp0 < 2 ^ 31 by omega)] at c1 c2 c3 ⊢); first | omega | (split <;> first | omega | (split <;> first | omega | (split <;> omega)))
        exact hThr 31 ls H locs eI "what is not 0 to 2" 55 171 59 (by rw [hk9]; decide) (by rw [hk9]; rfl) xt_I g2 g3 (fun w h => hts w (List.mem_cons_of_mem _ (List.mem_append_left _ (List.mem_append_right _ (h))))) (by decide) hl.1 dX2_foresee_31 dX2_foresee_34 dX2_foresee_35 dX2_foresee_37 dX2_foresee_40 hP hS
      · skip
        refine lv_iload_n hx hb dX2_foresee_26 rfl (lv_at hl 2 rfl) ?_
        refine lv_iconst (v := nI 3) hx hb dX2_foresee_27 rfl ?_
        refine lv_icmp_lt (tgt := 41) hx hb dX2_foresee_28 (by decide) (fun c4 => ?_) (fun c4 => ?_)
        · skip
          obtain ⟨jp1, hljp1, hhjp1, rfl⟩ := nat_in (x := p1) (lo := 0) (hi := 2) (by simp only [Int32.lt_iff_toInt_lt, Int32.le_iff_toInt_le, tI_0, (show (nI 0).toInt = 0 from by decide), (show (nI 1).toInt = 1 from by decide), (show (nI 2).toInt = 2 from by decide), (show (nI 3).toInt = 3 from by decide), (show (nI 150).toInt = 150 from by decide)] at c3 c4; omega) (by decide)
          refine lv_aload_n hx hb dX2_foresee_41 rfl (lv_at hl 0 rfl) ?_
          refine li_gf2 hx hb hX2 hown hK hP 40 rfl 0 (by decide) f10 rfl dX2_foresee_42 ?_
          refine li_gf1 hx hb hX1 hown hK hP 16 rfl 0 (by decide) f35 rfl dX2_foresee_45 ?_
          refine li_ne0 (tgt := 61) hx hb dX2_foresee_48 (by decide) (by omega) (fun c5 => ?_) (fun c5 => ?_)
          · skip
            have hn0 : 0 < n := by omega
            refine lv_aload_n hx hb dX2_foresee_61 rfl (lv_at hl 0 rfl) ?_
            refine li_gf2 hx hb hX2 hown hK hP 40 rfl 2 (by decide) f25 rfl dX2_foresee_62 ?_
            refine lv_aload_n hx hb dX2_foresee_65 rfl (lv_at hl 0 rfl) ?_
            refine li_gf2 hx hb hX2 hown hK hP 40 rfl 1 (by decide) f21 rfl dX2_foresee_66 ?_
            refine muV (As := [.ref (a 0)]) (q0 := 24) (ci := 0) hx hb hml hown hts (c_X0_becomeLike l D cI cZ cL cO a n pl nw ns σ κ σ' κ' H A hA (hB) (hI.2.1.1)) (cwV 1 hts gX2_foresee_X0_becomeLike rfl rfl rfl (by decide +kernel) ⟨by decide, by decide⟩) hK hE hP rfl rfl rfl rfl hl.1 rfl (Nat.le_of_ble_eq_true rfl) hS (fun _ h => h) dX2_foresee_69 ⟨Nat.zero_le _, Nat.zero_le _⟩ (fun G locs hP _ _ hS => ?_)
            refine lv_aload_n hx hb dX2_foresee_72 rfl (lv_at hl 0 rfl) ?_
            refine li_gf2 hx hb hX2 hown hK hP 40 rfl 2 (by decide) f25 rfl dX2_foresee_73 ?_
            refine lv_iload_n hx hb dX2_foresee_76 rfl (lv_at hl 1 rfl) ?_
            refine muV (As := [.int (nI jp0)]) (q0 := 0) (ci := 0) hx hb hml hown hts (c_X0_takeSteps l D cI cZ cL cO (ah a) n pl nw ns σ κ' G jp0 (A_ (ah a) 24) ((ah_ok hA).A_ (by decide)) (hB) (t) (hI.2.1) (by omega)) (cwV 1 hts gX2_foresee_X0_takeSteps rfl rfl rfl (by decide +kernel) ⟨by decide, by decide⟩) hK hE (subY (fun _ _ => rfl) hP) rfl rfl rfl rfl hl.1 rfl (Nat.le_of_ble_eq_true rfl) hS (ak_of (ah_ok hA)) dX2_foresee_77 ⟨Nat.zero_le _, Nat.zero_le _⟩ (fun G locs hP1 _ hk1 hS => ?_)
            replace hP := jnY hA (fun r hr => tsN_row (by omega) _) hP hP1 hk1
            replace hP : va_P D vwCl (wX cI cZ a n pl nw ns σ κ ((tsN n pl nw ns jp0 (σ, κ')).1) ((tsN n pl nw ns jp0 (σ, κ')).2)) G := hP
            refine lv_iload_n hx hb dX2_foresee_80 rfl (lv_at hl 2 rfl) ?_
            rcases (show jp1 = 0 ∨ jp1 = 1 ∨ jp1 = 2 from by omega) with rfl | rfl | rfl
            · refine lv_lookup (off := 27) (tgt := 108) hx hb dX2_foresee_81 (by decide) (by decide) (by decide) ?_
              refine lv_aload_n hx hb dX2_foresee_108 rfl (lv_at hl 0 rfl) ?_
              refine li_gf2 hx hb hX2 hown hK hP 40 rfl 2 (by decide) f25 rfl dX2_foresee_109 ?_
              refine lv_iconst (v := nI 2) hx hb dX2_foresee_112 rfl ?_
              refine roV (As := [.int (nI 2)]) (q0 := 0) (ci := 0) hx hb hml hown hts (c_X0_howManyAre l D cI cZ cL cO (ah a) n pl nw ns ((tsN n pl nw ns jp0 (σ, κ')).1) ((tsN n pl nw ns jp0 (σ, κ')).2) G (nI 2) (hB)) (cwV 1 hts gX2_foresee_X0_howManyAre rfl rfl rfl (by decide +kernel) ⟨by decide, by decide⟩) hK hE (subY (fun r hr => tsN_row (by omega) _) hP) rfl rfl rfl rfl hl.1 rfl (Nat.le_of_ble_eq_true rfl) hS dX2_foresee_113 ⟨Nat.zero_le _, Nat.zero_le _⟩ (fun locs hS => ?_)
              have hk9 : kFor n (nI jp0) (nI 0) = 0 := by have zn := nI_toInt (n := n) (by omega); have zw := nI_toInt (n := nw) (by omega); have zs := nI_toInt (n := ns) (by omega); have zjp0 := nI_toInt (n := jp0) (by omega); (try simp only [kFor, isI, has, noneOr, Bool.and_eq_true, Bool.or_eq_true, decide_eq_true_eq, decide_eq_false_iff_not, Bool.not_eq_true, Bool.and_eq_false_iff, Int32.lt_iff_toInt_lt, Int32.le_iff_toInt_le, eq_tI, tI_0, tI_m1, zn, zw, zs, zjp0, (show (nI 0).toInt = 0 from by decide), (show (nI 1).toInt = 1 from by decide), (show (nI 2).toInt = 2 from by decide), (show (nI 3).toInt = 3 from by decide), (show (nI 150).toInt = 150 from by decide), nN_nI (show jp0 < 2 ^ 31 by omega)] at c1 c2 c3 c4 c5 ⊢); first | omega | (split <;> first | omega | (split <;> first | omega | (split <;> omega)))
              refine li_topi (show nI (hm ((tsN n pl nw ns jp0 (σ, κ')).1) nw (nI 2)) = vFor n pl nw ns σ (nI jp0) (nI 0) from by unfold vFor; rw [hk9, ifk_0 rfl, nN_nI (show jp0 < 2 ^ 31 by omega)]; (try rw [nN_nI (show (0 : Nat) < 2 ^ 31 by decide)]); (try rw [nN_nI (show (1 : Nat) < 2 ^ 31 by decide)]); (try rw [nN_nI (show (2 : Nat) < 2 ^ 31 by decide)]); rw [← trj_any (κ := κ') hn0 hI]; rfl) ?_
              exact hEnd 116 ls G locs (κ, (tsN n pl nw ns jp0 (σ, κ')).1, (tsN n pl nw ns jp0 (σ, κ')).2) hk9 dX2_foresee_116 hP hS
            · refine lv_lookup (off := 36) (tgt := 117) hx hb dX2_foresee_81 (by decide) (by decide) (by decide) ?_
              refine lv_aload_n hx hb dX2_foresee_117 rfl (lv_at hl 0 rfl) ?_
              refine li_gf2 hx hb hX2 hown hK hP 40 rfl 2 (by decide) f25 rfl dX2_foresee_118 ?_
              refine roV (As := []) (q0 := 0) (ci := 0) hx hb hml hown hts (c_X0_lanternsBurning l D cI cZ cL cO (ah a) n pl nw ns ((tsN n pl nw ns jp0 (σ, κ')).1) ((tsN n pl nw ns jp0 (σ, κ')).2) G (hB)) (cwV 0 hts gX2_foresee_X0_lanternsBurning rfl rfl rfl (by decide +kernel) ⟨by decide, by decide⟩) hK hE (subY (fun r hr => tsN_row (by omega) _) hP) rfl rfl rfl rfl hl.1 rfl (Nat.le_of_ble_eq_true rfl) hS dX2_foresee_121 ⟨Nat.zero_le _, Nat.zero_le _⟩ (fun locs hS => ?_)
              have hk9 : kFor n (nI jp0) (nI 1) = 0 := by have zn := nI_toInt (n := n) (by omega); have zw := nI_toInt (n := nw) (by omega); have zs := nI_toInt (n := ns) (by omega); have zjp0 := nI_toInt (n := jp0) (by omega); (try simp only [kFor, isI, has, noneOr, Bool.and_eq_true, Bool.or_eq_true, decide_eq_true_eq, decide_eq_false_iff_not, Bool.not_eq_true, Bool.and_eq_false_iff, Int32.lt_iff_toInt_lt, Int32.le_iff_toInt_le, eq_tI, tI_0, tI_m1, zn, zw, zs, zjp0, (show (nI 0).toInt = 0 from by decide), (show (nI 1).toInt = 1 from by decide), (show (nI 2).toInt = 2 from by decide), (show (nI 3).toInt = 3 from by decide), (show (nI 150).toInt = 150 from by decide), nN_nI (show jp0 < 2 ^ 31 by omega)] at c1 c2 c3 c4 c5 ⊢); first | omega | (split <;> first | omega | (split <;> first | omega | (split <;> omega)))
              refine li_topi (show nI (lb ((tsN n pl nw ns jp0 (σ, κ')).1) nw) = vFor n pl nw ns σ (nI jp0) (nI 1) from by unfold vFor; rw [hk9, ifk_0 rfl, nN_nI (show jp0 < 2 ^ 31 by omega)]; (try rw [nN_nI (show (0 : Nat) < 2 ^ 31 by decide)]); (try rw [nN_nI (show (1 : Nat) < 2 ^ 31 by decide)]); (try rw [nN_nI (show (2 : Nat) < 2 ^ 31 by decide)]); rw [← trj_any (κ := κ') hn0 hI]; rfl) ?_
              exact hEnd 124 ls G locs (κ, (tsN n pl nw ns jp0 (σ, κ')).1, (tsN n pl nw ns jp0 (σ, κ')).2) hk9 dX2_foresee_124 hP hS
            · refine lv_lookup (off := 44) (tgt := 125) hx hb dX2_foresee_81 (by decide) (by decide) (by decide) ?_
              refine lv_aload_n hx hb dX2_foresee_125 rfl (lv_at hl 0 rfl) ?_
              refine li_gf2 hx hb hX2 hown hK hP 40 rfl 2 (by decide) f25 rfl dX2_foresee_126 ?_
              refine roV (As := []) (q0 := 0) (ci := 0) hx hb hml hown hts (c_X0_songsKnownInAll l D cI cZ cL cO (ah a) n pl nw ns ((tsN n pl nw ns jp0 (σ, κ')).1) ((tsN n pl nw ns jp0 (σ, κ')).2) G (hB)) (cwV 0 hts gX2_foresee_X0_songsKnownInAll rfl rfl rfl (by decide +kernel) ⟨by decide, by decide⟩) hK hE (subY (fun r hr => tsN_row (by omega) _) hP) rfl rfl rfl rfl hl.1 rfl (Nat.le_of_ble_eq_true rfl) hS dX2_foresee_129 ⟨Nat.zero_le _, Nat.zero_le _⟩ (fun locs hS => ?_)
              have hk9 : kFor n (nI jp0) (nI 2) = 0 := by have zn := nI_toInt (n := n) (by omega); have zw := nI_toInt (n := nw) (by omega); have zs := nI_toInt (n := ns) (by omega); have zjp0 := nI_toInt (n := jp0) (by omega); (try simp only [kFor, isI, has, noneOr, Bool.and_eq_true, Bool.or_eq_true, decide_eq_true_eq, decide_eq_false_iff_not, Bool.not_eq_true, Bool.and_eq_false_iff, Int32.lt_iff_toInt_lt, Int32.le_iff_toInt_le, eq_tI, tI_0, tI_m1, zn, zw, zs, zjp0, (show (nI 0).toInt = 0 from by decide), (show (nI 1).toInt = 1 from by decide), (show (nI 2).toInt = 2 from by decide), (show (nI 3).toInt = 3 from by decide), (show (nI 150).toInt = 150 from by decide), nN_nI (show jp0 < 2 ^ 31 by omega)] at c1 c2 c3 c4 c5 ⊢); first | omega | (split <;> first | omega | (split <;> first | omega | (split <;> omega)))
              refine li_topi (show nI (sumN (kn ((tsN n pl nw ns jp0 (σ, κ')).1) nw) ns) = vFor n pl nw ns σ (nI jp0) (nI 2) from by unfold vFor; rw [hk9, ifk_0 rfl, nN_nI (show jp0 < 2 ^ 31 by omega)]; (try rw [nN_nI (show (0 : Nat) < 2 ^ 31 by decide)]); (try rw [nN_nI (show (1 : Nat) < 2 ^ 31 by decide)]); (try rw [nN_nI (show (2 : Nat) < 2 ^ 31 by decide)]); rw [← trj_any (κ := κ') hn0 hI]; rfl) ?_
              exact hEnd 132 ls G locs (κ, (tsN n pl nw ns jp0 (σ, κ')).1, (tsN n pl nw ns jp0 (σ, κ')).2) hk9 dX2_foresee_132 hP hS
          · skip
            have hk9 : kFor n (nI jp0) (nI jp1) = 3 := by have zn := nI_toInt (n := n) (by omega); have zw := nI_toInt (n := nw) (by omega); have zs := nI_toInt (n := ns) (by omega); have zjp0 := nI_toInt (n := jp0) (by omega); have zjp1 := nI_toInt (n := jp1) (by omega); (try simp only [kFor, isI, has, noneOr, Bool.and_eq_true, Bool.or_eq_true, decide_eq_true_eq, decide_eq_false_iff_not, Bool.not_eq_true, Bool.and_eq_false_iff, Int32.lt_iff_toInt_lt, Int32.le_iff_toInt_le, eq_tI, tI_0, tI_m1, zn, zw, zs, zjp0, zjp1, (show (nI 0).toInt = 0 from by decide), (show (nI 1).toInt = 1 from by decide), (show (nI 2).toInt = 2 from by decide), (show (nI 3).toInt = 3 from by decide), (show (nI 150).toInt = 150 from by decide), nN_nI (show jp0 < 2 ^ 31 by omega), nN_nI (show jp1 < 2 ^ 31 by omega)] at c1 c2 c3 c4 c5 ⊢); first | omega | (split <;> first | omega | (split <;> first | omega | (split <;> omega)))
            exact hThr 51 ls H locs eS "the route has no stretch" 42 155 46 (by rw [hk9]; decide) (by rw [hk9]; rfl) xt_S g8 g9 (fun w h => hts w (List.mem_cons_of_mem _ (List.mem_append_right _ (h)))) (by decide) hl.1 dX2_foresee_51 dX2_foresee_54 dX2_foresee_55 dX2_foresee_57 dX2_foresee_60 hP hS
        · skip
          have hk9 : kFor n (nI jp0) p1 = 2 := by have zn := nI_toInt (n := n) (by omega); have zw := nI_toInt (n := nw) (by omega); have zs := nI_toInt (n := ns) (by omega); have zjp0 := nI_toInt (n := jp0) (by omega); (try simp only [kFor, isI, has, noneOr, Bool.and_eq_true, Bool.or_eq_true, decide_eq_true_eq, decide_eq_false_iff_not, Bool.not_eq_true, Bool.and_eq_false_iff, Int32.lt_iff_toInt_lt, Int32.le_iff_toInt_le, eq_tI, tI_0, tI_m1, zn, zw, zs, zjp0, (show (nI 0).toInt = 0 from by decide), (show (nI 1).toInt = 1 from by decide), (show (nI 2).toInt = 2 from by decide), (show (nI 3).toInt = 3 from by decide), (show (nI 150).toInt = 150 from by decide), nN_nI (show jp0 < 2 ^ 31 by omega)] at c1 c2 c3 c4 ⊢); first | omega | (split <;> first | omega | (split <;> first | omega | (split <;> omega)))
          exact hThr 31 ls H locs eI "what is not 0 to 2" 55 171 59 (by rw [hk9]; decide) (by rw [hk9]; rfl) xt_I g2 g3 (fun w h => hts w (List.mem_cons_of_mem _ (List.mem_append_left _ (List.mem_append_right _ (h))))) (by decide) hl.1 dX2_foresee_31 dX2_foresee_34 dX2_foresee_35 dX2_foresee_37 dX2_foresee_40 hP hS
    · skip
      have hk9 : kFor n p0 p1 = 1 := by have zn := nI_toInt (n := n) (by omega); have zw := nI_toInt (n := nw) (by omega); have zs := nI_toInt (n := ns) (by omega); (try simp only [kFor, isI, has, noneOr, Bool.and_eq_true, Bool.or_eq_true, decide_eq_true_eq, decide_eq_false_iff_not, Bool.not_eq_true, Bool.and_eq_false_iff, Int32.lt_iff_toInt_lt, Int32.le_iff_toInt_le, eq_tI, tI_0, tI_m1, zn, zw, zs, (show (nI 0).toInt = 0 from by decide), (show (nI 1).toInt = 1 from by decide), (show (nI 2).toInt = 2 from by decide), (show (nI 3).toInt = 3 from by decide), (show (nI 150).toInt = 150 from by decide)] at c1 c2 ⊢); first | omega | (split <;> first | omega | (split <;> first | omega | (split <;> omega)))
      exact hThr 12 ls H locs eA "steps is not 1 to 150" 28 169 32 (by rw [hk9]; decide) (by rw [hk9]; rfl) xt_A g0 g1 (fun w h => hts w (List.mem_cons_of_mem _ (List.mem_append_left _ (List.mem_append_left _ (List.mem_append_right _ (h)))))) (by decide) hl.1 dX2_foresee_12 dX2_foresee_15 dX2_foresee_16 dX2_foresee_18 dX2_foresee_21 hP hS
set_option maxHeartbeats 4000000 in
set_option maxRecDepth 100000 in
theorem c_X2_home (l : Launch) (D : va_G) (cI cZ cL cO : ClassId) (a : Nat → Nat) (n pl nw ns : Nat) (σ κ σ' κ' : Sg) (H : Heap) (p0 : Int32) (A : Nat → Prop) (hA : okP A a 41) (hB : n ≤ 10 ∧ pl ≤ 200 ∧ nw ≤ 20 ∧ ns ≤ 6) (t : Nat) (hI : INV n pl nw ns t σ) (ht : t < 2 ^ 30) (hK0 : (kHome nw p0) = 0) : Met l yX2_home wsX2_home ({ frames := 6, cells := 0, slots := 0, locals := 113 } : Room) (ro_P D (T4 cI cZ cL cO) (wX cI cZ a n pl nw ns σ κ σ' κ') H [.ref (a 40), .int p0]) (ay_Q D (vHome n pl nw ns σ p0) (fun u : S3 => wX cI cZ a n pl nw ns σ u.1 u.2.1 u.2.2) A) 0 0 A := by
  refine ay_of (K := (kHome nw p0)) (nm := (nmK [eI])) (cc := cX2_home) (maxL := 3) hK0 (by decide) rfl rfl (Nat.le_of_ble_eq_true rfl) ?_
  intro p e s m args below meth c Q ls locs hx hb hml hown hts hK hE hP hl hS hEnd hThr
  have hl : lv_has ls 3 [(0, .ref (a 40)), (1, .int p0)] := hl
  have hX0 : ∀ w ∈ wsX00, w.before args s = true := fun w h => hts w (List.mem_cons_of_mem _ (List.mem_append_left _ (List.mem_append_left _ (List.mem_append_right _ (h)))))
  have hX1 : ∀ w ∈ wsX10, w.before args s = true := fun w h => hts w (List.mem_cons_of_mem _ (List.mem_append_left _ (List.mem_append_right _ (h))))
  have hX2 : ∀ w ∈ wsX20, w.before args s = true := fun w h => hts w (List.mem_cons_of_mem _ (List.mem_append_left _ (List.mem_append_left _ (List.mem_append_left _ (List.mem_append_right _ (h))))))
  have f10 : (Cond.fieldLink RX2 10 "LanternWalk" "setting" "LLanternWalk$Setting;").before args s = true := hts _ (List.mem_of_getElem? (i := 3) rfl)
  have f21 : (Cond.fieldLink RX2 21 "LanternWalk" "now" "LLanternWalk$Parade;").before args s = true := hts _ (List.mem_of_getElem? (i := 4) rfl)
  have f95 : (Cond.fieldLink RX2 95 "LanternWalk$Parade" "stage" "[I").before args s = true := hts _ (List.mem_of_getElem? (i := 5) rfl)
  have f35 : (Cond.fieldLink RX2 35 "LanternWalk$Setting" "stretches" "I").before args s = true := hts _ (List.mem_of_getElem? (i := 6) rfl)
  have f25 : (Cond.fieldLink RX2 25 "LanternWalk" "ahead" "LLanternWalk$Parade;").before args s = true := hts _ (List.mem_of_getElem? (i := 7) rfl)
  have g5 : (Cond.classLink RX2 55 "java/lang/IndexOutOfBoundsException").before args s = true := hts _ (List.mem_of_getElem? (i := 1) rfl)
  have g6 : (Cond.initialized "java/lang/IndexOutOfBoundsException").before args s = true := hts _ (List.mem_of_getElem? (i := 2) rfl)
  refine lv_aload_n hx hb dX2_home_0 rfl (lv_at hl 0 rfl) ?_
  refine li_gf2 hx hb hX2 hown hK hP 40 rfl 0 (by decide) f10 rfl dX2_home_1 ?_
  refine lv_iload_n hx hb dX2_home_4 rfl (lv_at hl 1 rfl) ?_
  refine roV (As := [.int p0]) (q0 := 16) (ci := 1) hx hb hml hown hts (c_X1_hasWalker l D cI cZ cL cO a n pl nw ns σ κ H p0 (hB)) (cwV 1 hts gX2_home_X1_hasWalker rfl rfl rfl (by decide +kernel) ⟨by decide, by decide⟩) hK hE (hP.sub (ws' := wP cI cZ a n pl nw ns σ κ) i24 rfl) rfl rfl rfl rfl hl.1 rfl (Nat.le_of_ble_eq_true rfl) hS dX2_home_5 ⟨Nat.zero_le _, Nat.zero_le _⟩ (fun locs hS => ?_)
  refine li_zne (tgt := 21) hx hb dX2_home_8 (by decide) (fun c1 => ?_) (fun c1 => ?_)
  · skip
    obtain ⟨jp0, hhjp0, rfl⟩ := has_nat (by omega) c1
    refine lv_aload_n hx hb dX2_home_21 rfl (lv_at hl 0 rfl) ?_
    refine li_gf2 hx hb hX2 hown hK hP 40 rfl 1 (by decide) f21 rfl dX2_home_22 ?_
    refine li_gf0 hx hb hX0 hown hK hP 0 rfl 7 (by decide) f95 rfl dX2_home_25 ?_
    refine lv_iload_n hx hb dX2_home_28 rfl (lv_at hl 1 rfl) ?_
    refine li_ild hx hb hK hP 6 0 rfl rfl (by omega) (by decide) dX2_home_29 ?_
    refine lv_iconst (v := nI 2) hx hb dX2_home_30 rfl ?_
    refine lv_icmp_ne (tgt := 36) hx hb dX2_home_31 (by decide) (fun c2 => ?_) (fun c2 => ?_)
    · skip
      have hst := c2
      refine lv_aload_n hx hb dX2_home_36 rfl (lv_at hl 0 rfl) ?_
      refine li_gf2 hx hb hX2 hown hK hP 40 rfl 0 (by decide) f10 rfl dX2_home_37 ?_
      refine li_gf1 hx hb hX1 hown hK hP 16 rfl 0 (by decide) f35 rfl dX2_home_40 ?_
      refine li_ne0 (tgt := 48) hx hb dX2_home_43 (by decide) (by omega) (fun c3 => ?_) (fun c3 => ?_)
      · skip
        have hn0 : 0 < n := by omega
        refine lv_aload_n hx hb dX2_home_48 rfl (lv_at hl 0 rfl) ?_
        refine li_gf2 hx hb hX2 hown hK hP 40 rfl 2 (by decide) f25 rfl dX2_home_49 ?_
        refine lv_aload_n hx hb dX2_home_52 rfl (lv_at hl 0 rfl) ?_
        refine li_gf2 hx hb hX2 hown hK hP 40 rfl 1 (by decide) f21 rfl dX2_home_53 ?_
        refine muV (As := [.ref (a 0)]) (q0 := 24) (ci := 0) hx hb hml hown hts (c_X0_becomeLike l D cI cZ cL cO a n pl nw ns σ κ σ' κ' H A hA (hB) (hI.2.1.1)) (cwV 1 hts gX2_home_X0_becomeLike rfl rfl rfl (by decide +kernel) ⟨by decide, by decide⟩) hK hE hP rfl rfl rfl rfl hl.1 rfl (Nat.le_of_ble_eq_true rfl) hS (fun _ h => h) dX2_home_56 ⟨Nat.zero_le _, Nat.zero_le _⟩ (fun G locs hP _ _ hS => ?_)
        refine lv_iconst (v := nI 1) hx hb dX2_home_59 rfl ?_
        refine lv_istore_n (lv' := [(2, .int (nI 1)), (0, .ref (a 40)), (1, .int (nI jp0))]) hx hb dX2_home_60 rfl hl (by decide) rfl (fun ls hl => ?_)
        have L61_4 : ∀ (fuel : Nat) (k : Nat), (300 - k) < fuel → (k ≤ 300) → (fnd (hoS n pl nw ns σ jp0) (k + 1) = none) → ∀ (G : Heap) (locs : List Loc), va_P D vwCl (wX cI cZ a n pl nw ns σ κ ((tsN n pl nw ns k (σ, κ')).1) ((tsN n pl nw ns k (σ, κ')).2)) G → va_S A H G locs → ∀ (ls : Array Slot), lv_has ls 3 [(2, .int (nI (k + 1))), (0, .ref (a 40)), (1, .int (nI jp0))] → W p l e ({ frames := 6, cells := 0, slots := 0, locals := 113 } : Room) s m args below meth c G locs 0 0 Q (F0 m 61 ls []) := by
          intro fuel
          induction fuel with
          | zero =>
            intro k hfuel
            exact absurd hfuel (Nat.not_lt_zero _)
          | succ fuel ih61 =>
            intro k hfuel61 hk hh G locs hP hS ls hl
            refine lv_iload_n hx hb dX2_home_61 rfl (lv_at hl 0 rfl) ?_
            refine lv_sipush (v := nI 300) hx hb dX2_home_62 rfl ?_
            refine li_gt (tgt := 96) hx hb dX2_home_65 (by decide) (by omega) (by omega) (fun c5 => ?_) (fun c5 => ?_)
            · skip
              refine lv_iconst (v := (-1)) hx hb dX2_home_96 rfl ?_
              have hk9 : kHome nw (nI jp0) = 0 := by have zn := nI_toInt (n := n) (by omega); have zw := nI_toInt (n := nw) (by omega); have zs := nI_toInt (n := ns) (by omega); have zjp0 := nI_toInt (n := jp0) (by omega); (try simp only [kHome, isI, has, noneOr, Bool.and_eq_true, Bool.or_eq_true, decide_eq_true_eq, decide_eq_false_iff_not, Bool.not_eq_true, Bool.and_eq_false_iff, Int32.lt_iff_toInt_lt, Int32.le_iff_toInt_le, eq_tI, tI_0, tI_m1, zn, zw, zs, zjp0, (show (nI 0).toInt = 0 from by decide), (show (nI 1).toInt = 1 from by decide), (show (nI 2).toInt = 2 from by decide), nN_nI (show jp0 < 2 ^ 31 by omega)] at c1 c2 c3 c5 ⊢); first | omega | (split <;> first | omega | (split <;> first | omega | (split <;> omega)))
              refine li_topi (show (-1) = vHome n pl nw ns σ (nI jp0) from by unfold vHome; rw [hk9, ifk_0 rfl, nN_nI (show jp0 < 2 ^ 31 by omega)]; first | exact (hoV_0 (by assumption)).symm | exact (hoV_1 (by assumption) (by assumption)).symm | exact (hoV_s hst hn0 (by omega) hh (by rw [← trj_any (κ := κ') hn0 hI]; assumption)).symm | exact (hoV_n hst hn0 (by rw [show 301 = k + 1 by omega]; exact hh)).symm) ?_
              exact hEnd 97 ls G locs (κ, (tsN n pl nw ns k (σ, κ')).1, (tsN n pl nw ns k (σ, κ')).2) hk9 dX2_home_97 hP hS
            · skip
              refine lv_aload_n hx hb dX2_home_68 rfl (lv_at hl 1 rfl) ?_
              refine li_gf2 hx hb hX2 hown hK hP 40 rfl 2 (by decide) f25 rfl dX2_home_69 ?_
              refine muV (As := []) (q0 := 0) (ci := 0) hx hb hml hown hts (c_X0_takeStep l D cI cZ cL cO (ah a) n pl nw ns ((tsN n pl nw ns k (σ, κ')).1) ((tsN n pl nw ns k (σ, κ')).2) G (A_ (ah a) 24) ((ah_ok hA).A_ (by decide)) (hB) (t + k) ((INV_steps (q := (σ, κ')) hn0 hI k).2.1) (by omega)) (cwV 0 hts gX2_home_X0_takeStep rfl rfl rfl (by decide +kernel) ⟨by decide, by decide⟩) hK hE (subY (fun r hr => tsN_row (by omega) _) hP) rfl rfl rfl rfl hl.1 rfl (Nat.le_of_ble_eq_true rfl) hS (ak_of (ah_ok hA)) dX2_home_72 ⟨Nat.zero_le _, Nat.zero_le _⟩ (fun G locs hP1 _ hk1 hS => ?_)
              replace hP := jnY hA (fun r hr => (tsF_row (by omega)).trans (tsN_row (by omega) _)) hP hP1 hk1
              replace hP : va_P D vwCl (wX cI cZ a n pl nw ns σ κ ((tsF n pl nw ns (((tsN n pl nw ns k (σ, κ')).1), ((tsN n pl nw ns k (σ, κ')).2))).1) ((tsF n pl nw ns (((tsN n pl nw ns k (σ, κ')).1), ((tsN n pl nw ns k (σ, κ')).2))).2)) G := hP
              refine lv_aload_n hx hb dX2_home_75 rfl (lv_at hl 1 rfl) ?_
              refine li_gf2 hx hb hX2 hown hK hP 40 rfl 2 (by decide) f25 rfl dX2_home_76 ?_
              refine li_gf0 hx hb hX0 hown hK hP 24 rfl 7 (by decide) f95 rfl dX2_home_79 ?_
              refine lv_iload_n hx hb dX2_home_82 rfl (lv_at hl 2 rfl) ?_
              refine li_ild hx hb hK hP 30 0 rfl rfl (by omega) (by decide) dX2_home_83 ?_
              refine lv_iconst (v := nI 2) hx hb dX2_home_84 rfl ?_
              refine lv_icmp_ne (tgt := 90) hx hb dX2_home_85 (by decide) (fun c6 => ?_) (fun c6 => ?_)
              · skip
                refine lv_iinc (v := nI (k + 1 + 1)) (lv' := [(2, .int (nI (k + 1 + 1))), (0, .ref (a 40)), (1, .int (nI jp0))]) hx hb dX2_home_90 hl (k := 0) rfl (nI_inc _ _) (by decide) rfl (fun ls hl => ?_)
                refine lv_goto (tgt := 61) hx hb dX2_home_93 (by decide) ?_
                have hw9 : (tsF n pl nw ns (((tsN n pl nw ns k (σ, κ')).1), ((tsN n pl nw ns k (σ, κ')).2))).1 = (tsN n pl nw ns (k + 1) (σ, κ')).1 := rfl
                have hP : va_P D vwCl (wX cI cZ a n pl nw ns σ κ ((tsN n pl nw ns (k + 1) (σ, κ')).1) ((tsF n pl nw ns (((tsN n pl nw ns k (σ, κ')).1), ((tsN n pl nw ns k (σ, κ')).2))).2)) G := Eq.mp (congrArg (fun z9 => va_P D vwCl (wX cI cZ a n pl nw ns σ κ z9 ((tsF n pl nw ns (((tsN n pl nw ns k (σ, κ')).1), ((tsN n pl nw ns k (σ, κ')).2))).2)) G) hw9) hP
                clear hw9
                have hw9 : (tsF n pl nw ns (((tsN n pl nw ns k (σ, κ')).1), ((tsN n pl nw ns k (σ, κ')).2))).2 = (tsN n pl nw ns (k + 1) (σ, κ')).2 := rfl
                have hP : va_P D vwCl (wX cI cZ a n pl nw ns σ κ ((tsN n pl nw ns (k + 1) (σ, κ')).1) ((tsN n pl nw ns (k + 1) (σ, κ')).2)) G := Eq.mp (congrArg (fun z9 => va_P D vwCl (wX cI cZ a n pl nw ns σ κ ((tsN n pl nw ns (k + 1) (σ, κ')).1) z9) G) hw9) hP
                clear hw9
                have hl9 : lv_has ls 3 [(2, .int (nI (k + 1 + 1))), (0, .ref (a 40)), (1, .int (nI jp0))] := lv_sub hl [0, 1, 2] rfl
                have hl9 : lv_has ls 3 [(2, .int (nI ((k + 1) + 1))), (0, .ref (a 40)), (1, .int (nI jp0))] := lv_re hl9 0 rfl (show nI (k + 1 + 1) = nI ((k + 1) + 1) from by simp [c1, c2, c3, c5, c6])
                exact ih61 (k + 1) (by omega) (by omega) (fnd_n hh (by unfold hoS; rw [← trj_any (κ := κ') hn0 hI]; exact decide_eq_false c6)) G locs hP hS ls hl9
              · skip
                refine lv_iload_n hx hb dX2_home_88 rfl (lv_at hl 0 rfl) ?_
                have hk9 : kHome nw (nI jp0) = 0 := by have zn := nI_toInt (n := n) (by omega); have zw := nI_toInt (n := nw) (by omega); have zs := nI_toInt (n := ns) (by omega); have zjp0 := nI_toInt (n := jp0) (by omega); (try simp only [kHome, isI, has, noneOr, Bool.and_eq_true, Bool.or_eq_true, decide_eq_true_eq, decide_eq_false_iff_not, Bool.not_eq_true, Bool.and_eq_false_iff, Int32.lt_iff_toInt_lt, Int32.le_iff_toInt_le, eq_tI, tI_0, tI_m1, zn, zw, zs, zjp0, (show (nI 0).toInt = 0 from by decide), (show (nI 1).toInt = 1 from by decide), (show (nI 2).toInt = 2 from by decide), nN_nI (show jp0 < 2 ^ 31 by omega)] at c1 c2 c3 c5 c6 ⊢); first | omega | (split <;> first | omega | (split <;> first | omega | (split <;> omega)))
                refine li_topi (show nI (k + 1) = vHome n pl nw ns σ (nI jp0) from by unfold vHome; rw [hk9, ifk_0 rfl, nN_nI (show jp0 < 2 ^ 31 by omega)]; first | exact (hoV_0 (by assumption)).symm | exact (hoV_1 (by assumption) (by assumption)).symm | exact (hoV_s hst hn0 (by omega) hh (by rw [← trj_any (κ := κ') hn0 hI]; assumption)).symm | exact (hoV_n hst hn0 (by rw [show 301 = k + 1 by omega]; exact hh)).symm) ?_
                exact hEnd 89 ls G locs (κ, (tsF n pl nw ns (((tsN n pl nw ns k (σ, κ')).1), ((tsN n pl nw ns k (σ, κ')).2))).1, (tsF n pl nw ns (((tsN n pl nw ns k (σ, κ')).1), ((tsN n pl nw ns k (σ, κ')).2))).2) hk9 dX2_home_89 hP hS
        have hw9 : σ = (tsN n pl nw ns 0 (σ, κ')).1 := rfl
        have hP : va_P D vwCl (wX cI cZ a n pl nw ns σ κ ((tsN n pl nw ns 0 (σ, κ')).1) κ') G := Eq.mp (congrArg (fun z9 => va_P D vwCl (wX cI cZ a n pl nw ns σ κ z9 κ') G) hw9) hP
        clear hw9
        have hw9 : κ' = (tsN n pl nw ns 0 (σ, κ')).2 := rfl
        have hP : va_P D vwCl (wX cI cZ a n pl nw ns σ κ ((tsN n pl nw ns 0 (σ, κ')).1) ((tsN n pl nw ns 0 (σ, κ')).2)) G := Eq.mp (congrArg (fun z9 => va_P D vwCl (wX cI cZ a n pl nw ns σ κ ((tsN n pl nw ns 0 (σ, κ')).1) z9) G) hw9) hP
        clear hw9
        have hl9 : lv_has ls 3 [(2, .int (nI 1)), (0, .ref (a 40)), (1, .int (nI jp0))] := lv_sub hl [0, 1, 2] rfl
        have hl9 : lv_has ls 3 [(2, .int (nI (0 + 1))), (0, .ref (a 40)), (1, .int (nI jp0))] := lv_re hl9 0 rfl (show nI 1 = nI (0 + 1) from by simp [c1, c2, c3])
        exact L61_4 ((300 - 0) + 1) 0 (Nat.lt_succ_self _) (by omega) (fnd_n rfl (decide_eq_false hst)) G locs hP hS ls hl9
      · skip
        refine lv_iconst (v := (-1)) hx hb dX2_home_46 rfl ?_
        have hk9 : kHome nw (nI jp0) = 0 := by have zn := nI_toInt (n := n) (by omega); have zw := nI_toInt (n := nw) (by omega); have zs := nI_toInt (n := ns) (by omega); have zjp0 := nI_toInt (n := jp0) (by omega); (try simp only [kHome, isI, has, noneOr, Bool.and_eq_true, Bool.or_eq_true, decide_eq_true_eq, decide_eq_false_iff_not, Bool.not_eq_true, Bool.and_eq_false_iff, Int32.lt_iff_toInt_lt, Int32.le_iff_toInt_le, eq_tI, tI_0, tI_m1, zn, zw, zs, zjp0, (show (nI 0).toInt = 0 from by decide), (show (nI 1).toInt = 1 from by decide), (show (nI 2).toInt = 2 from by decide), nN_nI (show jp0 < 2 ^ 31 by omega)] at c1 c2 c3 ⊢); first | omega | (split <;> first | omega | (split <;> first | omega | (split <;> omega)))
        refine li_topi (show (-1) = vHome n pl nw ns σ (nI jp0) from by unfold vHome; rw [hk9, ifk_0 rfl, nN_nI (show jp0 < 2 ^ 31 by omega)]; first | exact (hoV_0 (by assumption)).symm | exact (hoV_1 (by assumption) (by assumption)).symm | exact (hoV_s hst hn0 (by omega) hh (by rw [← trj_any (κ := κ') hn0 hI]; assumption)).symm | exact (hoV_n hst hn0 (by rw [show 301 = k + 1 by omega]; exact hh)).symm) ?_
        exact hEnd 47 ls H locs (κ, σ', κ') hk9 dX2_home_47 hP hS
    · skip
      refine lv_iconst (v := nI 0) hx hb dX2_home_34 rfl ?_
      have hk9 : kHome nw (nI jp0) = 0 := by have zn := nI_toInt (n := n) (by omega); have zw := nI_toInt (n := nw) (by omega); have zs := nI_toInt (n := ns) (by omega); have zjp0 := nI_toInt (n := jp0) (by omega); (try simp only [kHome, isI, has, noneOr, Bool.and_eq_true, Bool.or_eq_true, decide_eq_true_eq, decide_eq_false_iff_not, Bool.not_eq_true, Bool.and_eq_false_iff, Int32.lt_iff_toInt_lt, Int32.le_iff_toInt_le, eq_tI, tI_0, tI_m1, zn, zw, zs, zjp0, (show (nI 0).toInt = 0 from by decide), (show (nI 1).toInt = 1 from by decide), (show (nI 2).toInt = 2 from by decide), nN_nI (show jp0 < 2 ^ 31 by omega)] at c1 c2 ⊢); first | omega | (split <;> first | omega | (split <;> first | omega | (split <;> omega)))
      refine li_topi (show nI 0 = vHome n pl nw ns σ (nI jp0) from by unfold vHome; rw [hk9, ifk_0 rfl, nN_nI (show jp0 < 2 ^ 31 by omega)]; first | exact (hoV_0 (by assumption)).symm | exact (hoV_1 (by assumption) (by assumption)).symm | exact (hoV_s hst hn0 (by omega) hh (by rw [← trj_any (κ := κ') hn0 hI]; assumption)).symm | exact (hoV_n hst hn0 (by rw [show 301 = k + 1 by omega]; exact hh)).symm) ?_
      exact hEnd 35 ls H locs (κ, σ', κ') hk9 dX2_home_35 hP hS
  · skip
    have hk9 : kHome nw p0 = 1 := by have zn := nI_toInt (n := n) (by omega); have zw := nI_toInt (n := nw) (by omega); have zs := nI_toInt (n := ns) (by omega); (try simp only [kHome, isI, has, noneOr, Bool.and_eq_true, Bool.or_eq_true, decide_eq_true_eq, decide_eq_false_iff_not, Bool.not_eq_true, Bool.and_eq_false_iff, Int32.lt_iff_toInt_lt, Int32.le_iff_toInt_le, eq_tI, tI_0, tI_m1, zn, zw, zs, (show (nI 0).toInt = 0 from by decide), (show (nI 1).toInt = 1 from by decide), (show (nI 2).toInt = 2 from by decide)] at c1 ⊢); first | omega | (split <;> first | omega | (split <;> first | omega | (split <;> omega)))
    exact hThr 11 ls H locs eI "no such walker" 55 91 59 (by rw [hk9]; decide) (by rw [hk9]; rfl) xt_I g5 g6 (fun w h => hts w (List.mem_cons_of_mem _ (List.mem_append_right _ (h)))) (by decide) hl.1 dX2_home_11 dX2_home_14 dX2_home_15 dX2_home_17 dX2_home_20 hP hS
