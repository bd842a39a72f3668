/-! the model: pass -/
set_option maxHeartbeats 4000000 in
set_option maxRecDepth 100000 in
theorem c_X3_pass (l : Launch) (D : va_G) (cI cZ cL cO : ClassId) (a : Nat → Nat) (th : Int32) (n nw ns : Nat) (σ η : Sg) (H : Heap) (p0 : Int32) (A : Nat → Prop) (hA : okP A a 13) (hB : n ≤ 10 ∧ nw ≤ 20 ∧ ns ≤ 6) (pl : Nat) (t : Nat) (hI : INV n pl nw ns t σ) (hL : LZ nw ns η) (ht : t < 2 ^ 30) : Met l yX3_pass wsX3_pass ({ frames := 6, cells := 0, slots := 0, locals := 135 } : Room) (ro_P D (T4 cI cZ cL cO) (wM cI cZ a th n nw ns σ η) H [.ref (a 0), .int p0]) (mi_Q D (vPass n pl nw ns (σ, η) p0) (wM cI cZ a (nI (kPass n p0)) n nw ns ((sPass n pl nw ns (σ, η) p0).1) ((sPass n pl nw ns (σ, η) p0).2)) A) 0 0 A := by
  refine mi_of (cc := cX3_pass) (maxL := 4) (by decide) rfl (Nat.le_of_ble_eq_true rfl) rfl ?_
  intro p e s m args below meth c Q ls locs hx hb hml hown hts hK hE hP hl hS hEnd
  have hl : lv_has ls 4 [(0, .ref (a 0)), (1, .int p0)] := hl
  have hX3 : ∀ w ∈ wsX30, w.before args s = true := fun w h => hts w (List.mem_cons_of_mem _ (List.mem_append_right _ (h)))
  have f47 : (Cond.fieldLink RX3 47 "LanternWalkModel" "thrown" "I").before args s = true := hts _ (List.mem_of_getElem? (i := 1) rfl)
  have f51 : (Cond.fieldLink RX3 51 "LanternWalkModel" "stretches" "I").before args s = true := hts _ (List.mem_of_getElem? (i := 2) rfl)
  refine lv_aload_n hx hb dX3_pass_0 rfl (lv_at hl 0 rfl) ?_
  refine lv_iconst (v := nI 0) hx hb dX3_pass_1 rfl ?_
  refine li_pf3 hx hb hX3 hown hK hP hA.DM hS 0 rfl 0 (by decide) f47 rfl rfl rfl (Nat.le_of_ble_eq_true rfl) stM_th dX3_pass_2 (fun G locs hP hS => ?_)
  refine lv_iload_n hx hb dX3_pass_5 rfl (lv_at hl 1 rfl) ?_
  refine lv_iconst (v := nI 1) hx hb dX3_pass_6 rfl ?_
  refine lv_sipush (v := nI 200) hx hb dX3_pass_7 rfl ?_
  refine roS (As := [.int p0, .int (nI 1), .int (nI 200)]) hx hb hml hown hts (c_X3_isI l D cI cZ cL cO G p0 (nI 1) (nI 200)) (va_cwS 3 hts gX3_pass_X3_isIn rfl rfl rfl (by decide +kernel) ⟨by decide, by decide⟩) hK hE (hP.sub (ws' := []) [] rfl) rfl hl.1 rfl (Nat.le_of_ble_eq_true rfl) hS dX3_pass_10 ⟨Nat.zero_le _, Nat.zero_le _⟩ (fun locs hS => ?_)
  refine li_zne (tgt := 22) hx hb dX3_pass_13 (by decide) (fun c1 => ?_) (fun c1 => ?_)
  · skip
    obtain ⟨jp0, hljp0, hhjp0, rfl⟩ := isI_nat (lo := 1) (hi := 200) (by omega) (by omega) c1
    refine lv_aload_n hx hb dX3_pass_22 rfl (lv_at hl 0 rfl) ?_
    refine li_gf3 hx hb hX3 hown hK hP 0 rfl 1 (by decide) f51 rfl dX3_pass_23 ?_
    refine li_ne0 (tgt := 35) hx hb dX3_pass_26 (by decide) (by omega) (fun c2 => ?_) (fun c2 => ?_)
    · skip
      have hn0 : 0 < n := by omega
      refine lv_iconst (v := nI 0) hx hb dX3_pass_35 rfl ?_
      refine lv_istore_n (lv' := [(2, .int (nI 0)), (0, .ref (a 0)), (1, .int (nI jp0))]) hx hb dX3_pass_36 rfl hl (by decide) rfl (fun ls hl => ?_)
      refine lv_iconst (v := nI 0) hx hb dX3_pass_37 rfl ?_
      refine lv_istore_n (lv' := [(3, .int (nI 0)), (2, .int (nI 0)), (0, .ref (a 0)), (1, .int (nI jp0))]) hx hb dX3_pass_38 rfl hl (by decide) rfl (fun ls hl => ?_)
      have L39_3 : ∀ (fuel : Nat) (k : Nat), (jp0 - k) < fuel → (k ≤ jp0) → ∀ (G : Heap) (locs : List Loc), va_P D vwCl (wM cI cZ a (nI 0) n nw ns ((meN n pl nw ns k (σ, η)).1) ((meN n pl nw ns k (σ, η)).2)) G → va_S A H G locs → ∀ (ls : Array Slot), lv_has ls 4 [(3, .int (nI k)), (2, .int (nI (hm (meN n pl nw ns k (σ, η)).1 nw (nI 2)) - nI (hm σ nw (nI 2)))), (0, .ref (a 0)), (1, .int (nI jp0))] → W p l e ({ frames := 6, cells := 0, slots := 0, locals := 135 } : Room) s m args below meth c G locs 0 0 Q (F0 m 39 ls []) := by
        intro fuel
        induction fuel with
        | zero =>
          intro k hfuel
          exact absurd hfuel (Nat.not_lt_zero _)
        | succ fuel ih39 =>
          intro k hfuel39 hk G locs hP hS ls hl
          have hIk := (meN_inv (x := (σ, η)) η hn0 hI hL k).1
          refine lv_iload_n hx hb dX3_pass_39 rfl (lv_at hl 0 rfl) ?_
          refine lv_iload_n hx hb dX3_pass_40 rfl (lv_at hl 3 rfl) ?_
          refine li_ge (tgt := 57) hx hb dX3_pass_41 (by decide) (by omega) (by omega) (fun c4 => ?_) (fun c4 => ?_)
          · skip
            refine lv_iload_n hx hb dX3_pass_57 rfl (lv_at hl 1 rfl) ?_
            have hk9 : kPass n (nI jp0) = 0 := by simp [kPass, noneOr, Int32.not_lt, c1, c2, c4]
            refine li_topi (show nI (hm (meN n pl nw ns k (σ, η)).1 nw (nI 2)) - nI (hm σ nw (nI 2)) = vPass n pl nw ns (σ, η) (nI jp0) from by unfold vPass; rw [hk9]; first | rfl | (rw [ifk_0 rfl, nN_nI (by omega)]; rw [show k = jp0 by omega])) ?_
            have hw9 : nI 0 = nI (kPass n (nI jp0)) := by rw [hk9]
            have hP : va_P D vwCl (wM cI cZ a (nI (kPass n (nI jp0))) n nw ns ((meN n pl nw ns k (σ, η)).1) ((meN n pl nw ns k (σ, η)).2)) G := Eq.mp (congrArg (fun z9 => va_P D vwCl (wM cI cZ a z9 n nw ns ((meN n pl nw ns k (σ, η)).1) ((meN n pl nw ns k (σ, η)).2)) G) hw9) hP
            clear hw9
            have hw9 : (meN n pl nw ns k (σ, η)).1 = (sPass n pl nw ns (σ, η) (nI jp0)).1 := by unfold sPass; rw [hk9]; first | rfl | (rw [if_pos rfl, nN_nI (by omega)]; rw [show k = jp0 by omega])
            have hP : va_P D vwCl (wM cI cZ a (nI (kPass n (nI jp0))) n nw ns ((sPass n pl nw ns (σ, η) (nI jp0)).1) ((meN n pl nw ns k (σ, η)).2)) G := Eq.mp (congrArg (fun z9 => va_P D vwCl (wM cI cZ a (nI (kPass n (nI jp0))) n nw ns z9 ((meN n pl nw ns k (σ, η)).2)) G) hw9) hP
            clear hw9
            have hw9 : (meN n pl nw ns k (σ, η)).2 = (sPass n pl nw ns (σ, η) (nI jp0)).2 := by unfold sPass; rw [hk9]; first | rfl | (rw [if_pos rfl, nN_nI (by omega)]; rw [show k = jp0 by omega])
            have hP : va_P D vwCl (wM cI cZ a (nI (kPass n (nI jp0))) n nw ns ((sPass n pl nw ns (σ, η) (nI jp0)).1) ((sPass n pl nw ns (σ, η) (nI jp0)).2)) G := Eq.mp (congrArg (fun z9 => va_P D vwCl (wM cI cZ a (nI (kPass n (nI jp0))) n nw ns ((sPass n pl nw ns (σ, η) (nI jp0)).1) z9) G) hw9) hP
            clear hw9
            exact hEnd 58 ls G locs dX3_pass_58 hP hS
          · skip
            refine lv_iload_n hx hb dX3_pass_44 rfl (lv_at hl 1 rfl) ?_
            refine lv_aload_n hx hb dX3_pass_45 rfl (lv_at hl 2 rfl) ?_
            refine miV (As := []) (q0 := 0) (ci := 3) hx hb hml hown hts (c_X3_stepOn l D cI cZ cL cO a (nI 0) n nw ns ((meN n pl nw ns k (σ, η)).1) ((meN n pl nw ns k (σ, η)).2) G A hA (hB) (pl) (t + k) (hIk.1.2.1) (hIk.2.1) (by omega) (hIk.2.2.1) (hIk.2.2.2.1) (hIk.2.2.2.2.1) (L1_LT hIk.2.2.2.2.2.1)) (cwV 0 hts gX3_pass_X3_stepOn rfl rfl rfl (by decide +kernel) ⟨by decide, by decide⟩) hK hE hP rfl rfl rfl rfl hl.1 rfl (Nat.le_of_ble_eq_true rfl) hS (fun _ h => h) dX3_pass_46 ⟨Nat.zero_le _, Nat.zero_le _⟩ (fun G locs hP _ _ hS => ?_)
            refine lv_iadd hx hb dX3_pass_49 ?_
            refine lv_istore_n (lv' := [(2, .int ((nI (hm (meN n pl nw ns k (σ, η)).1 nw (nI 2)) - nI (hm σ nw (nI 2))) + (nI (hm (ms5 n pl nw ns ((meN n pl nw ns k (σ, η)).1) ((meN n pl nw ns k (σ, η)).2)) nw (nI 2)) - nI (hm ((meN n pl nw ns k (σ, η)).1) nw (nI 2))))), (3, .int (nI k)), (0, .ref (a 0)), (1, .int (nI jp0))]) hx hb dX3_pass_50 rfl hl (by decide) rfl (fun ls hl => ?_)
            refine lv_iinc (v := nI (k + 1)) (lv' := [(3, .int (nI (k + 1))), (2, .int ((nI (hm (meN n pl nw ns k (σ, η)).1 nw (nI 2)) - nI (hm σ nw (nI 2))) + (nI (hm (ms5 n pl nw ns ((meN n pl nw ns k (σ, η)).1) ((meN n pl nw ns k (σ, η)).2)) nw (nI 2)) - nI (hm ((meN n pl nw ns k (σ, η)).1) nw (nI 2))))), (0, .ref (a 0)), (1, .int (nI jp0))]) hx hb dX3_pass_51 hl (k := 1) rfl (nI_inc _ _) (by decide) rfl (fun ls hl => ?_)
            refine lv_goto (tgt := 39) hx hb dX3_pass_54 (by decide) ?_
            have hw9 : ms5 n pl nw ns ((meN n pl nw ns k (σ, η)).1) ((meN n pl nw ns k (σ, η)).2) = (meN n pl nw ns (k + 1) (σ, η)).1 := rfl
            have hP : va_P D vwCl (wM cI cZ a (nI 0) n nw ns ((meN n pl nw ns (k + 1) (σ, η)).1) (me5 n pl nw ns ((meN n pl nw ns k (σ, η)).1) ((meN n pl nw ns k (σ, η)).2))) G := Eq.mp (congrArg (fun z9 => va_P D vwCl (wM cI cZ a (nI 0) n nw ns z9 (me5 n pl nw ns ((meN n pl nw ns k (σ, η)).1) ((meN n pl nw ns k (σ, η)).2))) G) hw9) hP
            clear hw9
            have hw9 : me5 n pl nw ns ((meN n pl nw ns k (σ, η)).1) ((meN n pl nw ns k (σ, η)).2) = (meN n pl nw ns (k + 1) (σ, η)).2 := rfl
            have hP : va_P D vwCl (wM cI cZ a (nI 0) n nw ns ((meN n pl nw ns (k + 1) (σ, η)).1) ((meN n pl nw ns (k + 1) (σ, η)).2)) G := Eq.mp (congrArg (fun z9 => va_P D vwCl (wM cI cZ a (nI 0) n nw ns ((meN n pl nw ns (k + 1) (σ, η)).1) z9) G) hw9) hP
            clear hw9
            have hl9 : lv_has ls 4 [(3, .int (nI (k + 1))), (2, .int ((nI (hm (meN n pl nw ns k (σ, η)).1 nw (nI 2)) - nI (hm σ nw (nI 2))) + (nI (hm (ms5 n pl nw ns ((meN n pl nw ns k (σ, η)).1) ((meN n pl nw ns k (σ, η)).2)) nw (nI 2)) - nI (hm ((meN n pl nw ns k (σ, η)).1) nw (nI 2))))), (0, .ref (a 0)), (1, .int (nI jp0))] := lv_sub hl [0, 1, 2, 3] rfl
            have hl9 : lv_has ls 4 [(3, .int (nI (k + 1))), (2, .int (nI (hm (meN n pl nw ns (k + 1) (σ, η)).1 nw (nI 2)) - nI (hm σ nw (nI 2)))), (0, .ref (a 0)), (1, .int (nI jp0))] := lv_re hl9 1 rfl (show (nI (hm (meN n pl nw ns k (σ, η)).1 nw (nI 2)) - nI (hm σ nw (nI 2))) + (nI (hm (ms5 n pl nw ns ((meN n pl nw ns k (σ, η)).1) ((meN n pl nw ns k (σ, η)).2)) nw (nI 2)) - nI (hm ((meN n pl nw ns k (σ, η)).1) nw (nI 2))) = nI (hm (meN n pl nw ns (k + 1) (σ, η)).1 nw (nI 2)) - nI (hm σ nw (nI 2)) from by exact sub_sub_add _ _ _)
            exact ih39 (k + 1) (by omega) (by omega) G locs hP hS ls hl9
      have hw9 : σ = (meN n pl nw ns 0 (σ, η)).1 := rfl
      have hP : va_P D vwCl (wM cI cZ a (nI 0) n nw ns ((meN n pl nw ns 0 (σ, η)).1) η) G := Eq.mp (congrArg (fun z9 => va_P D vwCl (wM cI cZ a (nI 0) n nw ns z9 η) G) hw9) hP
      clear hw9
      have hw9 : η = (meN n pl nw ns 0 (σ, η)).2 := rfl
      have hP : va_P D vwCl (wM cI cZ a (nI 0) n nw ns ((meN n pl nw ns 0 (σ, η)).1) ((meN n pl nw ns 0 (σ, η)).2)) G := Eq.mp (congrArg (fun z9 => va_P D vwCl (wM cI cZ a (nI 0) n nw ns ((meN n pl nw ns 0 (σ, η)).1) z9) G) hw9) hP
      clear hw9
      have hl9 : lv_has ls 4 [(3, .int (nI 0)), (2, .int (nI 0)), (0, .ref (a 0)), (1, .int (nI jp0))] := lv_sub hl [0, 1, 2, 3] rfl
      have hl9 : lv_has ls 4 [(3, .int (nI 0)), (2, .int (nI (hm (meN n pl nw ns 0 (σ, η)).1 nw (nI 2)) - nI (hm σ nw (nI 2)))), (0, .ref (a 0)), (1, .int (nI jp0))] := lv_re hl9 1 rfl (show nI 0 = nI (hm (meN n pl nw ns 0 (σ, η)).1 nw (nI 2)) - nI (hm σ nw (nI 2)) from by exact (Int32.sub_self _).symm)
      exact L39_3 ((jp0 - 0) + 1) 0 (Nat.lt_succ_self _) (by omega) G locs hP hS ls hl9
    · skip
      refine lv_aload_n hx hb dX3_pass_29 rfl (lv_at hl 0 rfl) ?_
      refine lv_iconst (v := nI 2) hx hb dX3_pass_30 rfl ?_
      refine miV (As := [.int (nI 2)]) (q0 := 0) (ci := 3) hx hb hml hown hts (c_X3_fail l D cI cZ cL cO a (nI 0) n nw ns σ η G (nI 2) A hA (hB)) (cwV 1 hts gX3_pass_X3_fail rfl rfl rfl (by decide +kernel) ⟨by decide, by decide⟩) hK hE hP rfl rfl rfl rfl hl.1 rfl (Nat.le_of_ble_eq_true rfl) hS (fun _ h => h) dX3_pass_31 ⟨Nat.zero_le _, Nat.zero_le _⟩ (fun G locs hP _ _ hS => ?_)
      have hk9 : kPass n (nI jp0) = 2 := by simp [kPass, noneOr, Int32.not_lt, c1, c2]
      refine li_topi (show nI 0 = vPass n pl nw ns (σ, η) (nI jp0) from by unfold vPass; rw [hk9]; first | rfl | (rw [ifk_0 rfl, nN_nI (by omega)]; rw [show k = jp0 by omega])) ?_
      have hw9 : (nI 2) = nI (kPass n (nI jp0)) := by rw [hk9]
      have hP : va_P D vwCl (wM cI cZ a (nI (kPass n (nI jp0))) n nw ns σ η) G := Eq.mp (congrArg (fun z9 => va_P D vwCl (wM cI cZ a z9 n nw ns σ η) G) hw9) hP
      clear hw9
      have hw9 : σ = (sPass n pl nw ns (σ, η) (nI jp0)).1 := by unfold sPass; rw [hk9]; first | rfl | (rw [if_pos rfl, nN_nI (by omega)]; rw [show k = jp0 by omega])
      have hP : va_P D vwCl (wM cI cZ a (nI (kPass n (nI jp0))) n nw ns ((sPass n pl nw ns (σ, η) (nI jp0)).1) η) G := Eq.mp (congrArg (fun z9 => va_P D vwCl (wM cI cZ a (nI (kPass n (nI jp0))) n nw ns z9 η) G) hw9) hP
      clear hw9
      have hw9 : η = (sPass n pl nw ns (σ, η) (nI jp0)).2 := by unfold sPass; rw [hk9]; first | rfl | (rw [if_pos rfl, nN_nI (by omega)]; rw [show k = jp0 by omega])
      have hP : va_P D vwCl (wM cI cZ a (nI (kPass n (nI jp0))) n nw ns ((sPass n pl nw ns (σ, η) (nI jp0)).1) ((sPass n pl nw ns (σ, η) (nI jp0)).2)) G := Eq.mp (congrArg (fun z9 => va_P D vwCl (wM cI cZ a (nI (kPass n (nI jp0))) n nw ns ((sPass n pl nw ns (σ, η) (nI jp0)).1) z9) G) hw9) hP
      clear hw9
      exact hEnd 34 ls G locs dX3_pass_34 hP hS
  · skip
    refine lv_aload_n hx hb dX3_pass_16 rfl (lv_at hl 0 rfl) ?_
    refine lv_iconst (v := nI 1) hx hb dX3_pass_17 rfl ?_
    refine miV (As := [.int (nI 1)]) (q0 := 0) (ci := 3) hx hb hml hown hts (c_X3_fail l D cI cZ cL cO a (nI 0) n nw ns σ η G (nI 1) A hA (hB)) (cwV 1 hts gX3_pass_X3_fail rfl rfl rfl (by decide +kernel) ⟨by decide, by decide⟩) hK hE hP rfl rfl rfl rfl hl.1 rfl (Nat.le_of_ble_eq_true rfl) hS (fun _ h => h) dX3_pass_18 ⟨Nat.zero_le _, Nat.zero_le _⟩ (fun G locs hP _ _ hS => ?_)
    have hk9 : kPass n p0 = 1 := by simp [kPass, noneOr, Int32.not_lt, c1]
    refine li_topi (show nI 0 = vPass n pl nw ns (σ, η) p0 from by unfold vPass; rw [hk9]; first | rfl | (rw [ifk_0 rfl, nN_nI (by omega)]; rw [show k = jp0 by omega])) ?_
    have hw9 : (nI 1) = nI (kPass n p0) := by rw [hk9]
    have hP : va_P D vwCl (wM cI cZ a (nI (kPass n p0)) n nw ns σ η) G := Eq.mp (congrArg (fun z9 => va_P D vwCl (wM cI cZ a z9 n nw ns σ η) G) hw9) hP
    clear hw9
    have hw9 : σ = (sPass n pl nw ns (σ, η) p0).1 := by unfold sPass; rw [hk9]; first | rfl | (rw [if_pos rfl, nN_nI (by omega)]; rw [show k = jp0 by omega])
    have hP : va_P D vwCl (wM cI cZ a (nI (kPass n p0)) n nw ns ((sPass n pl nw ns (σ, η) p0).1) η) G := Eq.mp (congrArg (fun z9 => va_P D vwCl (wM cI cZ a (nI (kPass n p0)) n nw ns z9 η) G) hw9) hP
    clear hw9
    have hw9 : η = (sPass n pl nw ns (σ, η) p0).2 := by unfold sPass; rw [hk9]; first | rfl | (rw [if_pos rfl, nN_nI (by omega)]; rw [show k = jp0 by omega])
    have hP : va_P D vwCl (wM cI cZ a (nI (kPass n p0)) n nw ns ((sPass n pl nw ns (σ, η) p0).1) ((sPass n pl nw ns (σ, η) p0).2)) G := Eq.mp (congrArg (fun z9 => va_P D vwCl (wM cI cZ a (nI (kPass n p0)) n nw ns ((sPass n pl nw ns (σ, η) p0).1) z9) G) hw9) hP
    clear hw9
    exact hEnd 21 ls G locs dX3_pass_21 hP hS
