/-! the model: looking ahead -/
set_option maxHeartbeats 4000000 in
set_option maxRecDepth 100000 in
theorem c_X3_foresee (l : Launch) (D : va_G) (cI cZ cL cO : ClassId) (a : Nat → Nat) (th : Int32) (n nw ns : Nat) (σ η : Sg) (H : Heap) (p0 : Int32) (p1 : Int32) (A : Nat → Prop) (hA : okP A a 13) (hB : n ≤ 10 ∧ nw ≤ 20 ∧ ns ≤ 6) (pl : Nat) (t : Nat) (hI : INV n pl nw ns t σ) (hL : LZ nw ns η) (ht : t < 2 ^ 30) : Met l yX3_foresee wsX3_foresee ({ frames := 6, cells := 7, slots := 343, locals := 135 } : Room) (ro_P D (T4 cI cZ cL cO) (wM cI cZ a th n nw ns σ η) H [.ref (a 0), .int p0, .int p1]) (me_Q D (vFor n pl nw ns σ p0 p1) cI cZ a (nI (kFor n p0 p1)) n nw ns σ (AN A H)) 7 343 (AN A H) := by
  refine me_of (cc := cX3_foresee) (maxL := 5) (by decide) rfl (Nat.le_of_ble_eq_true rfl) rfl ?_
  intro p e s m args below meth c Q ls locs hx hb hml hown hts hK hE hP hl hS hEnd
  replace hA := hA.AN (H := H)
  have hl : lv_has ls 5 [(0, .ref (a 0)), (1, .int p0), (2, .int p1)] := hl
  have hX3 : ∀ w ∈ wsX30, w.before args s = true := fun w h => hts w (List.mem_cons_of_mem _ (List.mem_append_right _ (h)))
  have f47 : (Cond.fieldLink RX3 47 "LanternWalkModel" "thrown" "I").before args s = true := hts _ (List.mem_of_getElem? (i := 1) rfl)
  have f51 : (Cond.fieldLink RX3 51 "LanternWalkModel" "stretches" "I").before args s = true := hts _ (List.mem_of_getElem? (i := 2) rfl)
  refine lv_aload_n hx hb dX3_foresee_0 rfl (lv_at hl 0 rfl) ?_
  refine lv_iconst (v := nI 0) hx hb dX3_foresee_1 rfl ?_
  refine li_pf3 hx hb hX3 hown hK hP hA.DM hS 0 rfl 0 (by decide) f47 rfl rfl rfl (Nat.le_of_ble_eq_true rfl) stM_th dX3_foresee_2 (fun G locs hP hS => ?_)
  refine lv_iload_n hx hb dX3_foresee_5 rfl (lv_at hl 1 rfl) ?_
  refine lv_iconst (v := nI 1) hx hb dX3_foresee_6 rfl ?_
  refine lv_sipush (v := nI 150) hx hb dX3_foresee_7 rfl ?_
  refine roS (As := [.int p0, .int (nI 1), .int (nI 150)]) hx hb hml hown hts (c_X3_isI l D cI cZ cL cO G p0 (nI 1) (nI 150)) (va_cwS 3 hts gX3_foresee_X3_isIn rfl rfl rfl (by decide +kernel) ⟨by decide, by decide⟩) hK hE (hP.sub (ws' := []) [] rfl) rfl hl.1 rfl (Nat.le_of_ble_eq_true rfl) hS dX3_foresee_10 ⟨Nat.le_of_ble_eq_true rfl, Nat.le_of_ble_eq_true rfl⟩ (fun locs hS => ?_)
  refine li_zne (tgt := 22) hx hb dX3_foresee_13 (by decide) (fun c1 => ?_) (fun c1 => ?_)
  · skip
    obtain ⟨jp0, hljp0, hhjp0, rfl⟩ := isI_nat (lo := 1) (hi := 150) (by omega) (by omega) c1
    refine lv_iload_n hx hb dX3_foresee_22 rfl (lv_at hl 2 rfl) ?_
    refine lv_iconst (v := nI 0) hx hb dX3_foresee_23 rfl ?_
    refine lv_iconst (v := nI 2) hx hb dX3_foresee_24 rfl ?_
    refine roS (As := [.int p1, .int (nI 0), .int (nI 2)]) hx hb hml hown hts (c_X3_isI l D cI cZ cL cO G p1 (nI 0) (nI 2)) (va_cwS 3 hts gX3_foresee_X3_isIn rfl rfl rfl (by decide +kernel) ⟨by decide, by decide⟩) hK hE (hP.sub (ws' := []) [] rfl) rfl hl.1 rfl (Nat.le_of_ble_eq_true rfl) hS dX3_foresee_25 ⟨Nat.le_of_ble_eq_true rfl, Nat.le_of_ble_eq_true rfl⟩ (fun locs hS => ?_)
    refine li_zne (tgt := 37) hx hb dX3_foresee_28 (by decide) (fun c2 => ?_) (fun c2 => ?_)
    · skip
      obtain ⟨jp1, hljp1, hhjp1, rfl⟩ := isI_nat (lo := 0) (hi := 2) (by omega) (by omega) c2
      refine lv_aload_n hx hb dX3_foresee_37 rfl (lv_at hl 0 rfl) ?_
      refine li_gf3 hx hb hX3 hown hK hP 0 rfl 1 (by decide) f51 rfl dX3_foresee_38 ?_
      refine li_ne0 (tgt := 50) hx hb dX3_foresee_41 (by decide) (by omega) (fun c3 => ?_) (fun c3 => ?_)
      · skip
        have hn0 : 0 < n := by omega
        refine lv_aload_n hx hb dX3_foresee_50 rfl (lv_at hl 0 rfl) ?_
        refine krzV (As := []) (q0 := 0) (ci := 3) hx hb hml hown hts (c_X3_kept l D cI cZ cL cO a (nI 0) n nw ns σ η G (AN A H) hA) (cwV 0 hts gX3_foresee_X3_kept rfl rfl rfl (by decide +kernel) ⟨by decide, by decide⟩) hK hE hP rfl rfl rfl rfl hl.1 rfl (Nat.le_of_ble_eq_true rfl) hS (AN_AN hS.1) dX3_foresee_51 ⟨Nat.le_of_ble_eq_true rfl, Nat.le_of_ble_eq_true rfl⟩ (fun b9 G locs hkB hB9 hP _ hS => ?_)
        refine w_wide (k := 6) (n := 338) (by decide) (Nat.le_of_ble_eq_true rfl) ?_
        have hl : lv_has ls 5 [(0, .ref (b9 0)), (1, .int (nI jp0)), (2, .int (nI jp1))] := lv_reg hl (i := 0) rfl (congrArg Value.ref (hkB 0 (by decide)).symm)
        refine lv_astore_n (lv' := [(3, .ref (b9 13)), (0, .ref (b9 0)), (1, .int (nI jp0)), (2, .int (nI jp1))]) hx hb dX3_foresee_54 rfl hl (by decide) rfl (fun ls hl => ?_)
        refine lv_iconst (v := nI 0) hx hb dX3_foresee_55 rfl ?_
        refine lv_istore (lv' := [(4, .int (nI 0)), (3, .ref (b9 13)), (0, .ref (b9 0)), (1, .int (nI jp0)), (2, .int (nI jp1))]) hx hb dX3_foresee_56 hl (by decide) rfl (fun ls hl => ?_)
        have L58_4 : ∀ (fuel : Nat) (k : Nat), (jp0 - k) < fuel → (k ≤ jp0) → ∀ (G : Heap) (locs : List Loc), va_P D vwCl (wMK cI cZ cO b9 (nI 0) n nw ns ((meN n pl nw ns k (σ, η)).1) σ ((meN n pl nw ns k (σ, η)).2)) G → va_S (AN A H) H G locs → ∀ (ls : Array Slot), lv_has ls 5 [(4, .int (nI k)), (3, .ref (b9 13)), (0, .ref (b9 0)), (1, .int (nI jp0)), (2, .int (nI jp1))] → W p l e ({ frames := 6, cells := 7, slots := 343, locals := 135 } : Room) s m args below meth c G locs 6 338 Q (F0 m 58 ls []) := by
          intro fuel
          induction fuel with
          | zero =>
            intro k hfuel
            exact absurd hfuel (Nat.not_lt_zero _)
          | succ fuel ih58 =>
            intro k hfuel58 hk G locs hP hS ls hl
            have hIk := (meN_inv (x := (σ, η)) η hn0 hI hL k).1
            refine lv_iload hx hb dX3_foresee_58 (lv_at hl 0 rfl) ?_
            refine lv_iload_n hx hb dX3_foresee_60 rfl (lv_at hl 3 rfl) ?_
            refine li_ge (tgt := 75) hx hb dX3_foresee_61 (by decide) (by omega) (by omega) (fun c5 => ?_) (fun c5 => ?_)
            · skip
              refine lv_iload_n hx hb dX3_foresee_75 rfl (lv_at hl 4 rfl) ?_
              refine li_ne0 (tgt := 87) hx hb dX3_foresee_76 (by decide) (by omega) (fun c6 => ?_) (fun c6 => ?_)
              · skip
                refine lv_iload_n hx hb dX3_foresee_87 rfl (lv_at hl 4 rfl) ?_
                refine lv_iconst (v := nI 1) hx hb dX3_foresee_88 rfl ?_
                refine li_ne (tgt := 99) hx hb dX3_foresee_89 (by decide) (by omega) (by omega) (fun c7 => ?_) (fun c7 => ?_)
                · skip
                  refine lv_aload_n hx hb dX3_foresee_99 rfl (lv_at hl 2 rfl) ?_
                  refine roV (As := []) (q0 := 0) (ci := 3) hx hb hml hown hts (c_X3_pairs l D cI cZ cL cO b9 (nI 0) n nw ns ((meN n pl nw ns k (σ, η)).1) ((meN n pl nw ns k (σ, η)).2) G (hB)) (cwV 0 hts gX3_foresee_X3_pairs rfl rfl rfl (by decide +kernel) ⟨by decide, by decide⟩) hK hE (hP.sub (ws' := wM cI cZ b9 (nI 0) n nw ns ((meN n pl nw ns k (σ, η)).1) ((meN n pl nw ns k (σ, η)).2)) i13 rfl) rfl rfl rfl rfl hl.1 rfl (Nat.le_of_ble_eq_true rfl) hS dX3_foresee_100 ⟨Nat.le_of_ble_eq_true rfl, Nat.le_of_ble_eq_true rfl⟩ (fun locs hS => ?_)
                  refine lv_istore (lv' := [(4, .int (nI (cnt (prS ((meN n pl nw ns k (σ, η)).1)) 120))), (3, .ref (b9 13)), (0, .ref (b9 0)), (1, .int (nI jp0)), (2, .int (nI jp1))]) hx hb dX3_foresee_103 hl (by decide) rfl (fun ls hl => ?_)
                  refine lv_aload_n hx hb dX3_foresee_105 rfl (lv_at hl 2 rfl) ?_
                  refine lv_aload_n hx hb dX3_foresee_106 rfl (lv_at hl 1 rfl) ?_
                  refine muzV (As := [.ref (b9 13)]) (q0 := 0) (ci := 3) hx hb hml hown hts (c_X3_bringBack l D cI cZ cL cO b9 (nI 0) n nw ns ((meN n pl nw ns k (σ, η)).1) σ ((meN n pl nw ns k (σ, η)).2) G (AN A H) hB9 (meN_row hn0 hI hL (by decide) k) (meN_row hn0 hI hL (by decide) k)) (cwV 1 hts gX3_foresee_X3_bringBack rfl rfl rfl (by decide +kernel) ⟨by decide, by decide⟩) hK hE hP rfl rfl rfl rfl hl.1 rfl (Nat.le_of_ble_eq_true rfl) hS (AN_AN hS.1) dX3_foresee_107 ⟨by decide, Nat.le_of_ble_eq_true rfl⟩ (fun G locs hP _ _ hS => ?_)
                  refine lv_iload hx hb dX3_foresee_110 (lv_at hl 0 rfl) ?_
                  have hk9 : kFor n (nI jp0) (nI jp1) = 0 := by first | (simp [kFor, noneOr, Int32.not_lt, c1, c2, c3, c5, c6, c7]; done) | (unfold kFor; rw [if_pos (by assumption), if_pos (by assumption), if_neg (by omega)])
                  refine li_topi (show nI (cnt (prS ((meN n pl nw ns k (σ, η)).1)) 120) = vFor n pl nw ns σ (nI jp0) (nI jp1) from by unfold vFor; rw [hk9]; first | rfl | (rw [ifk_0 rfl, nN_nI (show jp0 < 2 ^ 31 by omega), nN_nI (show jp1 < 2 ^ 31 by omega), ← trj_me hn0 hI hL, show jp0 = k by omega]; first | (rw [show jp1 = 0 by omega]; rfl) | (rw [show jp1 = 1 by omega]; rfl) | (rw [show jp1 = 2 by omega]; show nI (cnt (prS _) 120) = nI (sumN _ ns); rw [pr_kn hB.2.1 hB.2.2 hIk.2.2.2.2.2.2.1 hIk.2.2.2.2.2.2.2.1]))) ?_
                  have hw9 : nI 0 = nI (kFor n (nI jp0) (nI jp1)) := by rw [hk9]
                  have hP : va_P D vwCl (wMK cI cZ cO b9 (nI (kFor n (nI jp0) (nI jp1))) n nw ns σ σ ((meN n pl nw ns k (σ, η)).2)) G := Eq.mp (congrArg (fun z9 => va_P D vwCl (wMK cI cZ cO b9 z9 n nw ns σ σ ((meN n pl nw ns k (σ, η)).2)) G) hw9) hP
                  clear hw9
                  replace hP : va_P D vwCl (wM cI cZ a (nI (kFor n (nI jp0) (nI jp1))) n nw ns σ ((meN n pl nw ns k (σ, η)).2)) G := by rw [← wM_kB hkB]; exact hP.sub i13 rfl
                  exact hEnd 112 ls G locs _ _ ((meN n pl nw ns k (σ, η)).2) (by decide) (Nat.le_of_ble_eq_true rfl) dX3_foresee_112 ((meN_inv (x := (σ, η)) η hn0 hI hL k).2.1) hP hS
                · skip
                  refine lv_aload_n hx hb dX3_foresee_92 rfl (lv_at hl 2 rfl) ?_
                  refine roV (As := []) (q0 := 0) (ci := 3) hx hb hml hown hts (c_X3_burning l D cI cZ cL cO b9 (nI 0) n nw ns ((meN n pl nw ns k (σ, η)).1) ((meN n pl nw ns k (σ, η)).2) G (hB) (hIk.2.1.1)) (cwV 0 hts gX3_foresee_X3_burning rfl rfl rfl (by decide +kernel) ⟨by decide, by decide⟩) hK hE (hP.sub (ws' := wM cI cZ b9 (nI 0) n nw ns ((meN n pl nw ns k (σ, η)).1) ((meN n pl nw ns k (σ, η)).2)) i13 rfl) rfl rfl rfl rfl hl.1 rfl (Nat.le_of_ble_eq_true rfl) hS dX3_foresee_93 ⟨Nat.le_of_ble_eq_true rfl, Nat.le_of_ble_eq_true rfl⟩ (fun locs hS => ?_)
                  refine lv_goto (tgt := 103) hx hb dX3_foresee_96 (by decide) ?_
                  refine lv_istore (lv' := [(4, .int (nI (lb ((meN n pl nw ns k (σ, η)).1) nw))), (3, .ref (b9 13)), (0, .ref (b9 0)), (1, .int (nI jp0)), (2, .int (nI jp1))]) hx hb dX3_foresee_103 hl (by decide) rfl (fun ls hl => ?_)
                  refine lv_aload_n hx hb dX3_foresee_105 rfl (lv_at hl 2 rfl) ?_
                  refine lv_aload_n hx hb dX3_foresee_106 rfl (lv_at hl 1 rfl) ?_
                  refine muzV (As := [.ref (b9 13)]) (q0 := 0) (ci := 3) hx hb hml hown hts (c_X3_bringBack l D cI cZ cL cO b9 (nI 0) n nw ns ((meN n pl nw ns k (σ, η)).1) σ ((meN n pl nw ns k (σ, η)).2) G (AN A H) hB9 (meN_row hn0 hI hL (by decide) k) (meN_row hn0 hI hL (by decide) k)) (cwV 1 hts gX3_foresee_X3_bringBack rfl rfl rfl (by decide +kernel) ⟨by decide, by decide⟩) hK hE hP rfl rfl rfl rfl hl.1 rfl (Nat.le_of_ble_eq_true rfl) hS (AN_AN hS.1) dX3_foresee_107 ⟨by decide, Nat.le_of_ble_eq_true rfl⟩ (fun G locs hP _ _ hS => ?_)
                  refine lv_iload hx hb dX3_foresee_110 (lv_at hl 0 rfl) ?_
                  have hk9 : kFor n (nI jp0) (nI jp1) = 0 := by first | (simp [kFor, noneOr, Int32.not_lt, c1, c2, c3, c5, c6, c7]; done) | (unfold kFor; rw [if_pos (by assumption), if_pos (by assumption), if_neg (by omega)])
                  refine li_topi (show nI (lb ((meN n pl nw ns k (σ, η)).1) nw) = vFor n pl nw ns σ (nI jp0) (nI jp1) from by unfold vFor; rw [hk9]; first | rfl | (rw [ifk_0 rfl, nN_nI (show jp0 < 2 ^ 31 by omega), nN_nI (show jp1 < 2 ^ 31 by omega), ← trj_me hn0 hI hL, show jp0 = k by omega]; first | (rw [show jp1 = 0 by omega]; rfl) | (rw [show jp1 = 1 by omega]; rfl) | (rw [show jp1 = 2 by omega]; show nI (cnt (prS _) 120) = nI (sumN _ ns); rw [pr_kn hB.2.1 hB.2.2 hIk.2.2.2.2.2.2.1 hIk.2.2.2.2.2.2.2.1]))) ?_
                  have hw9 : nI 0 = nI (kFor n (nI jp0) (nI jp1)) := by rw [hk9]
                  have hP : va_P D vwCl (wMK cI cZ cO b9 (nI (kFor n (nI jp0) (nI jp1))) n nw ns σ σ ((meN n pl nw ns k (σ, η)).2)) G := Eq.mp (congrArg (fun z9 => va_P D vwCl (wMK cI cZ cO b9 z9 n nw ns σ σ ((meN n pl nw ns k (σ, η)).2)) G) hw9) hP
                  clear hw9
                  replace hP : va_P D vwCl (wM cI cZ a (nI (kFor n (nI jp0) (nI jp1))) n nw ns σ ((meN n pl nw ns k (σ, η)).2)) G := by rw [← wM_kB hkB]; exact hP.sub i13 rfl
                  exact hEnd 112 ls G locs _ _ ((meN n pl nw ns k (σ, η)).2) (by decide) (Nat.le_of_ble_eq_true rfl) dX3_foresee_112 ((meN_inv (x := (σ, η)) η hn0 hI hL k).2.1) hP hS
              · skip
                refine lv_aload_n hx hb dX3_foresee_79 rfl (lv_at hl 2 rfl) ?_
                refine lv_iconst (v := nI 2) hx hb dX3_foresee_80 rfl ?_
                refine roV (As := [.int (nI 2)]) (q0 := 0) (ci := 3) hx hb hml hown hts (c_X3_inState l D cI cZ cL cO b9 (nI 0) n nw ns ((meN n pl nw ns k (σ, η)).1) ((meN n pl nw ns k (σ, η)).2) G (nI 2) (hB)) (cwV 1 hts gX3_foresee_X3_inState rfl rfl rfl (by decide +kernel) ⟨by decide, by decide⟩) hK hE (hP.sub (ws' := wM cI cZ b9 (nI 0) n nw ns ((meN n pl nw ns k (σ, η)).1) ((meN n pl nw ns k (σ, η)).2)) i13 rfl) rfl rfl rfl rfl hl.1 rfl (Nat.le_of_ble_eq_true rfl) hS dX3_foresee_81 ⟨Nat.le_of_ble_eq_true rfl, Nat.le_of_ble_eq_true rfl⟩ (fun locs hS => ?_)
                refine lv_goto (tgt := 103) hx hb dX3_foresee_84 (by decide) ?_
                refine lv_istore (lv' := [(4, .int (nI (hm ((meN n pl nw ns k (σ, η)).1) nw (nI 2)))), (3, .ref (b9 13)), (0, .ref (b9 0)), (1, .int (nI jp0)), (2, .int (nI jp1))]) hx hb dX3_foresee_103 hl (by decide) rfl (fun ls hl => ?_)
                refine lv_aload_n hx hb dX3_foresee_105 rfl (lv_at hl 2 rfl) ?_
                refine lv_aload_n hx hb dX3_foresee_106 rfl (lv_at hl 1 rfl) ?_
                refine muzV (As := [.ref (b9 13)]) (q0 := 0) (ci := 3) hx hb hml hown hts (c_X3_bringBack l D cI cZ cL cO b9 (nI 0) n nw ns ((meN n pl nw ns k (σ, η)).1) σ ((meN n pl nw ns k (σ, η)).2) G (AN A H) hB9 (meN_row hn0 hI hL (by decide) k) (meN_row hn0 hI hL (by decide) k)) (cwV 1 hts gX3_foresee_X3_bringBack rfl rfl rfl (by decide +kernel) ⟨by decide, by decide⟩) hK hE hP rfl rfl rfl rfl hl.1 rfl (Nat.le_of_ble_eq_true rfl) hS (AN_AN hS.1) dX3_foresee_107 ⟨by decide, Nat.le_of_ble_eq_true rfl⟩ (fun G locs hP _ _ hS => ?_)
                refine lv_iload hx hb dX3_foresee_110 (lv_at hl 0 rfl) ?_
                have hk9 : kFor n (nI jp0) (nI jp1) = 0 := by first | (simp [kFor, noneOr, Int32.not_lt, c1, c2, c3, c5, c6]; done) | (unfold kFor; rw [if_pos (by assumption), if_pos (by assumption), if_neg (by omega)])
                refine li_topi (show nI (hm ((meN n pl nw ns k (σ, η)).1) nw (nI 2)) = vFor n pl nw ns σ (nI jp0) (nI jp1) from by unfold vFor; rw [hk9]; first | rfl | (rw [ifk_0 rfl, nN_nI (show jp0 < 2 ^ 31 by omega), nN_nI (show jp1 < 2 ^ 31 by omega), ← trj_me hn0 hI hL, show jp0 = k by omega]; first | (rw [show jp1 = 0 by omega]; rfl) | (rw [show jp1 = 1 by omega]; rfl) | (rw [show jp1 = 2 by omega]; show nI (cnt (prS _) 120) = nI (sumN _ ns); rw [pr_kn hB.2.1 hB.2.2 hIk.2.2.2.2.2.2.1 hIk.2.2.2.2.2.2.2.1]))) ?_
                have hw9 : nI 0 = nI (kFor n (nI jp0) (nI jp1)) := by rw [hk9]
                have hP : va_P D vwCl (wMK cI cZ cO b9 (nI (kFor n (nI jp0) (nI jp1))) n nw ns σ σ ((meN n pl nw ns k (σ, η)).2)) G := Eq.mp (congrArg (fun z9 => va_P D vwCl (wMK cI cZ cO b9 z9 n nw ns σ σ ((meN n pl nw ns k (σ, η)).2)) G) hw9) hP
                clear hw9
                replace hP : va_P D vwCl (wM cI cZ a (nI (kFor n (nI jp0) (nI jp1))) n nw ns σ ((meN n pl nw ns k (σ, η)).2)) G := by rw [← wM_kB hkB]; exact hP.sub i13 rfl
                exact hEnd 112 ls G locs _ _ ((meN n pl nw ns k (σ, η)).2) (by decide) (Nat.le_of_ble_eq_true rfl) dX3_foresee_112 ((meN_inv (x := (σ, η)) η hn0 hI hL k).2.1) hP hS
            · skip
              refine lv_aload_n hx hb dX3_foresee_64 rfl (lv_at hl 2 rfl) ?_
              refine miV (As := []) (q0 := 0) (ci := 3) hx hb hml hown hts (c_X3_stepOn l D cI cZ cL cO b9 (nI 0) n nw ns ((meN n pl nw ns k (σ, η)).1) ((meN n pl nw ns k (σ, η)).2) G (A_ b9 13) (hB9.A_ (by decide)) (hB) (pl) (t + k) (hIk.1.2.1) (hIk.2.1) (by omega) (hIk.2.2.1) (hIk.2.2.2.1) (hIk.2.2.2.2.1) (L1_LT hIk.2.2.2.2.2.1)) (cwV 0 hts gX3_foresee_X3_stepOn rfl rfl rfl (by decide +kernel) ⟨by decide, by decide⟩) hK hE (hP.sub (ws' := wM cI cZ b9 (nI 0) n nw ns ((meN n pl nw ns k (σ, η)).1) ((meN n pl nw ns k (σ, η)).2)) i13 rfl) rfl rfl rfl rfl hl.1 rfl (Nat.le_of_ble_eq_true rfl) hS (ak_of (hB9.M (by decide))) dX3_foresee_65 ⟨Nat.le_of_ble_eq_true rfl, Nat.le_of_ble_eq_true rfl⟩ (fun G locs hP1 _ hk1 hS => ?_)
              replace hP := mK_join hB9 hP hP1 hk1
              refine lv_pop hx hb dX3_foresee_68 rfl ?_
              refine lv_iinc (v := nI (k + 1)) (lv' := [(4, .int (nI (k + 1))), (3, .ref (b9 13)), (0, .ref (b9 0)), (1, .int (nI jp0)), (2, .int (nI jp1))]) hx hb dX3_foresee_69 hl (k := 0) rfl (nI_inc _ _) (by decide) rfl (fun ls hl => ?_)
              refine lv_goto (tgt := 58) hx hb dX3_foresee_72 (by decide) ?_
              have hw9 : ms5 n pl nw ns ((meN n pl nw ns k (σ, η)).1) ((meN n pl nw ns k (σ, η)).2) = (meN n pl nw ns (k + 1) (σ, η)).1 := rfl
              have hP : va_P D vwCl (wMK cI cZ cO b9 (nI 0) n nw ns ((meN n pl nw ns (k + 1) (σ, η)).1) σ (me5 n pl nw ns ((meN n pl nw ns k (σ, η)).1) ((meN n pl nw ns k (σ, η)).2))) G := Eq.mp (congrArg (fun z9 => va_P D vwCl (wMK cI cZ cO b9 (nI 0) n nw ns z9 σ (me5 n pl nw ns ((meN n pl nw ns k (σ, η)).1) ((meN n pl nw ns k (σ, η)).2))) G) hw9) hP
              clear hw9
              have hw9 : me5 n pl nw ns ((meN n pl nw ns k (σ, η)).1) ((meN n pl nw ns k (σ, η)).2) = (meN n pl nw ns (k + 1) (σ, η)).2 := rfl
              have hP : va_P D vwCl (wMK cI cZ cO b9 (nI 0) n nw ns ((meN n pl nw ns (k + 1) (σ, η)).1) σ ((meN n pl nw ns (k + 1) (σ, η)).2)) G := Eq.mp (congrArg (fun z9 => va_P D vwCl (wMK cI cZ cO b9 (nI 0) n nw ns ((meN n pl nw ns (k + 1) (σ, η)).1) σ z9) G) hw9) hP
              clear hw9
              have hl9 : lv_has ls 5 [(4, .int (nI (k + 1))), (3, .ref (b9 13)), (0, .ref (b9 0)), (1, .int (nI jp0)), (2, .int (nI jp1))] := lv_sub hl [0, 1, 2, 3, 4] rfl
              exact ih58 (k + 1) (by omega) (by omega) G locs hP hS ls hl9
        have hw9 : σ = (meN n pl nw ns 0 (σ, η)).1 := rfl
        have hP : va_P D vwCl (wMK cI cZ cO b9 (nI 0) n nw ns ((meN n pl nw ns 0 (σ, η)).1) σ η) G := Eq.mp (congrArg (fun z9 => va_P D vwCl (wMK cI cZ cO b9 (nI 0) n nw ns z9 σ η) G) hw9) hP
        clear hw9
        have hw9 : η = (meN n pl nw ns 0 (σ, η)).2 := rfl
        have hP : va_P D vwCl (wMK cI cZ cO b9 (nI 0) n nw ns ((meN n pl nw ns 0 (σ, η)).1) σ ((meN n pl nw ns 0 (σ, η)).2)) G := Eq.mp (congrArg (fun z9 => va_P D vwCl (wMK cI cZ cO b9 (nI 0) n nw ns ((meN n pl nw ns 0 (σ, η)).1) σ z9) G) hw9) hP
        clear hw9
        have hl9 : lv_has ls 5 [(4, .int (nI 0)), (3, .ref (b9 13)), (0, .ref (b9 0)), (1, .int (nI jp0)), (2, .int (nI jp1))] := lv_sub hl [0, 1, 2, 3, 4] rfl
        exact L58_4 ((jp0 - 0) + 1) 0 (Nat.lt_succ_self _) (by omega) G locs hP hS ls hl9
      · skip
        refine lv_aload_n hx hb dX3_foresee_44 rfl (lv_at hl 0 rfl) ?_
        refine lv_iconst (v := nI 3) hx hb dX3_foresee_45 rfl ?_
        refine miV (As := [.int (nI 3)]) (q0 := 0) (ci := 3) hx hb hml hown hts (c_X3_fail l D cI cZ cL cO a (nI 0) n nw ns σ η G (nI 3) (AN A H) hA (hB)) (cwV 1 hts gX3_foresee_X3_fail rfl rfl rfl (by decide +kernel) ⟨by decide, by decide⟩) hK hE hP rfl rfl rfl rfl hl.1 rfl (Nat.le_of_ble_eq_true rfl) hS (fun _ h => h) dX3_foresee_46 ⟨Nat.le_of_ble_eq_true rfl, Nat.le_of_ble_eq_true rfl⟩ (fun G locs hP _ _ hS => ?_)
        have hk9 : kFor n (nI jp0) (nI jp1) = 3 := by first | (simp [kFor, noneOr, Int32.not_lt, c1, c2, c3]; done) | (unfold kFor; rw [if_pos (by assumption), if_pos (by assumption), if_neg (by omega)])
        refine li_topi (show nI 0 = vFor n pl nw ns σ (nI jp0) (nI jp1) from by unfold vFor; rw [hk9]; first | rfl | (rw [ifk_0 rfl, nN_nI (show jp0 < 2 ^ 31 by omega), nN_nI (show jp1 < 2 ^ 31 by omega), ← trj_me hn0 hI hL, show jp0 = k by omega]; first | (rw [show jp1 = 0 by omega]; rfl) | (rw [show jp1 = 1 by omega]; rfl) | (rw [show jp1 = 2 by omega]; show nI (cnt (prS _) 120) = nI (sumN _ ns); rw [pr_kn hB.2.1 hB.2.2 hIk.2.2.2.2.2.2.1 hIk.2.2.2.2.2.2.2.1]))) ?_
        have hw9 : (nI 3) = nI (kFor n (nI jp0) (nI jp1)) := by rw [hk9]
        have hP : va_P D vwCl (wM cI cZ a (nI (kFor n (nI jp0) (nI jp1))) n nw ns σ η) G := Eq.mp (congrArg (fun z9 => va_P D vwCl (wM cI cZ a z9 n nw ns σ η) G) hw9) hP
        clear hw9
        exact hEnd 49 ls G locs _ _ η (Nat.zero_le _) (Nat.zero_le _) dX3_foresee_49 (hL) hP hS
    · skip
      refine lv_aload_n hx hb dX3_foresee_31 rfl (lv_at hl 0 rfl) ?_
      refine lv_iconst (v := nI 2) hx hb dX3_foresee_32 rfl ?_
      refine miV (As := [.int (nI 2)]) (q0 := 0) (ci := 3) hx hb hml hown hts (c_X3_fail l D cI cZ cL cO a (nI 0) n nw ns σ η G (nI 2) (AN A H) hA (hB)) (cwV 1 hts gX3_foresee_X3_fail rfl rfl rfl (by decide +kernel) ⟨by decide, by decide⟩) hK hE hP rfl rfl rfl rfl hl.1 rfl (Nat.le_of_ble_eq_true rfl) hS (fun _ h => h) dX3_foresee_33 ⟨Nat.le_of_ble_eq_true rfl, Nat.le_of_ble_eq_true rfl⟩ (fun G locs hP _ _ hS => ?_)
      have hk9 : kFor n (nI jp0) p1 = 2 := by first | (simp [kFor, noneOr, Int32.not_lt, c1, c2]; done) | (unfold kFor; rw [if_pos (by assumption), if_pos (by assumption), if_neg (by omega)])
      refine li_topi (show nI 0 = vFor n pl nw ns σ (nI jp0) p1 from by unfold vFor; rw [hk9]; first | rfl | (rw [ifk_0 rfl, nN_nI (show jp0 < 2 ^ 31 by omega), nN_nI (show jp1 < 2 ^ 31 by omega), ← trj_me hn0 hI hL, show jp0 = k by omega]; first | (rw [show jp1 = 0 by omega]; rfl) | (rw [show jp1 = 1 by omega]; rfl) | (rw [show jp1 = 2 by omega]; show nI (cnt (prS _) 120) = nI (sumN _ ns); rw [pr_kn hB.2.1 hB.2.2 hIk.2.2.2.2.2.2.1 hIk.2.2.2.2.2.2.2.1]))) ?_
      have hw9 : (nI 2) = nI (kFor n (nI jp0) p1) := by rw [hk9]
      have hP : va_P D vwCl (wM cI cZ a (nI (kFor n (nI jp0) p1)) n nw ns σ η) G := Eq.mp (congrArg (fun z9 => va_P D vwCl (wM cI cZ a z9 n nw ns σ η) G) hw9) hP
      clear hw9
      exact hEnd 36 ls G locs _ _ η (Nat.zero_le _) (Nat.zero_le _) dX3_foresee_36 (hL) hP hS
  · skip
    refine lv_aload_n hx hb dX3_foresee_16 rfl (lv_at hl 0 rfl) ?_
    refine lv_iconst (v := nI 1) hx hb dX3_foresee_17 rfl ?_
    refine miV (As := [.int (nI 1)]) (q0 := 0) (ci := 3) hx hb hml hown hts (c_X3_fail l D cI cZ cL cO a (nI 0) n nw ns σ η G (nI 1) (AN A H) hA (hB)) (cwV 1 hts gX3_foresee_X3_fail rfl rfl rfl (by decide +kernel) ⟨by decide, by decide⟩) hK hE hP rfl rfl rfl rfl hl.1 rfl (Nat.le_of_ble_eq_true rfl) hS (fun _ h => h) dX3_foresee_18 ⟨Nat.le_of_ble_eq_true rfl, Nat.le_of_ble_eq_true rfl⟩ (fun G locs hP _ _ hS => ?_)
    have hk9 : kFor n p0 p1 = 1 := by first | (simp [kFor, noneOr, Int32.not_lt, c1]; done) | (unfold kFor; rw [if_pos (by assumption), if_pos (by assumption), if_neg (by omega)])
    refine li_topi (show nI 0 = vFor n pl nw ns σ p0 p1 from by unfold vFor; rw [hk9]; first | rfl | (rw [ifk_0 rfl, nN_nI (show jp0 < 2 ^ 31 by omega), nN_nI (show jp1 < 2 ^ 31 by omega), ← trj_me hn0 hI hL, show jp0 = k by omega]; first | (rw [show jp1 = 0 by omega]; rfl) | (rw [show jp1 = 1 by omega]; rfl) | (rw [show jp1 = 2 by omega]; show nI (cnt (prS _) 120) = nI (sumN _ ns); rw [pr_kn hB.2.1 hB.2.2 hIk.2.2.2.2.2.2.1 hIk.2.2.2.2.2.2.2.1]))) ?_
    have hw9 : (nI 1) = nI (kFor n p0 p1) := by rw [hk9]
    have hP : va_P D vwCl (wM cI cZ a (nI (kFor n p0 p1)) n nw ns σ η) G := Eq.mp (congrArg (fun z9 => va_P D vwCl (wM cI cZ a z9 n nw ns σ η) G) hw9) hP
    clear hw9
    exact hEnd 21 ls G locs _ _ η (Nat.zero_le _) (Nat.zero_le _) dX3_foresee_21 (hL) hP hS
set_option maxHeartbeats 4000000 in
set_option maxRecDepth 100000 in
theorem c_X3_home (l : Launch) (D : va_G) (cI cZ cL cO : ClassId) (a : Nat → Nat) (th : Int32) (n nw ns : Nat) (σ η : Sg) (H : Heap) (p0 : Int32) (A : Nat → Prop) (hA : okP A a 13) (hB : n ≤ 10 ∧ nw ≤ 20 ∧ ns ≤ 6) (pl : Nat) (t : Nat) (hI : INV n pl nw ns t σ) (hL : LZ nw ns η) (ht : t < 2 ^ 30) : Met l yX3_home wsX3_home ({ frames := 6, cells := 7, slots := 343, locals := 135 } : Room) (ro_P D (T4 cI cZ cL cO) (wM cI cZ a th n nw ns σ η) H [.ref (a 0), .int p0]) (me_Q D (vHome n pl nw ns σ p0) cI cZ a (nI (kHome nw p0)) n nw ns σ (AN A H)) 7 343 (AN A H) := by
  refine me_of (cc := cX3_home) (maxL := 4) (by decide) rfl (Nat.le_of_ble_eq_true rfl) rfl ?_
  intro p e s m args below meth c Q ls locs hx hb hml hown hts hK hE hP hl hS hEnd
  replace hA := hA.AN (H := H)
  have hl : lv_has ls 4 [(0, .ref (a 0)), (1, .int p0)] := hl
  have hX3 : ∀ w ∈ wsX30, w.before args s = true := fun w h => hts w (List.mem_cons_of_mem _ (List.mem_append_right _ (h)))
  have f47 : (Cond.fieldLink RX3 47 "LanternWalkModel" "thrown" "I").before args s = true := hts _ (List.mem_of_getElem? (i := 1) rfl)
  have f51 : (Cond.fieldLink RX3 51 "LanternWalkModel" "stretches" "I").before args s = true := hts _ (List.mem_of_getElem? (i := 2) rfl)
  refine lv_aload_n hx hb dX3_home_0 rfl (lv_at hl 0 rfl) ?_
  refine lv_iconst (v := nI 0) hx hb dX3_home_1 rfl ?_
  refine li_pf3 hx hb hX3 hown hK hP hA.DM hS 0 rfl 0 (by decide) f47 rfl rfl rfl (Nat.le_of_ble_eq_true rfl) stM_th dX3_home_2 (fun G locs hP hS => ?_)
  refine lv_aload_n hx hb dX3_home_5 rfl (lv_at hl 0 rfl) ?_
  refine lv_iload_n hx hb dX3_home_6 rfl (lv_at hl 1 rfl) ?_
  refine roV (As := [.int p0]) (q0 := 0) (ci := 3) hx hb hml hown hts (c_X3_isWalker l D cI cZ cL cO a (nI 0) n nw ns σ η G p0 (hB)) (cwV 1 hts gX3_home_X3_isWalker rfl rfl rfl (by decide +kernel) ⟨by decide, by decide⟩) hK hE hP rfl rfl rfl rfl hl.1 rfl (Nat.le_of_ble_eq_true rfl) hS dX3_home_7 ⟨Nat.le_of_ble_eq_true rfl, Nat.le_of_ble_eq_true rfl⟩ (fun locs hS => ?_)
  refine li_zne (tgt := 19) hx hb dX3_home_10 (by decide) (fun c1 => ?_) (fun c1 => ?_)
  · skip
    obtain ⟨jp0, hhjp0, rfl⟩ := has_nat (by omega) c1
    refine lv_aload_n hx hb dX3_home_19 rfl (lv_at hl 0 rfl) ?_
    refine lv_iload_n hx hb dX3_home_20 rfl (lv_at hl 1 rfl) ?_
    refine lv_iconst (v := nI 4) hx hb dX3_home_21 rfl ?_
    refine roV (As := [.int (nI jp0), .int (nI 4)]) (q0 := 0) (ci := 3) hx hb hml hown hts (c_X3_pe l D cI cZ cL cO a (nI 0) n nw ns σ η G jp0 4 (hB) (by omega) (by omega)) (cwV 2 hts gX3_home_X3_pe rfl rfl rfl (by decide +kernel) ⟨by decide, by decide⟩) hK hE hP rfl rfl rfl rfl hl.1 rfl (Nat.le_of_ble_eq_true rfl) hS dX3_home_22 ⟨Nat.le_of_ble_eq_true rfl, Nat.le_of_ble_eq_true rfl⟩ (fun locs hS => ?_)
    refine li_topi (show σ (pid 4) jp0 = σ 12 jp0 from rfl) ?_
    refine lv_iconst (v := nI 2) hx hb dX3_home_25 rfl ?_
    refine lv_icmp_ne (tgt := 31) hx hb dX3_home_26 (by decide) (fun c2 => ?_) (fun c2 => ?_)
    · skip
      have hst := c2
      refine lv_aload_n hx hb dX3_home_31 rfl (lv_at hl 0 rfl) ?_
      refine li_gf3 hx hb hX3 hown hK hP 0 rfl 1 (by decide) f51 rfl dX3_home_32 ?_
      refine li_ne0 (tgt := 40) hx hb dX3_home_35 (by decide) (by omega) (fun c3 => ?_) (fun c3 => ?_)
      · skip
        have hn0 : 0 < n := by omega
        refine lv_aload_n hx hb dX3_home_40 rfl (lv_at hl 0 rfl) ?_
        refine krzV (As := []) (q0 := 0) (ci := 3) hx hb hml hown hts (c_X3_kept l D cI cZ cL cO a (nI 0) n nw ns σ η G (AN A H) hA) (cwV 0 hts gX3_home_X3_kept rfl rfl rfl (by decide +kernel) ⟨by decide, by decide⟩) hK hE hP rfl rfl rfl rfl hl.1 rfl (Nat.le_of_ble_eq_true rfl) hS (AN_AN hS.1) dX3_home_41 ⟨Nat.le_of_ble_eq_true rfl, Nat.le_of_ble_eq_true rfl⟩ (fun b9 G locs hkB hB9 hP _ hS => ?_)
        refine w_wide (k := 6) (n := 338) (by decide) (Nat.le_of_ble_eq_true rfl) ?_
        have hl : lv_has ls 4 [(0, .ref (b9 0)), (1, .int (nI jp0))] := lv_reg hl (i := 0) rfl (congrArg Value.ref (hkB 0 (by decide)).symm)
        refine lv_astore_n (lv' := [(2, .ref (b9 13)), (0, .ref (b9 0)), (1, .int (nI jp0))]) hx hb dX3_home_44 rfl hl (by decide) rfl (fun ls hl => ?_)
        refine lv_iconst (v := nI 0) hx hb dX3_home_45 rfl ?_
        refine lv_istore_n (lv' := [(3, .int (nI 0)), (2, .ref (b9 13)), (0, .ref (b9 0)), (1, .int (nI jp0))]) hx hb dX3_home_46 rfl hl (by decide) rfl (fun ls hl => ?_)
        have L47_4 : ∀ (fuel : Nat) (k : Nat), (300 - k) < fuel → (k ≤ 300) → (fnd (hoS n pl nw ns σ jp0) k = none) → ∀ (G : Heap) (locs : List Loc), va_P D vwCl (wMK cI cZ cO b9 (nI 0) n nw ns ((meN n pl nw ns k (σ, η)).1) σ ((meN n pl nw ns k (σ, η)).2)) G → va_S (AN A H) H G locs → ∀ (ls : Array Slot), lv_has ls 4 [(3, .int (nI k)), (2, .ref (b9 13)), (0, .ref (b9 0)), (1, .int (nI jp0))] → W p l e ({ frames := 6, cells := 7, slots := 343, locals := 135 } : Room) s m args below meth c G locs 6 338 Q (F0 m 47 ls []) := by
          intro fuel
          induction fuel with
          | zero =>
            intro k hfuel
            exact absurd hfuel (Nat.not_lt_zero _)
          | succ fuel ih47 =>
            intro k hfuel47 hk hh G locs hP hS ls hl
            have hIk := (meN_inv (x := (σ, η)) η hn0 hI hL k).1
            refine lv_iload_n hx hb dX3_home_47 rfl (lv_at hl 0 rfl) ?_
            refine lv_sipush (v := nI 300) hx hb dX3_home_48 rfl ?_
            refine li_ge (tgt := 75) hx hb dX3_home_51 (by decide) (by omega) (by omega) (fun c5 => ?_) (fun c5 => ?_)
            · skip
              refine lv_aload_n hx hb dX3_home_75 rfl (lv_at hl 2 rfl) ?_
              refine lv_iload_n hx hb dX3_home_76 rfl (lv_at hl 3 rfl) ?_
              refine lv_iconst (v := nI 4) hx hb dX3_home_77 rfl ?_
              refine roV (As := [.int (nI jp0), .int (nI 4)]) (q0 := 0) (ci := 3) hx hb hml hown hts (c_X3_pe l D cI cZ cL cO b9 (nI 0) n nw ns ((meN n pl nw ns k (σ, η)).1) ((meN n pl nw ns k (σ, η)).2) G jp0 4 (hB) (by omega) (by omega)) (cwV 2 hts gX3_home_X3_pe rfl rfl rfl (by decide +kernel) ⟨by decide, by decide⟩) hK hE (hP.sub (ws' := wM cI cZ b9 (nI 0) n nw ns ((meN n pl nw ns k (σ, η)).1) ((meN n pl nw ns k (σ, η)).2)) i13 rfl) rfl rfl rfl rfl hl.1 rfl (Nat.le_of_ble_eq_true rfl) hS dX3_home_78 ⟨Nat.le_of_ble_eq_true rfl, Nat.le_of_ble_eq_true rfl⟩ (fun locs hS => ?_)
              refine li_topi (show ((meN n pl nw ns k (σ, η)).1) (pid 4) jp0 = ((meN n pl nw ns k (σ, η)).1) 12 jp0 from rfl) ?_
              refine lv_iconst (v := nI 2) hx hb dX3_home_81 rfl ?_
              refine lv_icmp_eq (tgt := 87) hx hb dX3_home_82 (by decide) (fun c6 => ?_) (fun c6 => ?_)
              · skip
                refine lv_aload_n hx hb dX3_home_87 rfl (lv_at hl 2 rfl) ?_
                refine lv_aload_n hx hb dX3_home_88 rfl (lv_at hl 1 rfl) ?_
                refine muzV (As := [.ref (b9 13)]) (q0 := 0) (ci := 3) hx hb hml hown hts (c_X3_bringBack l D cI cZ cL cO b9 (nI 0) n nw ns ((meN n pl nw ns k (σ, η)).1) σ ((meN n pl nw ns k (σ, η)).2) G (AN A H) hB9 (meN_row hn0 hI hL (by decide) k) (meN_row hn0 hI hL (by decide) k)) (cwV 1 hts gX3_home_X3_bringBack rfl rfl rfl (by decide +kernel) ⟨by decide, by decide⟩) hK hE hP rfl rfl rfl rfl hl.1 rfl (Nat.le_of_ble_eq_true rfl) hS (AN_AN hS.1) dX3_home_89 ⟨by decide, Nat.le_of_ble_eq_true rfl⟩ (fun G locs hP _ _ hS => ?_)
                refine lv_iload_n hx hb dX3_home_92 rfl (lv_at hl 0 rfl) ?_
                have hk9 : kHome nw (nI jp0) = 0 := by first | (simp [kHome, noneOr, Int32.not_lt, c1, c2, c3, c5, c6]; done) | (unfold kHome; rw [if_pos (by assumption), if_pos (by assumption), if_neg (by omega)])
                refine li_topi (show nI k = vHome n pl nw ns σ (nI jp0) from by unfold vHome; rw [hk9]; first | rfl | (rw [ifk_0 rfl, nN_nI (show jp0 < 2 ^ 31 by omega)]; first | exact (hoV_0 (by assumption)).symm | exact (hoV_1 (by assumption) (by assumption)).symm | exact absurd (by assumption) (show ¬ (meN n pl nw ns k (σ, η)).1 12 jp0 = nI 2 by assumption) | exact (hoV_s hst hn0 (by omega) hh (by rw [← trj_me hn0 hI hL k]; assumption)).symm | exact (hoV_n hst hn0 (by rw [show 301 = k + 1 by omega]; exact fnd_n hh (by unfold hoS; rw [← trj_me hn0 hI hL k]; exact decide_eq_false (by assumption)))).symm)) ?_
                have hw9 : nI 0 = nI (kHome nw (nI jp0)) := by rw [hk9]
                have hP : va_P D vwCl (wMK cI cZ cO b9 (nI (kHome nw (nI jp0))) n nw ns σ σ ((meN n pl nw ns k (σ, η)).2)) G := Eq.mp (congrArg (fun z9 => va_P D vwCl (wMK cI cZ cO b9 z9 n nw ns σ σ ((meN n pl nw ns k (σ, η)).2)) G) hw9) hP
                clear hw9
                replace hP : va_P D vwCl (wM cI cZ a (nI (kHome nw (nI jp0))) n nw ns σ ((meN n pl nw ns k (σ, η)).2)) G := by rw [← wM_kB hkB]; exact hP.sub i13 rfl
                exact hEnd 93 ls G locs _ _ ((meN n pl nw ns k (σ, η)).2) (by decide) (Nat.le_of_ble_eq_true rfl) dX3_home_93 ((meN_inv (x := (σ, η)) η hn0 hI hL k).2.1) hP hS
              · skip
                refine lv_iconst (v := (-1)) hx hb dX3_home_85 rfl ?_
                refine lv_istore_n (lv' := [(3, .int (-1)), (2, .ref (b9 13)), (0, .ref (b9 0)), (1, .int (nI jp0))]) hx hb dX3_home_86 rfl hl (by decide) rfl (fun ls hl => ?_)
                refine lv_aload_n hx hb dX3_home_87 rfl (lv_at hl 2 rfl) ?_
                refine lv_aload_n hx hb dX3_home_88 rfl (lv_at hl 1 rfl) ?_
                refine muzV (As := [.ref (b9 13)]) (q0 := 0) (ci := 3) hx hb hml hown hts (c_X3_bringBack l D cI cZ cL cO b9 (nI 0) n nw ns ((meN n pl nw ns k (σ, η)).1) σ ((meN n pl nw ns k (σ, η)).2) G (AN A H) hB9 (meN_row hn0 hI hL (by decide) k) (meN_row hn0 hI hL (by decide) k)) (cwV 1 hts gX3_home_X3_bringBack rfl rfl rfl (by decide +kernel) ⟨by decide, by decide⟩) hK hE hP rfl rfl rfl rfl hl.1 rfl (Nat.le_of_ble_eq_true rfl) hS (AN_AN hS.1) dX3_home_89 ⟨by decide, Nat.le_of_ble_eq_true rfl⟩ (fun G locs hP _ _ hS => ?_)
                refine lv_iload_n hx hb dX3_home_92 rfl (lv_at hl 0 rfl) ?_
                have hk9 : kHome nw (nI jp0) = 0 := by first | (simp [kHome, noneOr, Int32.not_lt, c1, c2, c3, c5, c6]; done) | (unfold kHome; rw [if_pos (by assumption), if_pos (by assumption), if_neg (by omega)])
                refine li_topi (show (-1) = vHome n pl nw ns σ (nI jp0) from by unfold vHome; rw [hk9]; first | rfl | (rw [ifk_0 rfl, nN_nI (show jp0 < 2 ^ 31 by omega)]; first | exact (hoV_0 (by assumption)).symm | exact (hoV_1 (by assumption) (by assumption)).symm | exact absurd (by assumption) (show ¬ (meN n pl nw ns k (σ, η)).1 12 jp0 = nI 2 by assumption) | exact (hoV_s hst hn0 (by omega) hh (by rw [← trj_me hn0 hI hL k]; assumption)).symm | exact (hoV_n hst hn0 (by rw [show 301 = k + 1 by omega]; exact fnd_n hh (by unfold hoS; rw [← trj_me hn0 hI hL k]; exact decide_eq_false (by assumption)))).symm)) ?_
                have hw9 : nI 0 = nI (kHome nw (nI jp0)) := by rw [hk9]
                have hP : va_P D vwCl (wMK cI cZ cO b9 (nI (kHome nw (nI jp0))) n nw ns σ σ ((meN n pl nw ns k (σ, η)).2)) G := Eq.mp (congrArg (fun z9 => va_P D vwCl (wMK cI cZ cO b9 z9 n nw ns σ σ ((meN n pl nw ns k (σ, η)).2)) G) hw9) hP
                clear hw9
                replace hP : va_P D vwCl (wM cI cZ a (nI (kHome nw (nI jp0))) n nw ns σ ((meN n pl nw ns k (σ, η)).2)) G := by rw [← wM_kB hkB]; exact hP.sub i13 rfl
                exact hEnd 93 ls G locs _ _ ((meN n pl nw ns k (σ, η)).2) (by decide) (Nat.le_of_ble_eq_true rfl) dX3_home_93 ((meN_inv (x := (σ, η)) η hn0 hI hL k).2.1) hP hS
            · skip
              refine lv_aload_n hx hb dX3_home_54 rfl (lv_at hl 2 rfl) ?_
              refine lv_iload_n hx hb dX3_home_55 rfl (lv_at hl 3 rfl) ?_
              refine lv_iconst (v := nI 4) hx hb dX3_home_56 rfl ?_
              refine roV (As := [.int (nI jp0), .int (nI 4)]) (q0 := 0) (ci := 3) hx hb hml hown hts (c_X3_pe l D cI cZ cL cO b9 (nI 0) n nw ns ((meN n pl nw ns k (σ, η)).1) ((meN n pl nw ns k (σ, η)).2) G jp0 4 (hB) (by omega) (by omega)) (cwV 2 hts gX3_home_X3_pe rfl rfl rfl (by decide +kernel) ⟨by decide, by decide⟩) hK hE (hP.sub (ws' := wM cI cZ b9 (nI 0) n nw ns ((meN n pl nw ns k (σ, η)).1) ((meN n pl nw ns k (σ, η)).2)) i13 rfl) rfl rfl rfl rfl hl.1 rfl (Nat.le_of_ble_eq_true rfl) hS dX3_home_57 ⟨Nat.le_of_ble_eq_true rfl, Nat.le_of_ble_eq_true rfl⟩ (fun locs hS => ?_)
              refine li_topi (show ((meN n pl nw ns k (σ, η)).1) (pid 4) jp0 = ((meN n pl nw ns k (σ, η)).1) 12 jp0 from rfl) ?_
              refine lv_iconst (v := nI 2) hx hb dX3_home_60 rfl ?_
              refine lv_icmp_eq (tgt := 75) hx hb dX3_home_61 (by decide) (fun c7 => ?_) (fun c7 => ?_)
              · skip
                refine lv_aload_n hx hb dX3_home_75 rfl (lv_at hl 2 rfl) ?_
                refine lv_iload_n hx hb dX3_home_76 rfl (lv_at hl 3 rfl) ?_
                refine lv_iconst (v := nI 4) hx hb dX3_home_77 rfl ?_
                refine roV (As := [.int (nI jp0), .int (nI 4)]) (q0 := 0) (ci := 3) hx hb hml hown hts (c_X3_pe l D cI cZ cL cO b9 (nI 0) n nw ns ((meN n pl nw ns k (σ, η)).1) ((meN n pl nw ns k (σ, η)).2) G jp0 4 (hB) (by omega) (by omega)) (cwV 2 hts gX3_home_X3_pe rfl rfl rfl (by decide +kernel) ⟨by decide, by decide⟩) hK hE (hP.sub (ws' := wM cI cZ b9 (nI 0) n nw ns ((meN n pl nw ns k (σ, η)).1) ((meN n pl nw ns k (σ, η)).2)) i13 rfl) rfl rfl rfl rfl hl.1 rfl (Nat.le_of_ble_eq_true rfl) hS dX3_home_78 ⟨Nat.le_of_ble_eq_true rfl, Nat.le_of_ble_eq_true rfl⟩ (fun locs hS => ?_)
                refine li_topi (show ((meN n pl nw ns k (σ, η)).1) (pid 4) jp0 = ((meN n pl nw ns k (σ, η)).1) 12 jp0 from rfl) ?_
                refine lv_iconst (v := nI 2) hx hb dX3_home_81 rfl ?_
                refine lv_icmp_eq (tgt := 87) hx hb dX3_home_82 (by decide) (fun c8 => ?_) (fun c8 => ?_)
                · skip
                  refine lv_aload_n hx hb dX3_home_87 rfl (lv_at hl 2 rfl) ?_
                  refine lv_aload_n hx hb dX3_home_88 rfl (lv_at hl 1 rfl) ?_
                  refine muzV (As := [.ref (b9 13)]) (q0 := 0) (ci := 3) hx hb hml hown hts (c_X3_bringBack l D cI cZ cL cO b9 (nI 0) n nw ns ((meN n pl nw ns k (σ, η)).1) σ ((meN n pl nw ns k (σ, η)).2) G (AN A H) hB9 (meN_row hn0 hI hL (by decide) k) (meN_row hn0 hI hL (by decide) k)) (cwV 1 hts gX3_home_X3_bringBack rfl rfl rfl (by decide +kernel) ⟨by decide, by decide⟩) hK hE hP rfl rfl rfl rfl hl.1 rfl (Nat.le_of_ble_eq_true rfl) hS (AN_AN hS.1) dX3_home_89 ⟨by decide, Nat.le_of_ble_eq_true rfl⟩ (fun G locs hP _ _ hS => ?_)
                  refine lv_iload_n hx hb dX3_home_92 rfl (lv_at hl 0 rfl) ?_
                  have hk9 : kHome nw (nI jp0) = 0 := by first | (simp [kHome, noneOr, Int32.not_lt, c1, c2, c3, c5, c7, c8]; done) | (unfold kHome; rw [if_pos (by assumption), if_pos (by assumption), if_neg (by omega)])
                  refine li_topi (show nI k = vHome n pl nw ns σ (nI jp0) from by unfold vHome; rw [hk9]; first | rfl | (rw [ifk_0 rfl, nN_nI (show jp0 < 2 ^ 31 by omega)]; first | exact (hoV_0 (by assumption)).symm | exact (hoV_1 (by assumption) (by assumption)).symm | exact absurd (by assumption) (show ¬ (meN n pl nw ns k (σ, η)).1 12 jp0 = nI 2 by assumption) | exact (hoV_s hst hn0 (by omega) hh (by rw [← trj_me hn0 hI hL k]; assumption)).symm | exact (hoV_n hst hn0 (by rw [show 301 = k + 1 by omega]; exact fnd_n hh (by unfold hoS; rw [← trj_me hn0 hI hL k]; exact decide_eq_false (by assumption)))).symm)) ?_
                  have hw9 : nI 0 = nI (kHome nw (nI jp0)) := by rw [hk9]
                  have hP : va_P D vwCl (wMK cI cZ cO b9 (nI (kHome nw (nI jp0))) n nw ns σ σ ((meN n pl nw ns k (σ, η)).2)) G := Eq.mp (congrArg (fun z9 => va_P D vwCl (wMK cI cZ cO b9 z9 n nw ns σ σ ((meN n pl nw ns k (σ, η)).2)) G) hw9) hP
                  clear hw9
                  replace hP : va_P D vwCl (wM cI cZ a (nI (kHome nw (nI jp0))) n nw ns σ ((meN n pl nw ns k (σ, η)).2)) G := by rw [← wM_kB hkB]; exact hP.sub i13 rfl
                  exact hEnd 93 ls G locs _ _ ((meN n pl nw ns k (σ, η)).2) (by decide) (Nat.le_of_ble_eq_true rfl) dX3_home_93 ((meN_inv (x := (σ, η)) η hn0 hI hL k).2.1) hP hS
                · skip
                  refine lv_iconst (v := (-1)) hx hb dX3_home_85 rfl ?_
                  refine lv_istore_n (lv' := [(3, .int (-1)), (2, .ref (b9 13)), (0, .ref (b9 0)), (1, .int (nI jp0))]) hx hb dX3_home_86 rfl hl (by decide) rfl (fun ls hl => ?_)
                  refine lv_aload_n hx hb dX3_home_87 rfl (lv_at hl 2 rfl) ?_
                  refine lv_aload_n hx hb dX3_home_88 rfl (lv_at hl 1 rfl) ?_
                  refine muzV (As := [.ref (b9 13)]) (q0 := 0) (ci := 3) hx hb hml hown hts (c_X3_bringBack l D cI cZ cL cO b9 (nI 0) n nw ns ((meN n pl nw ns k (σ, η)).1) σ ((meN n pl nw ns k (σ, η)).2) G (AN A H) hB9 (meN_row hn0 hI hL (by decide) k) (meN_row hn0 hI hL (by decide) k)) (cwV 1 hts gX3_home_X3_bringBack rfl rfl rfl (by decide +kernel) ⟨by decide, by decide⟩) hK hE hP rfl rfl rfl rfl hl.1 rfl (Nat.le_of_ble_eq_true rfl) hS (AN_AN hS.1) dX3_home_89 ⟨by decide, Nat.le_of_ble_eq_true rfl⟩ (fun G locs hP _ _ hS => ?_)
                  refine lv_iload_n hx hb dX3_home_92 rfl (lv_at hl 0 rfl) ?_
                  have hk9 : kHome nw (nI jp0) = 0 := by first | (simp [kHome, noneOr, Int32.not_lt, c1, c2, c3, c5, c7, c8]; done) | (unfold kHome; rw [if_pos (by assumption), if_pos (by assumption), if_neg (by omega)])
                  refine li_topi (show (-1) = vHome n pl nw ns σ (nI jp0) from by unfold vHome; rw [hk9]; first | rfl | (rw [ifk_0 rfl, nN_nI (show jp0 < 2 ^ 31 by omega)]; first | exact (hoV_0 (by assumption)).symm | exact (hoV_1 (by assumption) (by assumption)).symm | exact absurd (by assumption) (show ¬ (meN n pl nw ns k (σ, η)).1 12 jp0 = nI 2 by assumption) | exact (hoV_s hst hn0 (by omega) hh (by rw [← trj_me hn0 hI hL k]; assumption)).symm | exact (hoV_n hst hn0 (by rw [show 301 = k + 1 by omega]; exact fnd_n hh (by unfold hoS; rw [← trj_me hn0 hI hL k]; exact decide_eq_false (by assumption)))).symm)) ?_
                  have hw9 : nI 0 = nI (kHome nw (nI jp0)) := by rw [hk9]
                  have hP : va_P D vwCl (wMK cI cZ cO b9 (nI (kHome nw (nI jp0))) n nw ns σ σ ((meN n pl nw ns k (σ, η)).2)) G := Eq.mp (congrArg (fun z9 => va_P D vwCl (wMK cI cZ cO b9 z9 n nw ns σ σ ((meN n pl nw ns k (σ, η)).2)) G) hw9) hP
                  clear hw9
                  replace hP : va_P D vwCl (wM cI cZ a (nI (kHome nw (nI jp0))) n nw ns σ ((meN n pl nw ns k (σ, η)).2)) G := by rw [← wM_kB hkB]; exact hP.sub i13 rfl
                  exact hEnd 93 ls G locs _ _ ((meN n pl nw ns k (σ, η)).2) (by decide) (Nat.le_of_ble_eq_true rfl) dX3_home_93 ((meN_inv (x := (σ, η)) η hn0 hI hL k).2.1) hP hS
              · skip
                refine lv_aload_n hx hb dX3_home_64 rfl (lv_at hl 2 rfl) ?_
                refine miV (As := []) (q0 := 0) (ci := 3) hx hb hml hown hts (c_X3_stepOn l D cI cZ cL cO b9 (nI 0) n nw ns ((meN n pl nw ns k (σ, η)).1) ((meN n pl nw ns k (σ, η)).2) G (A_ b9 13) (hB9.A_ (by decide)) (hB) (pl) (t + k) (hIk.1.2.1) (hIk.2.1) (by omega) (hIk.2.2.1) (hIk.2.2.2.1) (hIk.2.2.2.2.1) (L1_LT hIk.2.2.2.2.2.1)) (cwV 0 hts gX3_home_X3_stepOn rfl rfl rfl (by decide +kernel) ⟨by decide, by decide⟩) hK hE (hP.sub (ws' := wM cI cZ b9 (nI 0) n nw ns ((meN n pl nw ns k (σ, η)).1) ((meN n pl nw ns k (σ, η)).2)) i13 rfl) rfl rfl rfl rfl hl.1 rfl (Nat.le_of_ble_eq_true rfl) hS (ak_of (hB9.M (by decide))) dX3_home_65 ⟨Nat.le_of_ble_eq_true rfl, Nat.le_of_ble_eq_true rfl⟩ (fun G locs hP1 _ hk1 hS => ?_)
                replace hP := mK_join hB9 hP hP1 hk1
                refine lv_pop hx hb dX3_home_68 rfl ?_
                refine lv_iinc (v := nI (k + 1)) (lv' := [(3, .int (nI (k + 1))), (2, .ref (b9 13)), (0, .ref (b9 0)), (1, .int (nI jp0))]) hx hb dX3_home_69 hl (k := 0) rfl (nI_inc _ _) (by decide) rfl (fun ls hl => ?_)
                refine lv_goto (tgt := 47) hx hb dX3_home_72 (by decide) ?_
                have hw9 : ms5 n pl nw ns ((meN n pl nw ns k (σ, η)).1) ((meN n pl nw ns k (σ, η)).2) = (meN n pl nw ns (k + 1) (σ, η)).1 := rfl
                have hP : va_P D vwCl (wMK cI cZ cO b9 (nI 0) n nw ns ((meN n pl nw ns (k + 1) (σ, η)).1) σ (me5 n pl nw ns ((meN n pl nw ns k (σ, η)).1) ((meN n pl nw ns k (σ, η)).2))) G := Eq.mp (congrArg (fun z9 => va_P D vwCl (wMK cI cZ cO b9 (nI 0) n nw ns z9 σ (me5 n pl nw ns ((meN n pl nw ns k (σ, η)).1) ((meN n pl nw ns k (σ, η)).2))) G) hw9) hP
                clear hw9
                have hw9 : me5 n pl nw ns ((meN n pl nw ns k (σ, η)).1) ((meN n pl nw ns k (σ, η)).2) = (meN n pl nw ns (k + 1) (σ, η)).2 := rfl
                have hP : va_P D vwCl (wMK cI cZ cO b9 (nI 0) n nw ns ((meN n pl nw ns (k + 1) (σ, η)).1) σ ((meN n pl nw ns (k + 1) (σ, η)).2)) G := Eq.mp (congrArg (fun z9 => va_P D vwCl (wMK cI cZ cO b9 (nI 0) n nw ns ((meN n pl nw ns (k + 1) (σ, η)).1) σ z9) G) hw9) hP
                clear hw9
                have hl9 : lv_has ls 4 [(3, .int (nI (k + 1))), (2, .ref (b9 13)), (0, .ref (b9 0)), (1, .int (nI jp0))] := lv_sub hl [0, 1, 2, 3] rfl
                exact ih47 (k + 1) (by omega) (by omega) (fnd_n hh (by unfold hoS; rw [← trj_me hn0 hI hL k]; exact decide_eq_false c7)) G locs hP hS ls hl9
        have hw9 : σ = (meN n pl nw ns 0 (σ, η)).1 := rfl
        have hP : va_P D vwCl (wMK cI cZ cO b9 (nI 0) n nw ns ((meN n pl nw ns 0 (σ, η)).1) σ η) G := Eq.mp (congrArg (fun z9 => va_P D vwCl (wMK cI cZ cO b9 (nI 0) n nw ns z9 σ η) G) hw9) hP
        clear hw9
        have hw9 : η = (meN n pl nw ns 0 (σ, η)).2 := rfl
        have hP : va_P D vwCl (wMK cI cZ cO b9 (nI 0) n nw ns ((meN n pl nw ns 0 (σ, η)).1) σ ((meN n pl nw ns 0 (σ, η)).2)) G := Eq.mp (congrArg (fun z9 => va_P D vwCl (wMK cI cZ cO b9 (nI 0) n nw ns ((meN n pl nw ns 0 (σ, η)).1) σ z9) G) hw9) hP
        clear hw9
        have hl9 : lv_has ls 4 [(3, .int (nI 0)), (2, .ref (b9 13)), (0, .ref (b9 0)), (1, .int (nI jp0))] := lv_sub hl [0, 1, 2, 3] rfl
        exact L47_4 ((300 - 0) + 1) 0 (Nat.lt_succ_self _) (by omega) (rfl) G locs hP hS ls hl9
      · skip
        refine lv_iconst (v := (-1)) hx hb dX3_home_38 rfl ?_
        have hk9 : kHome nw (nI jp0) = 0 := by first | (simp [kHome, noneOr, Int32.not_lt, c1, c2, c3]; done) | (unfold kHome; rw [if_pos (by assumption), if_pos (by assumption), if_neg (by omega)])
        refine li_topi (show (-1) = vHome n pl nw ns σ (nI jp0) from by unfold vHome; rw [hk9]; first | rfl | (rw [ifk_0 rfl, nN_nI (show jp0 < 2 ^ 31 by omega)]; first | exact (hoV_0 (by assumption)).symm | exact (hoV_1 (by assumption) (by assumption)).symm | exact absurd (by assumption) (show ¬ (meN n pl nw ns k (σ, η)).1 12 jp0 = nI 2 by assumption) | exact (hoV_s hst hn0 (by omega) hh (by rw [← trj_me hn0 hI hL k]; assumption)).symm | exact (hoV_n hst hn0 (by rw [show 301 = k + 1 by omega]; exact fnd_n hh (by unfold hoS; rw [← trj_me hn0 hI hL k]; exact decide_eq_false (by assumption)))).symm)) ?_
        have hw9 : nI 0 = nI (kHome nw (nI jp0)) := by rw [hk9]
        have hP : va_P D vwCl (wM cI cZ a (nI (kHome nw (nI jp0))) n nw ns σ η) G := Eq.mp (congrArg (fun z9 => va_P D vwCl (wM cI cZ a z9 n nw ns σ η) G) hw9) hP
        clear hw9
        exact hEnd 39 ls G locs _ _ η (Nat.zero_le _) (Nat.zero_le _) dX3_home_39 (hL) hP hS
    · skip
      refine lv_iconst (v := nI 0) hx hb dX3_home_29 rfl ?_
      have hk9 : kHome nw (nI jp0) = 0 := by first | (simp [kHome, noneOr, Int32.not_lt, c1, c2]; done) | (unfold kHome; rw [if_pos (by assumption), if_pos (by assumption), if_neg (by omega)])
      refine li_topi (show nI 0 = vHome n pl nw ns σ (nI jp0) from by unfold vHome; rw [hk9]; first | rfl | (rw [ifk_0 rfl, nN_nI (show jp0 < 2 ^ 31 by omega)]; first | exact (hoV_0 (by assumption)).symm | exact (hoV_1 (by assumption) (by assumption)).symm | exact absurd (by assumption) (show ¬ (meN n pl nw ns k (σ, η)).1 12 jp0 = nI 2 by assumption) | exact (hoV_s hst hn0 (by omega) hh (by rw [← trj_me hn0 hI hL k]; assumption)).symm | exact (hoV_n hst hn0 (by rw [show 301 = k + 1 by omega]; exact fnd_n hh (by unfold hoS; rw [← trj_me hn0 hI hL k]; exact decide_eq_false (by assumption)))).symm)) ?_
      have hw9 : nI 0 = nI (kHome nw (nI jp0)) := by rw [hk9]
      have hP : va_P D vwCl (wM cI cZ a (nI (kHome nw (nI jp0))) n nw ns σ η) G := Eq.mp (congrArg (fun z9 => va_P D vwCl (wM cI cZ a z9 n nw ns σ η) G) hw9) hP
      clear hw9
      exact hEnd 30 ls G locs _ _ η (Nat.zero_le _) (Nat.zero_le _) dX3_home_30 (hL) hP hS
  · skip
    refine lv_aload_n hx hb dX3_home_13 rfl (lv_at hl 0 rfl) ?_
    refine lv_iconst (v := nI 1) hx hb dX3_home_14 rfl ?_
    refine miV (As := [.int (nI 1)]) (q0 := 0) (ci := 3) hx hb hml hown hts (c_X3_fail l D cI cZ cL cO a (nI 0) n nw ns σ η G (nI 1) (AN A H) hA (hB)) (cwV 1 hts gX3_home_X3_fail rfl rfl rfl (by decide +kernel) ⟨by decide, by decide⟩) hK hE hP rfl rfl rfl rfl hl.1 rfl (Nat.le_of_ble_eq_true rfl) hS (fun _ h => h) dX3_home_15 ⟨Nat.le_of_ble_eq_true rfl, Nat.le_of_ble_eq_true rfl⟩ (fun G locs hP _ _ hS => ?_)
    have hk9 : kHome nw p0 = 1 := by first | (simp [kHome, noneOr, Int32.not_lt, c1]; done) | (unfold kHome; rw [if_pos (by assumption), if_pos (by assumption), if_neg (by omega)])
    refine li_topi (show nI 0 = vHome n pl nw ns σ p0 from by unfold vHome; rw [hk9]; first | rfl | (rw [ifk_0 rfl, nN_nI (show jp0 < 2 ^ 31 by omega)]; first | exact (hoV_0 (by assumption)).symm | exact (hoV_1 (by assumption) (by assumption)).symm | exact absurd (by assumption) (show ¬ (meN n pl nw ns k (σ, η)).1 12 jp0 = nI 2 by assumption) | exact (hoV_s hst hn0 (by omega) hh (by rw [← trj_me hn0 hI hL k]; assumption)).symm | exact (hoV_n hst hn0 (by rw [show 301 = k + 1 by omega]; exact fnd_n hh (by unfold hoS; rw [← trj_me hn0 hI hL k]; exact decide_eq_false (by assumption)))).symm)) ?_
    have hw9 : (nI 1) = nI (kHome nw p0) := by rw [hk9]
    have hP : va_P D vwCl (wM cI cZ a (nI (kHome nw p0)) n nw ns σ η) G := Eq.mp (congrArg (fun z9 => va_P D vwCl (wM cI cZ a z9 n nw ns σ η) G) hw9) hP
    clear hw9
    exact hEnd 18 ls G locs _ _ η (Nat.zero_le _) (Nat.zero_le _) dX3_home_18 (hL) hP hS
set_option maxHeartbeats 4000000 in
set_option maxRecDepth 100000 in
theorem c_X3_hears (l : Launch) (D : va_G) (cI cZ cL cO : ClassId) (a : Nat → Nat) (th : Int32) (n nw ns : Nat) (σ η : Sg) (H : Heap) (p0 : Int32) (p1 : Int32) (A : Nat → Prop) (hA : okP A a 13) (hB : n ≤ 10 ∧ nw ≤ 20 ∧ ns ≤ 6) (pl : Nat) (t : Nat) (hI : INV n pl nw ns t σ) (hL : LZ nw ns η) (ht : t < 2 ^ 30) : Met l yX3_hears wsX3_hears ({ frames := 6, cells := 7, slots := 343, locals := 135 } : Room) (ro_P D (T4 cI cZ cL cO) (wM cI cZ a th n nw ns σ η) H [.ref (a 0), .int p0, .int p1]) (me_Q D (vHears n pl nw ns σ p0 p1) cI cZ a (nI (kKnow nw ns p0 p1)) n nw ns σ (AN A H)) 7 343 (AN A H) := by
  refine me_of (cc := cX3_hears) (maxL := 6) (by decide) rfl (Nat.le_of_ble_eq_true rfl) rfl ?_
  intro p e s m args below meth c Q ls locs hx hb hml hown hts hK hE hP hl hS hEnd
  replace hA := hA.AN (H := H)
  have hl : lv_has ls 6 [(0, .ref (a 0)), (1, .int p0), (2, .int p1)] := hl
  have hX3 : ∀ w ∈ wsX30, w.before args s = true := fun w h => hts w (List.mem_cons_of_mem _ (List.mem_append_right _ (h)))
  have f47 : (Cond.fieldLink RX3 47 "LanternWalkModel" "thrown" "I").before args s = true := hts _ (List.mem_of_getElem? (i := 1) rfl)
  have f25 : (Cond.fieldLink RX3 25 "LanternWalkModel" "known" "[I").before args s = true := hts _ (List.mem_of_getElem? (i := 2) rfl)
  have f51 : (Cond.fieldLink RX3 51 "LanternWalkModel" "stretches" "I").before args s = true := hts _ (List.mem_of_getElem? (i := 3) rfl)
  refine lv_aload_n hx hb dX3_hears_0 rfl (lv_at hl 0 rfl) ?_
  refine lv_iconst (v := nI 0) hx hb dX3_hears_1 rfl ?_
  refine li_pf3 hx hb hX3 hown hK hP hA.DM hS 0 rfl 0 (by decide) f47 rfl rfl rfl (Nat.le_of_ble_eq_true rfl) stM_th dX3_hears_2 (fun G locs hP hS => ?_)
  refine lv_aload_n hx hb dX3_hears_5 rfl (lv_at hl 0 rfl) ?_
  refine lv_iload_n hx hb dX3_hears_6 rfl (lv_at hl 1 rfl) ?_
  refine roV (As := [.int p0]) (q0 := 0) (ci := 3) hx hb hml hown hts (c_X3_isWalker l D cI cZ cL cO a (nI 0) n nw ns σ η G p0 (hB)) (cwV 1 hts gX3_hears_X3_isWalker rfl rfl rfl (by decide +kernel) ⟨by decide, by decide⟩) hK hE hP rfl rfl rfl rfl hl.1 rfl (Nat.le_of_ble_eq_true rfl) hS dX3_hears_7 ⟨Nat.le_of_ble_eq_true rfl, Nat.le_of_ble_eq_true rfl⟩ (fun locs hS => ?_)
  refine li_zeq (tgt := 21) hx hb dX3_hears_10 (by decide) (fun c1 => ?_) (fun c1 => ?_)
  · skip
    refine lv_aload_n hx hb dX3_hears_21 rfl (lv_at hl 0 rfl) ?_
    refine lv_iconst (v := nI 1) hx hb dX3_hears_22 rfl ?_
    refine miV (As := [.int (nI 1)]) (q0 := 0) (ci := 3) hx hb hml hown hts (c_X3_fail l D cI cZ cL cO a (nI 0) n nw ns σ η G (nI 1) (AN A H) hA (hB)) (cwV 1 hts gX3_hears_X3_fail rfl rfl rfl (by decide +kernel) ⟨by decide, by decide⟩) hK hE hP rfl rfl rfl rfl hl.1 rfl (Nat.le_of_ble_eq_true rfl) hS (fun _ h => h) dX3_hears_23 ⟨Nat.le_of_ble_eq_true rfl, Nat.le_of_ble_eq_true rfl⟩ (fun G locs hP _ _ hS => ?_)
    have hk9 : kKnow nw ns p0 p1 = 1 := by first | (simp [kKnow, noneOr, Int32.not_lt, c1]; done) | (unfold kKnow; rw [if_pos (by assumption), if_pos (by assumption), if_neg (by omega)])
    refine li_topi (show nI 0 = vHears n pl nw ns σ p0 p1 from by unfold vHears; rw [hk9]; first | rfl | (rw [ifk_0 rfl, nN_nI (show jp0 < 2 ^ 31 by omega), nN_nI (show jp1 < 2 ^ 31 by omega)]; first | exact (heV_0 (le0_n (by assumption))).symm | exact (heV_1 (le0_z hI.2.2.2.2.2.2.1 (by assumption)) (by assumption)).symm | exact absurd (by assumption) (show ¬ (meN n pl nw ns k (σ, η)).1 16 (6 * jp0 + jp1) = 0 by assumption) | exact (heV_s hst hn0 (by omega) hh (by rw [← trj_me hn0 hI hL k]; assumption)).symm | exact (heV_n hst hn0 (by rw [show 151 = k + 1 by omega]; exact fnd_n hh (by unfold heS; rw [← trj_me hn0 hI hL k]; exact decide_eq_false (fun z => z (by assumption))))).symm)) ?_
    have hw9 : (nI 1) = nI (kKnow nw ns p0 p1) := by rw [hk9]
    have hP : va_P D vwCl (wM cI cZ a (nI (kKnow nw ns p0 p1)) n nw ns σ η) G := Eq.mp (congrArg (fun z9 => va_P D vwCl (wM cI cZ a z9 n nw ns σ η) G) hw9) hP
    clear hw9
    exact hEnd 26 ls G locs _ _ η (Nat.zero_le _) (Nat.zero_le _) dX3_hears_26 (hL) hP hS
  · skip
    obtain ⟨jp0, hhjp0, rfl⟩ := has_nat (by omega) c1
    refine lv_aload_n hx hb dX3_hears_13 rfl (lv_at hl 0 rfl) ?_
    refine lv_iload_n hx hb dX3_hears_14 rfl (lv_at hl 2 rfl) ?_
    refine roV (As := [.int p1]) (q0 := 0) (ci := 3) hx hb hml hown hts (c_X3_isSong l D cI cZ cL cO a (nI 0) n nw ns σ η G p1 (hB)) (cwV 1 hts gX3_hears_X3_isSong rfl rfl rfl (by decide +kernel) ⟨by decide, by decide⟩) hK hE hP rfl rfl rfl rfl hl.1 rfl (Nat.le_of_ble_eq_true rfl) hS dX3_hears_15 ⟨Nat.le_of_ble_eq_true rfl, Nat.le_of_ble_eq_true rfl⟩ (fun locs hS => ?_)
    refine li_zne (tgt := 27) hx hb dX3_hears_18 (by decide) (fun c2 => ?_) (fun c2 => ?_)
    · skip
      obtain ⟨jp1, hhjp1, rfl⟩ := has_nat (by omega) c2
      refine lv_bipush (v := nI 6) hx hb dX3_hears_27 rfl ?_
      refine lv_iload_n hx hb dX3_hears_29 rfl (lv_at hl 1 rfl) ?_
      refine lv_imul hx hb dX3_hears_30 ?_
      refine li_topi (pk_mul _ _) ?_
      refine lv_iload_n hx hb dX3_hears_31 rfl (lv_at hl 2 rfl) ?_
      refine lv_iadd hx hb dX3_hears_32 ?_
      refine li_topi (nI_add _ _) ?_
      refine lv_istore_n (lv' := [(3, .int (nI (6 * jp0 + jp1))), (0, .ref (a 0)), (1, .int (nI jp0)), (2, .int (nI jp1))]) hx hb dX3_hears_33 rfl hl (by decide) rfl (fun ls hl => ?_)
      refine lv_aload_n hx hb dX3_hears_34 rfl (lv_at hl 1 rfl) ?_
      refine li_gf3 hx hb hX3 hown hK hP 0 rfl 9 (by decide) f25 rfl dX3_hears_35 ?_
      refine lv_iload_n hx hb dX3_hears_38 rfl (lv_at hl 0 rfl) ?_
      refine li_ild hx hb hK hP 6 0 rfl rfl (by omega) (by decide) dX3_hears_39 ?_
      refine lv_if_le (tgt := 45) hx hb dX3_hears_40 (by decide) (fun c3 => ?_) (fun c3 => ?_)
      · skip
        have hst := le0_z hI.2.2.2.2.2.2.1 c3
        refine lv_aload_n hx hb dX3_hears_45 rfl (lv_at hl 1 rfl) ?_
        refine li_gf3 hx hb hX3 hown hK hP 0 rfl 1 (by decide) f51 rfl dX3_hears_46 ?_
        refine li_ne0 (tgt := 54) hx hb dX3_hears_49 (by decide) (by omega) (fun c4 => ?_) (fun c4 => ?_)
        · skip
          have hn0 : 0 < n := by omega
          refine lv_aload_n hx hb dX3_hears_54 rfl (lv_at hl 1 rfl) ?_
          refine krzV (As := []) (q0 := 0) (ci := 3) hx hb hml hown hts (c_X3_kept l D cI cZ cL cO a (nI 0) n nw ns σ η G (AN A H) hA) (cwV 0 hts gX3_hears_X3_kept rfl rfl rfl (by decide +kernel) ⟨by decide, by decide⟩) hK hE hP rfl rfl rfl rfl hl.1 rfl (Nat.le_of_ble_eq_true rfl) hS (AN_AN hS.1) dX3_hears_55 ⟨Nat.le_of_ble_eq_true rfl, Nat.le_of_ble_eq_true rfl⟩ (fun b9 G locs hkB hB9 hP _ hS => ?_)
          refine w_wide (k := 6) (n := 338) (by decide) (Nat.le_of_ble_eq_true rfl) ?_
          have hl : lv_has ls 6 [(3, .int (nI (6 * jp0 + jp1))), (0, .ref (b9 0)), (1, .int (nI jp0)), (2, .int (nI jp1))] := lv_reg hl (i := 1) rfl (congrArg Value.ref (hkB 0 (by decide)).symm)
          refine lv_astore (lv' := [(4, .ref (b9 13)), (3, .int (nI (6 * jp0 + jp1))), (0, .ref (b9 0)), (1, .int (nI jp0)), (2, .int (nI jp1))]) hx hb dX3_hears_58 hl (by decide) rfl (fun ls hl => ?_)
          refine lv_iconst (v := nI 0) hx hb dX3_hears_60 rfl ?_
          refine lv_istore (lv' := [(5, .int (nI 0)), (4, .ref (b9 13)), (3, .int (nI (6 * jp0 + jp1))), (0, .ref (b9 0)), (1, .int (nI jp0)), (2, .int (nI jp1))]) hx hb dX3_hears_61 hl (by decide) rfl (fun ls hl => ?_)
          have L63_5 : ∀ (fuel : Nat) (k : Nat), (150 - k) < fuel → (k ≤ 150) → (fnd (heS n pl nw ns σ (6 * jp0 + jp1)) k = none) → ∀ (G : Heap) (locs : List Loc), va_P D vwCl (wMK cI cZ cO b9 (nI 0) n nw ns ((meN n pl nw ns k (σ, η)).1) σ ((meN n pl nw ns k (σ, η)).2)) G → va_S (AN A H) H G locs → ∀ (ls : Array Slot), lv_has ls 6 [(5, .int (nI k)), (4, .ref (b9 13)), (3, .int (nI (6 * jp0 + jp1))), (0, .ref (b9 0)), (1, .int (nI jp0)), (2, .int (nI jp1))] → W p l e ({ frames := 6, cells := 7, slots := 343, locals := 135 } : Room) s m args below meth c G locs 6 338 Q (F0 m 63 ls []) := by
            intro fuel
            induction fuel with
            | zero =>
              intro k hfuel
              exact absurd hfuel (Nat.not_lt_zero _)
            | succ fuel ih63 =>
              intro k hfuel63 hk hh G locs hP hS ls hl
              have hIk := (meN_inv (x := (σ, η)) η hn0 hI hL k).1
              refine lv_iload hx hb dX3_hears_63 (lv_at hl 0 rfl) ?_
              refine lv_sipush (v := nI 150) hx hb dX3_hears_65 rfl ?_
              refine li_ge (tgt := 91) hx hb dX3_hears_68 (by decide) (by omega) (by omega) (fun c6 => ?_) (fun c6 => ?_)
              · skip
                refine lv_aload_n hx hb dX3_hears_91 rfl (lv_at hl 3 rfl) ?_
                refine li_gf3 hx hb hX3 hown hK hP 0 rfl 9 (by decide) f25 rfl dX3_hears_92 ?_
                refine lv_iload_n hx hb dX3_hears_95 rfl (lv_at hl 2 rfl) ?_
                refine li_ild hx hb hK hP 6 0 rfl rfl (by omega) (by decide) dX3_hears_96 ?_
                refine lv_if_ne (tgt := 103) hx hb dX3_hears_97 (by decide) (fun c7 => ?_) (fun c7 => ?_)
                · skip
                  refine lv_aload_n hx hb dX3_hears_103 rfl (lv_at hl 3 rfl) ?_
                  refine lv_aload hx hb dX3_hears_104 (lv_at hl 1 rfl) ?_
                  refine muzV (As := [.ref (b9 13)]) (q0 := 0) (ci := 3) hx hb hml hown hts (c_X3_bringBack l D cI cZ cL cO b9 (nI 0) n nw ns ((meN n pl nw ns k (σ, η)).1) σ ((meN n pl nw ns k (σ, η)).2) G (AN A H) hB9 (meN_row hn0 hI hL (by decide) k) (meN_row hn0 hI hL (by decide) k)) (cwV 1 hts gX3_hears_X3_bringBack rfl rfl rfl (by decide +kernel) ⟨by decide, by decide⟩) hK hE hP rfl rfl rfl rfl hl.1 rfl (Nat.le_of_ble_eq_true rfl) hS (AN_AN hS.1) dX3_hears_106 ⟨by decide, Nat.le_of_ble_eq_true rfl⟩ (fun G locs hP _ _ hS => ?_)
                  refine lv_iload hx hb dX3_hears_109 (lv_at hl 0 rfl) ?_
                  have hk9 : kKnow nw ns (nI jp0) (nI jp1) = 0 := by first | (simp [kKnow, noneOr, Int32.not_lt, c1, c2, c3, c4, c6, c7]; done) | (unfold kKnow; rw [if_pos (by assumption), if_pos (by assumption), if_neg (by omega)])
                  refine li_topi (show nI k = vHears n pl nw ns σ (nI jp0) (nI jp1) from by unfold vHears; rw [hk9]; first | rfl | (rw [ifk_0 rfl, nN_nI (show jp0 < 2 ^ 31 by omega), nN_nI (show jp1 < 2 ^ 31 by omega)]; first | exact (heV_0 (le0_n (by assumption))).symm | exact (heV_1 (le0_z hI.2.2.2.2.2.2.1 (by assumption)) (by assumption)).symm | exact absurd (by assumption) (show ¬ (meN n pl nw ns k (σ, η)).1 16 (6 * jp0 + jp1) = 0 by assumption) | exact (heV_s hst hn0 (by omega) hh (by rw [← trj_me hn0 hI hL k]; assumption)).symm | exact (heV_n hst hn0 (by rw [show 151 = k + 1 by omega]; exact fnd_n hh (by unfold heS; rw [← trj_me hn0 hI hL k]; exact decide_eq_false (fun z => z (by assumption))))).symm)) ?_
                  have hw9 : nI 0 = nI (kKnow nw ns (nI jp0) (nI jp1)) := by rw [hk9]
                  have hP : va_P D vwCl (wMK cI cZ cO b9 (nI (kKnow nw ns (nI jp0) (nI jp1))) n nw ns σ σ ((meN n pl nw ns k (σ, η)).2)) G := Eq.mp (congrArg (fun z9 => va_P D vwCl (wMK cI cZ cO b9 z9 n nw ns σ σ ((meN n pl nw ns k (σ, η)).2)) G) hw9) hP
                  clear hw9
                  replace hP : va_P D vwCl (wM cI cZ a (nI (kKnow nw ns (nI jp0) (nI jp1))) n nw ns σ ((meN n pl nw ns k (σ, η)).2)) G := by rw [← wM_kB hkB]; exact hP.sub i13 rfl
                  exact hEnd 111 ls G locs _ _ ((meN n pl nw ns k (σ, η)).2) (by decide) (Nat.le_of_ble_eq_true rfl) dX3_hears_111 ((meN_inv (x := (σ, η)) η hn0 hI hL k).2.1) hP hS
                · skip
                  refine lv_iconst (v := (-1)) hx hb dX3_hears_100 rfl ?_
                  refine lv_istore (lv' := [(5, .int (-1)), (4, .ref (b9 13)), (3, .int (nI (6 * jp0 + jp1))), (0, .ref (b9 0)), (1, .int (nI jp0)), (2, .int (nI jp1))]) hx hb dX3_hears_101 hl (by decide) rfl (fun ls hl => ?_)
                  refine lv_aload_n hx hb dX3_hears_103 rfl (lv_at hl 3 rfl) ?_
                  refine lv_aload hx hb dX3_hears_104 (lv_at hl 1 rfl) ?_
                  refine muzV (As := [.ref (b9 13)]) (q0 := 0) (ci := 3) hx hb hml hown hts (c_X3_bringBack l D cI cZ cL cO b9 (nI 0) n nw ns ((meN n pl nw ns k (σ, η)).1) σ ((meN n pl nw ns k (σ, η)).2) G (AN A H) hB9 (meN_row hn0 hI hL (by decide) k) (meN_row hn0 hI hL (by decide) k)) (cwV 1 hts gX3_hears_X3_bringBack rfl rfl rfl (by decide +kernel) ⟨by decide, by decide⟩) hK hE hP rfl rfl rfl rfl hl.1 rfl (Nat.le_of_ble_eq_true rfl) hS (AN_AN hS.1) dX3_hears_106 ⟨by decide, Nat.le_of_ble_eq_true rfl⟩ (fun G locs hP _ _ hS => ?_)
                  refine lv_iload hx hb dX3_hears_109 (lv_at hl 0 rfl) ?_
                  have hk9 : kKnow nw ns (nI jp0) (nI jp1) = 0 := by first | (simp [kKnow, noneOr, Int32.not_lt, c1, c2, c3, c4, c6, c7]; done) | (unfold kKnow; rw [if_pos (by assumption), if_pos (by assumption), if_neg (by omega)])
                  refine li_topi (show (-1) = vHears n pl nw ns σ (nI jp0) (nI jp1) from by unfold vHears; rw [hk9]; first | rfl | (rw [ifk_0 rfl, nN_nI (show jp0 < 2 ^ 31 by omega), nN_nI (show jp1 < 2 ^ 31 by omega)]; first | exact (heV_0 (le0_n (by assumption))).symm | exact (heV_1 (le0_z hI.2.2.2.2.2.2.1 (by assumption)) (by assumption)).symm | exact absurd (by assumption) (show ¬ (meN n pl nw ns k (σ, η)).1 16 (6 * jp0 + jp1) = 0 by assumption) | exact (heV_s hst hn0 (by omega) hh (by rw [← trj_me hn0 hI hL k]; assumption)).symm | exact (heV_n hst hn0 (by rw [show 151 = k + 1 by omega]; exact fnd_n hh (by unfold heS; rw [← trj_me hn0 hI hL k]; exact decide_eq_false (fun z => z (by assumption))))).symm)) ?_
                  have hw9 : nI 0 = nI (kKnow nw ns (nI jp0) (nI jp1)) := by rw [hk9]
                  have hP : va_P D vwCl (wMK cI cZ cO b9 (nI (kKnow nw ns (nI jp0) (nI jp1))) n nw ns σ σ ((meN n pl nw ns k (σ, η)).2)) G := Eq.mp (congrArg (fun z9 => va_P D vwCl (wMK cI cZ cO b9 z9 n nw ns σ σ ((meN n pl nw ns k (σ, η)).2)) G) hw9) hP
                  clear hw9
                  replace hP : va_P D vwCl (wM cI cZ a (nI (kKnow nw ns (nI jp0) (nI jp1))) n nw ns σ ((meN n pl nw ns k (σ, η)).2)) G := by rw [← wM_kB hkB]; exact hP.sub i13 rfl
                  exact hEnd 111 ls G locs _ _ ((meN n pl nw ns k (σ, η)).2) (by decide) (Nat.le_of_ble_eq_true rfl) dX3_hears_111 ((meN_inv (x := (σ, η)) η hn0 hI hL k).2.1) hP hS
              · skip
                refine lv_aload_n hx hb dX3_hears_71 rfl (lv_at hl 3 rfl) ?_
                refine li_gf3 hx hb hX3 hown hK hP 0 rfl 9 (by decide) f25 rfl dX3_hears_72 ?_
                refine lv_iload_n hx hb dX3_hears_75 rfl (lv_at hl 2 rfl) ?_
                refine li_ild hx hb hK hP 6 0 rfl rfl (by omega) (by decide) dX3_hears_76 ?_
                refine lv_if_ne (tgt := 91) hx hb dX3_hears_77 (by decide) (fun c8 => ?_) (fun c8 => ?_)
                · skip
                  refine lv_aload_n hx hb dX3_hears_91 rfl (lv_at hl 3 rfl) ?_
                  refine li_gf3 hx hb hX3 hown hK hP 0 rfl 9 (by decide) f25 rfl dX3_hears_92 ?_
                  refine lv_iload_n hx hb dX3_hears_95 rfl (lv_at hl 2 rfl) ?_
                  refine li_ild hx hb hK hP 6 0 rfl rfl (by omega) (by decide) dX3_hears_96 ?_
                  refine lv_if_ne (tgt := 103) hx hb dX3_hears_97 (by decide) (fun c9 => ?_) (fun c9 => ?_)
                  · skip
                    refine lv_aload_n hx hb dX3_hears_103 rfl (lv_at hl 3 rfl) ?_
                    refine lv_aload hx hb dX3_hears_104 (lv_at hl 1 rfl) ?_
                    refine muzV (As := [.ref (b9 13)]) (q0 := 0) (ci := 3) hx hb hml hown hts (c_X3_bringBack l D cI cZ cL cO b9 (nI 0) n nw ns ((meN n pl nw ns k (σ, η)).1) σ ((meN n pl nw ns k (σ, η)).2) G (AN A H) hB9 (meN_row hn0 hI hL (by decide) k) (meN_row hn0 hI hL (by decide) k)) (cwV 1 hts gX3_hears_X3_bringBack rfl rfl rfl (by decide +kernel) ⟨by decide, by decide⟩) hK hE hP rfl rfl rfl rfl hl.1 rfl (Nat.le_of_ble_eq_true rfl) hS (AN_AN hS.1) dX3_hears_106 ⟨by decide, Nat.le_of_ble_eq_true rfl⟩ (fun G locs hP _ _ hS => ?_)
                    refine lv_iload hx hb dX3_hears_109 (lv_at hl 0 rfl) ?_
                    have hk9 : kKnow nw ns (nI jp0) (nI jp1) = 0 := by first | (simp [kKnow, noneOr, Int32.not_lt, c1, c2, c3, c4, c6, c8, c9]; done) | (unfold kKnow; rw [if_pos (by assumption), if_pos (by assumption), if_neg (by omega)])
                    refine li_topi (show nI k = vHears n pl nw ns σ (nI jp0) (nI jp1) from by unfold vHears; rw [hk9]; first | rfl | (rw [ifk_0 rfl, nN_nI (show jp0 < 2 ^ 31 by omega), nN_nI (show jp1 < 2 ^ 31 by omega)]; first | exact (heV_0 (le0_n (by assumption))).symm | exact (heV_1 (le0_z hI.2.2.2.2.2.2.1 (by assumption)) (by assumption)).symm | exact absurd (by assumption) (show ¬ (meN n pl nw ns k (σ, η)).1 16 (6 * jp0 + jp1) = 0 by assumption) | exact (heV_s hst hn0 (by omega) hh (by rw [← trj_me hn0 hI hL k]; assumption)).symm | exact (heV_n hst hn0 (by rw [show 151 = k + 1 by omega]; exact fnd_n hh (by unfold heS; rw [← trj_me hn0 hI hL k]; exact decide_eq_false (fun z => z (by assumption))))).symm)) ?_
                    have hw9 : nI 0 = nI (kKnow nw ns (nI jp0) (nI jp1)) := by rw [hk9]
                    have hP : va_P D vwCl (wMK cI cZ cO b9 (nI (kKnow nw ns (nI jp0) (nI jp1))) n nw ns σ σ ((meN n pl nw ns k (σ, η)).2)) G := Eq.mp (congrArg (fun z9 => va_P D vwCl (wMK cI cZ cO b9 z9 n nw ns σ σ ((meN n pl nw ns k (σ, η)).2)) G) hw9) hP
                    clear hw9
                    replace hP : va_P D vwCl (wM cI cZ a (nI (kKnow nw ns (nI jp0) (nI jp1))) n nw ns σ ((meN n pl nw ns k (σ, η)).2)) G := by rw [← wM_kB hkB]; exact hP.sub i13 rfl
                    exact hEnd 111 ls G locs _ _ ((meN n pl nw ns k (σ, η)).2) (by decide) (Nat.le_of_ble_eq_true rfl) dX3_hears_111 ((meN_inv (x := (σ, η)) η hn0 hI hL k).2.1) hP hS
                  · skip
                    refine lv_iconst (v := (-1)) hx hb dX3_hears_100 rfl ?_
                    refine lv_istore (lv' := [(5, .int (-1)), (4, .ref (b9 13)), (3, .int (nI (6 * jp0 + jp1))), (0, .ref (b9 0)), (1, .int (nI jp0)), (2, .int (nI jp1))]) hx hb dX3_hears_101 hl (by decide) rfl (fun ls hl => ?_)
                    refine lv_aload_n hx hb dX3_hears_103 rfl (lv_at hl 3 rfl) ?_
                    refine lv_aload hx hb dX3_hears_104 (lv_at hl 1 rfl) ?_
                    refine muzV (As := [.ref (b9 13)]) (q0 := 0) (ci := 3) hx hb hml hown hts (c_X3_bringBack l D cI cZ cL cO b9 (nI 0) n nw ns ((meN n pl nw ns k (σ, η)).1) σ ((meN n pl nw ns k (σ, η)).2) G (AN A H) hB9 (meN_row hn0 hI hL (by decide) k) (meN_row hn0 hI hL (by decide) k)) (cwV 1 hts gX3_hears_X3_bringBack rfl rfl rfl (by decide +kernel) ⟨by decide, by decide⟩) hK hE hP rfl rfl rfl rfl hl.1 rfl (Nat.le_of_ble_eq_true rfl) hS (AN_AN hS.1) dX3_hears_106 ⟨by decide, Nat.le_of_ble_eq_true rfl⟩ (fun G locs hP _ _ hS => ?_)
                    refine lv_iload hx hb dX3_hears_109 (lv_at hl 0 rfl) ?_
                    have hk9 : kKnow nw ns (nI jp0) (nI jp1) = 0 := by first | (simp [kKnow, noneOr, Int32.not_lt, c1, c2, c3, c4, c6, c8, c9]; done) | (unfold kKnow; rw [if_pos (by assumption), if_pos (by assumption), if_neg (by omega)])
                    refine li_topi (show (-1) = vHears n pl nw ns σ (nI jp0) (nI jp1) from by unfold vHears; rw [hk9]; first | rfl | (rw [ifk_0 rfl, nN_nI (show jp0 < 2 ^ 31 by omega), nN_nI (show jp1 < 2 ^ 31 by omega)]; first | exact (heV_0 (le0_n (by assumption))).symm | exact (heV_1 (le0_z hI.2.2.2.2.2.2.1 (by assumption)) (by assumption)).symm | exact absurd (by assumption) (show ¬ (meN n pl nw ns k (σ, η)).1 16 (6 * jp0 + jp1) = 0 by assumption) | exact (heV_s hst hn0 (by omega) hh (by rw [← trj_me hn0 hI hL k]; assumption)).symm | exact (heV_n hst hn0 (by rw [show 151 = k + 1 by omega]; exact fnd_n hh (by unfold heS; rw [← trj_me hn0 hI hL k]; exact decide_eq_false (fun z => z (by assumption))))).symm)) ?_
                    have hw9 : nI 0 = nI (kKnow nw ns (nI jp0) (nI jp1)) := by rw [hk9]
                    have hP : va_P D vwCl (wMK cI cZ cO b9 (nI (kKnow nw ns (nI jp0) (nI jp1))) n nw ns σ σ ((meN n pl nw ns k (σ, η)).2)) G := Eq.mp (congrArg (fun z9 => va_P D vwCl (wMK cI cZ cO b9 z9 n nw ns σ σ ((meN n pl nw ns k (σ, η)).2)) G) hw9) hP
                    clear hw9
                    replace hP : va_P D vwCl (wM cI cZ a (nI (kKnow nw ns (nI jp0) (nI jp1))) n nw ns σ ((meN n pl nw ns k (σ, η)).2)) G := by rw [← wM_kB hkB]; exact hP.sub i13 rfl
                    exact hEnd 111 ls G locs _ _ ((meN n pl nw ns k (σ, η)).2) (by decide) (Nat.le_of_ble_eq_true rfl) dX3_hears_111 ((meN_inv (x := (σ, η)) η hn0 hI hL k).2.1) hP hS
                · skip
                  refine lv_aload_n hx hb dX3_hears_80 rfl (lv_at hl 3 rfl) ?_
                  refine miV (As := []) (q0 := 0) (ci := 3) hx hb hml hown hts (c_X3_stepOn l D cI cZ cL cO b9 (nI 0) n nw ns ((meN n pl nw ns k (σ, η)).1) ((meN n pl nw ns k (σ, η)).2) G (A_ b9 13) (hB9.A_ (by decide)) (hB) (pl) (t + k) (hIk.1.2.1) (hIk.2.1) (by omega) (hIk.2.2.1) (hIk.2.2.2.1) (hIk.2.2.2.2.1) (L1_LT hIk.2.2.2.2.2.1)) (cwV 0 hts gX3_hears_X3_stepOn rfl rfl rfl (by decide +kernel) ⟨by decide, by decide⟩) hK hE (hP.sub (ws' := wM cI cZ b9 (nI 0) n nw ns ((meN n pl nw ns k (σ, η)).1) ((meN n pl nw ns k (σ, η)).2)) i13 rfl) rfl rfl rfl rfl hl.1 rfl (Nat.le_of_ble_eq_true rfl) hS (ak_of (hB9.M (by decide))) dX3_hears_81 ⟨Nat.le_of_ble_eq_true rfl, Nat.le_of_ble_eq_true rfl⟩ (fun G locs hP1 _ hk1 hS => ?_)
                  replace hP := mK_join hB9 hP hP1 hk1
                  refine lv_pop hx hb dX3_hears_84 rfl ?_
                  refine lv_iinc (v := nI (k + 1)) (lv' := [(5, .int (nI (k + 1))), (4, .ref (b9 13)), (3, .int (nI (6 * jp0 + jp1))), (0, .ref (b9 0)), (1, .int (nI jp0)), (2, .int (nI jp1))]) hx hb dX3_hears_85 hl (k := 0) rfl (nI_inc _ _) (by decide) rfl (fun ls hl => ?_)
                  refine lv_goto (tgt := 63) hx hb dX3_hears_88 (by decide) ?_
                  have hw9 : ms5 n pl nw ns ((meN n pl nw ns k (σ, η)).1) ((meN n pl nw ns k (σ, η)).2) = (meN n pl nw ns (k + 1) (σ, η)).1 := rfl
                  have hP : va_P D vwCl (wMK cI cZ cO b9 (nI 0) n nw ns ((meN n pl nw ns (k + 1) (σ, η)).1) σ (me5 n pl nw ns ((meN n pl nw ns k (σ, η)).1) ((meN n pl nw ns k (σ, η)).2))) G := Eq.mp (congrArg (fun z9 => va_P D vwCl (wMK cI cZ cO b9 (nI 0) n nw ns z9 σ (me5 n pl nw ns ((meN n pl nw ns k (σ, η)).1) ((meN n pl nw ns k (σ, η)).2))) G) hw9) hP
                  clear hw9
                  have hw9 : me5 n pl nw ns ((meN n pl nw ns k (σ, η)).1) ((meN n pl nw ns k (σ, η)).2) = (meN n pl nw ns (k + 1) (σ, η)).2 := rfl
                  have hP : va_P D vwCl (wMK cI cZ cO b9 (nI 0) n nw ns ((meN n pl nw ns (k + 1) (σ, η)).1) σ ((meN n pl nw ns (k + 1) (σ, η)).2)) G := Eq.mp (congrArg (fun z9 => va_P D vwCl (wMK cI cZ cO b9 (nI 0) n nw ns ((meN n pl nw ns (k + 1) (σ, η)).1) σ z9) G) hw9) hP
                  clear hw9
                  have hl9 : lv_has ls 6 [(5, .int (nI (k + 1))), (4, .ref (b9 13)), (3, .int (nI (6 * jp0 + jp1))), (0, .ref (b9 0)), (1, .int (nI jp0)), (2, .int (nI jp1))] := lv_sub hl [0, 1, 2, 3, 4, 5] rfl
                  exact ih63 (k + 1) (by omega) (by omega) (fnd_n hh (by unfold heS; rw [← trj_me hn0 hI hL k]; exact decide_eq_false (fun z => z c8))) G locs hP hS ls hl9
          have hw9 : σ = (meN n pl nw ns 0 (σ, η)).1 := rfl
          have hP : va_P D vwCl (wMK cI cZ cO b9 (nI 0) n nw ns ((meN n pl nw ns 0 (σ, η)).1) σ η) G := Eq.mp (congrArg (fun z9 => va_P D vwCl (wMK cI cZ cO b9 (nI 0) n nw ns z9 σ η) G) hw9) hP
          clear hw9
          have hw9 : η = (meN n pl nw ns 0 (σ, η)).2 := rfl
          have hP : va_P D vwCl (wMK cI cZ cO b9 (nI 0) n nw ns ((meN n pl nw ns 0 (σ, η)).1) σ ((meN n pl nw ns 0 (σ, η)).2)) G := Eq.mp (congrArg (fun z9 => va_P D vwCl (wMK cI cZ cO b9 (nI 0) n nw ns ((meN n pl nw ns 0 (σ, η)).1) σ z9) G) hw9) hP
          clear hw9
          have hl9 : lv_has ls 6 [(5, .int (nI 0)), (4, .ref (b9 13)), (3, .int (nI (6 * jp0 + jp1))), (0, .ref (b9 0)), (1, .int (nI jp0)), (2, .int (nI jp1))] := lv_sub hl [0, 1, 2, 3, 4, 5] rfl
          exact L63_5 ((150 - 0) + 1) 0 (Nat.lt_succ_self _) (by omega) (rfl) G locs hP hS ls hl9
        · skip
          refine lv_iconst (v := (-1)) hx hb dX3_hears_52 rfl ?_
          have hk9 : kKnow nw ns (nI jp0) (nI jp1) = 0 := by first | (simp [kKnow, noneOr, Int32.not_lt, c1, c2, c3, c4]; done) | (unfold kKnow; rw [if_pos (by assumption), if_pos (by assumption), if_neg (by omega)])
          refine li_topi (show (-1) = vHears n pl nw ns σ (nI jp0) (nI jp1) from by unfold vHears; rw [hk9]; first | rfl | (rw [ifk_0 rfl, nN_nI (show jp0 < 2 ^ 31 by omega), nN_nI (show jp1 < 2 ^ 31 by omega)]; first | exact (heV_0 (le0_n (by assumption))).symm | exact (heV_1 (le0_z hI.2.2.2.2.2.2.1 (by assumption)) (by assumption)).symm | exact absurd (by assumption) (show ¬ (meN n pl nw ns k (σ, η)).1 16 (6 * jp0 + jp1) = 0 by assumption) | exact (heV_s hst hn0 (by omega) hh (by rw [← trj_me hn0 hI hL k]; assumption)).symm | exact (heV_n hst hn0 (by rw [show 151 = k + 1 by omega]; exact fnd_n hh (by unfold heS; rw [← trj_me hn0 hI hL k]; exact decide_eq_false (fun z => z (by assumption))))).symm)) ?_
          have hw9 : nI 0 = nI (kKnow nw ns (nI jp0) (nI jp1)) := by rw [hk9]
          have hP : va_P D vwCl (wM cI cZ a (nI (kKnow nw ns (nI jp0) (nI jp1))) n nw ns σ η) G := Eq.mp (congrArg (fun z9 => va_P D vwCl (wM cI cZ a z9 n nw ns σ η) G) hw9) hP
          clear hw9
          exact hEnd 53 ls G locs _ _ η (Nat.zero_le _) (Nat.zero_le _) dX3_hears_53 (hL) hP hS
      · skip
        refine lv_iconst (v := nI 0) hx hb dX3_hears_43 rfl ?_
        have hk9 : kKnow nw ns (nI jp0) (nI jp1) = 0 := by first | (simp [kKnow, noneOr, Int32.not_lt, c1, c2, c3]; done) | (unfold kKnow; rw [if_pos (by assumption), if_pos (by assumption), if_neg (by omega)])
        refine li_topi (show nI 0 = vHears n pl nw ns σ (nI jp0) (nI jp1) from by unfold vHears; rw [hk9]; first | rfl | (rw [ifk_0 rfl, nN_nI (show jp0 < 2 ^ 31 by omega), nN_nI (show jp1 < 2 ^ 31 by omega)]; first | exact (heV_0 (le0_n (by assumption))).symm | exact (heV_1 (le0_z hI.2.2.2.2.2.2.1 (by assumption)) (by assumption)).symm | exact absurd (by assumption) (show ¬ (meN n pl nw ns k (σ, η)).1 16 (6 * jp0 + jp1) = 0 by assumption) | exact (heV_s hst hn0 (by omega) hh (by rw [← trj_me hn0 hI hL k]; assumption)).symm | exact (heV_n hst hn0 (by rw [show 151 = k + 1 by omega]; exact fnd_n hh (by unfold heS; rw [← trj_me hn0 hI hL k]; exact decide_eq_false (fun z => z (by assumption))))).symm)) ?_
        have hw9 : nI 0 = nI (kKnow nw ns (nI jp0) (nI jp1)) := by rw [hk9]
        have hP : va_P D vwCl (wM cI cZ a (nI (kKnow nw ns (nI jp0) (nI jp1))) n nw ns σ η) G := Eq.mp (congrArg (fun z9 => va_P D vwCl (wM cI cZ a z9 n nw ns σ η) G) hw9) hP
        clear hw9
        exact hEnd 44 ls G locs _ _ η (Nat.zero_le _) (Nat.zero_le _) dX3_hears_44 (hL) hP hS
    · skip
      refine lv_aload_n hx hb dX3_hears_21 rfl (lv_at hl 0 rfl) ?_
      refine lv_iconst (v := nI 1) hx hb dX3_hears_22 rfl ?_
      refine miV (As := [.int (nI 1)]) (q0 := 0) (ci := 3) hx hb hml hown hts (c_X3_fail l D cI cZ cL cO a (nI 0) n nw ns σ η G (nI 1) (AN A H) hA (hB)) (cwV 1 hts gX3_hears_X3_fail rfl rfl rfl (by decide +kernel) ⟨by decide, by decide⟩) hK hE hP rfl rfl rfl rfl hl.1 rfl (Nat.le_of_ble_eq_true rfl) hS (fun _ h => h) dX3_hears_23 ⟨Nat.le_of_ble_eq_true rfl, Nat.le_of_ble_eq_true rfl⟩ (fun G locs hP _ _ hS => ?_)
      have hk9 : kKnow nw ns (nI jp0) p1 = 1 := by first | (simp [kKnow, noneOr, Int32.not_lt, c1, c2]; done) | (unfold kKnow; rw [if_pos (by assumption), if_pos (by assumption), if_neg (by omega)])
      refine li_topi (show nI 0 = vHears n pl nw ns σ (nI jp0) p1 from by unfold vHears; rw [hk9]; first | rfl | (rw [ifk_0 rfl, nN_nI (show jp0 < 2 ^ 31 by omega), nN_nI (show jp1 < 2 ^ 31 by omega)]; first | exact (heV_0 (le0_n (by assumption))).symm | exact (heV_1 (le0_z hI.2.2.2.2.2.2.1 (by assumption)) (by assumption)).symm | exact absurd (by assumption) (show ¬ (meN n pl nw ns k (σ, η)).1 16 (6 * jp0 + jp1) = 0 by assumption) | exact (heV_s hst hn0 (by omega) hh (by rw [← trj_me hn0 hI hL k]; assumption)).symm | exact (heV_n hst hn0 (by rw [show 151 = k + 1 by omega]; exact fnd_n hh (by unfold heS; rw [← trj_me hn0 hI hL k]; exact decide_eq_false (fun z => z (by assumption))))).symm)) ?_
      have hw9 : (nI 1) = nI (kKnow nw ns (nI jp0) p1) := by rw [hk9]
      have hP : va_P D vwCl (wM cI cZ a (nI (kKnow nw ns (nI jp0) p1)) n nw ns σ η) G := Eq.mp (congrArg (fun z9 => va_P D vwCl (wM cI cZ a z9 n nw ns σ η) G) hw9) hP
      clear hw9
      exact hEnd 26 ls G locs _ _ η (Nat.zero_le _) (Nat.zero_le _) dX3_hears_26 (hL) hP hS
set_option maxHeartbeats 4000000 in
set_option maxRecDepth 100000 in
theorem c_X3_advise (l : Launch) (D : va_G) (cI cZ cL cO : ClassId) (a : Nat → Nat) (th : Int32) (n nw ns : Nat) (σ η : Sg) (H : Heap) (p0 : Int32) (p1 : Int32) (A : Nat → Prop) (hA : okP A a 13) (hB : n ≤ 10 ∧ nw ≤ 20 ∧ ns ≤ 6) (pl : Nat) (t : Nat) (hI : INV n pl nw ns t σ) (hL : LZ nw ns η) (ht : t < 2 ^ 30) : Met l yX3_advise wsX3_advise ({ frames := 6, cells := 17, slots := 393, locals := 135 } : Room) (ro_P D (T4 cI cZ cL cO) (wM cI cZ a th n nw ns σ η) H [.ref (a 0), .int p0, .int p1]) (me_Q D (vAdv n pl nw ns σ p0 p1) cI cZ a (nI (kAdv n p0 p1)) n nw ns σ (AN A H)) 17 393 (AN A H) := by
  refine me_of (cc := cX3_advise) (maxL := 8) (by decide) rfl (Nat.le_of_ble_eq_true rfl) rfl ?_
  intro p e s m args below meth c Q ls locs hx hb hml hown hts hK hE hP hl hS hEnd
  replace hA := hA.AN (H := H)
  have hl : lv_has ls 8 [(0, .ref (a 0)), (1, .int p0), (2, .int p1)] := hl
  have hX3 : ∀ w ∈ wsX30, w.before args s = true := fun w h => hts w (List.mem_cons_of_mem _ (List.mem_append_right _ (h)))
  have f47 : (Cond.fieldLink RX3 47 "LanternWalkModel" "thrown" "I").before args s = true := hts _ (List.mem_of_getElem? (i := 1) rfl)
  have f51 : (Cond.fieldLink RX3 51 "LanternWalkModel" "stretches" "I").before args s = true := hts _ (List.mem_of_getElem? (i := 2) rfl)
  have f13 : (Cond.fieldLink RX3 13 "LanternWalkModel" "stewards" "[I").before args s = true := hts _ (List.mem_of_getElem? (i := 3) rfl)
  refine lv_aload_n hx hb dX3_advise_0 rfl (lv_at hl 0 rfl) ?_
  refine lv_iconst (v := nI 0) hx hb dX3_advise_1 rfl ?_
  refine li_pf3 hx hb hX3 hown hK hP hA.DM hS 0 rfl 0 (by decide) f47 rfl rfl rfl (Nat.le_of_ble_eq_true rfl) stM_th dX3_advise_2 (fun G locs hP hS => ?_)
  refine lv_iload_n hx hb dX3_advise_5 rfl (lv_at hl 1 rfl) ?_
  refine lv_iconst (v := nI 0) hx hb dX3_advise_6 rfl ?_
  refine lv_iconst (v := nI 1) hx hb dX3_advise_7 rfl ?_
  refine roS (As := [.int p0, .int (nI 0), .int (nI 1)]) hx hb hml hown hts (c_X3_isI l D cI cZ cL cO G p0 (nI 0) (nI 1)) (va_cwS 3 hts gX3_advise_X3_isIn rfl rfl rfl (by decide +kernel) ⟨by decide, by decide⟩) hK hE (hP.sub (ws' := []) [] rfl) rfl hl.1 rfl (Nat.le_of_ble_eq_true rfl) hS dX3_advise_8 ⟨by show _ ≤ 17; omega, by show _ ≤ 393; omega⟩ (fun locs hS => ?_)
  refine li_zne (tgt := 20) hx hb dX3_advise_11 (by decide) (fun c1 => ?_) (fun c1 => ?_)
  · skip
    obtain ⟨jp0, hljp0, hhjp0, rfl⟩ := isI_nat (lo := 0) (hi := 1) (by omega) (by omega) c1
    refine lv_iload_n hx hb dX3_advise_20 rfl (lv_at hl 2 rfl) ?_
    refine lv_iconst (v := nI 1) hx hb dX3_advise_21 rfl ?_
    refine lv_bipush (v := nI 100) hx hb dX3_advise_22 rfl ?_
    refine roS (As := [.int p1, .int (nI 1), .int (nI 100)]) hx hb hml hown hts (c_X3_isI l D cI cZ cL cO G p1 (nI 1) (nI 100)) (va_cwS 3 hts gX3_advise_X3_isIn rfl rfl rfl (by decide +kernel) ⟨by decide, by decide⟩) hK hE (hP.sub (ws' := []) [] rfl) rfl hl.1 rfl (Nat.le_of_ble_eq_true rfl) hS dX3_advise_24 ⟨by show _ ≤ 17; omega, by show _ ≤ 393; omega⟩ (fun locs hS => ?_)
    refine li_zne (tgt := 36) hx hb dX3_advise_27 (by decide) (fun c2 => ?_) (fun c2 => ?_)
    · skip
      obtain ⟨jp1, hljp1, hhjp1, rfl⟩ := isI_nat (lo := 1) (hi := 100) (by omega) (by omega) c2
      refine lv_aload_n hx hb dX3_advise_36 rfl (lv_at hl 0 rfl) ?_
      refine li_gf3 hx hb hX3 hown hK hP 0 rfl 1 (by decide) f51 rfl dX3_advise_37 ?_
      refine li_ne0 (tgt := 49) hx hb dX3_advise_40 (by decide) (by omega) (fun c3 => ?_) (fun c3 => ?_)
      · skip
        have hn0 : 0 < n := by omega
        refine lv_aload_n hx hb dX3_advise_49 rfl (lv_at hl 0 rfl) ?_
        refine krzV (As := []) (q0 := 0) (ci := 3) hx hb hml hown hts (c_X3_kept l D cI cZ cL cO a (nI 0) n nw ns σ η G (AN A H) hA) (cwV 0 hts gX3_advise_X3_kept rfl rfl rfl (by decide +kernel) ⟨by decide, by decide⟩) hK hE hP rfl rfl rfl rfl hl.1 rfl (Nat.le_of_ble_eq_true rfl) hS (AN_AN hS.1) dX3_advise_50 ⟨Nat.le_of_ble_eq_true rfl, Nat.le_of_ble_eq_true rfl⟩ (fun b9 G locs hkB hB9 hP _ hS => ?_)
        refine w_wide (k := 6) (n := 338) (by decide) (Nat.le_of_ble_eq_true rfl) ?_
        have hl : lv_has ls 8 [(0, .ref (b9 0)), (1, .int (nI jp0)), (2, .int (nI jp1))] := lv_reg hl (i := 0) rfl (congrArg Value.ref (hkB 0 (by decide)).symm)
        refine lv_astore_n (lv' := [(3, .ref (b9 13)), (0, .ref (b9 0)), (1, .int (nI jp0)), (2, .int (nI jp1))]) hx hb dX3_advise_53 rfl hl (by decide) rfl (fun ls hl => ?_)
        refine lv_iconst (v := (-1)) hx hb dX3_advise_54 rfl ?_
        refine lv_istore (lv' := [(4, .int (-1)), (3, .ref (b9 13)), (0, .ref (b9 0)), (1, .int (nI jp0)), (2, .int (nI jp1))]) hx hb dX3_advise_55 hl (by decide) rfl (fun ls hl => ?_)
        refine lv_iconst (v := (-1)) hx hb dX3_advise_57 rfl ?_
        refine lv_istore (lv' := [(5, .int (-1)), (4, .int (-1)), (3, .ref (b9 13)), (0, .ref (b9 0)), (1, .int (nI jp0)), (2, .int (nI jp1))]) hx hb dX3_advise_58 hl (by decide) rfl (fun ls hl => ?_)
        refine lv_iconst (v := (-1)) hx hb dX3_advise_60 rfl ?_
        refine lv_istore (lv' := [(6, .int (-1)), (5, .int (-1)), (4, .int (-1)), (3, .ref (b9 13)), (0, .ref (b9 0)), (1, .int (nI jp0)), (2, .int (nI jp1))]) hx hb dX3_advise_61 hl (by decide) rfl (fun ls hl => ?_)
        have L63_4 : ∀ (fuel : Nat) (k : Nat) (e9 : Sg), (n + 1 - k) < fuel → (k ≤ n + 1) → (LZ nw ns e9) → ∀ (G : Heap) (locs : List Loc), va_P D vwCl (wMK cI cZ cO b9 (nI 0) n nw ns σ σ e9) G → va_S (AN A H) H G locs → ∀ (ls : Array Slot), lv_has ls 8 [(6, .int (sI k)), (5, .int ((adv n pl nw ns σ jp0 jp1 k).2)), (4, .int ((adv n pl nw ns σ jp0 jp1 k).1)), (3, .ref (b9 13)), (0, .ref (b9 0)), (1, .int (nI jp0)), (2, .int (nI jp1))] → W p l e ({ frames := 6, cells := 17, slots := 393, locals := 135 } : Room) s m args below meth c G locs (6 + k) (338 + 5 * k) Q (F0 m 63 ls []) := by
          intro fuel
          induction fuel with
          | zero =>
            intro k e9 hfuel
            exact absurd hfuel (Nat.not_lt_zero _)
          | succ fuel ih63 =>
            intro k e9 hfuel63 hk hLe G locs hP hS ls hl
            refine lv_iload hx hb dX3_advise_63 (lv_at hl 0 rfl) ?_
            refine lv_aload_n hx hb dX3_advise_65 rfl (lv_at hl 4 rfl) ?_
            refine li_gf3 hx hb hX3 hown hK hP 0 rfl 1 (by decide) f51 rfl dX3_advise_66 ?_
            refine lv_icmp_ge (tgt := 136) hx hb dX3_advise_69 (by decide) (fun c5 => ?_) (fun c5 => ?_)
            · skip
              have hkn : k = n + 1 := by have := sI_ge (by omega) (by omega) c5; omega
              refine lv_iload hx hb dX3_advise_136 (lv_at hl 2 rfl) ?_
              have hk9 : kAdv n (nI jp0) (nI jp1) = 0 := by first | (simp [kAdv, noneOr, Int32.not_lt, c1, c2, c3, c5]; done) | (unfold kAdv; rw [if_pos (by assumption), if_pos (by assumption), if_neg (by omega)])
              refine li_topi (show (adv n pl nw ns σ jp0 jp1 k).1 = vAdv n pl nw ns σ (nI jp0) (nI jp1) from by unfold vAdv; rw [hk9]; first | rfl | (rw [ifk_0 rfl, nN_nI (show jp0 < 2 ^ 31 by omega), nN_nI (show jp1 < 2 ^ 31 by omega), hkn])) ?_
              have hw9 : nI 0 = nI (kAdv n (nI jp0) (nI jp1)) := by rw [hk9]
              have hP : va_P D vwCl (wMK cI cZ cO b9 (nI (kAdv n (nI jp0) (nI jp1))) n nw ns σ σ e9) G := Eq.mp (congrArg (fun z9 => va_P D vwCl (wMK cI cZ cO b9 z9 n nw ns σ σ e9) G) hw9) hP
              clear hw9
              replace hP : va_P D vwCl (wM cI cZ a (nI (kAdv n (nI jp0) (nI jp1))) n nw ns σ e9) G := by rw [← wM_kB hkB]; exact hP.sub i13 rfl
              exact hEnd 138 ls G locs _ _ e9 (by omega) (by omega) dX3_advise_138 (hLe) hP hS
            · skip
              have hkn : k ≤ n := sI_lt (by omega) (by omega) c5
              refine lv_aload_n hx hb dX3_advise_72 rfl (lv_at hl 4 rfl) ?_
              refine li_gf3 hx hb hX3 hown hK hP 0 rfl 3 (by decide) f13 rfl dX3_advise_73 ?_
              refine lv_iload_n hx hb dX3_advise_76 rfl (lv_at hl 5 rfl) ?_
              refine lv_iload hx hb dX3_advise_77 (lv_at hl 0 rfl) ?_
              refine li_ist hx hb hK hP hB9.DK hS 2 0 rfl rfl (by omega) (by decide) stK_7 dX3_advise_79 (fun G locs hP hS => ?_)
              refine lv_iconst (v := nI 0) hx hb dX3_advise_80 rfl ?_
              refine lv_istore (lv' := [(7, .int (nI 0)), (6, .int (sI k)), (5, .int ((adv n pl nw ns σ jp0 jp1 k).2)), (4, .int ((adv n pl nw ns σ jp0 jp1 k).1)), (3, .ref (b9 13)), (0, .ref (b9 0)), (1, .int (nI jp0)), (2, .int (nI jp1))]) hx hb dX3_advise_81 hl (by decide) rfl (fun ls hl => ?_)
              have L83_6 : ∀ (fuel : Nat) (j : Nat), (jp1 - j) < fuel → (j ≤ jp1) → ∀ (G : Heap) (locs : List Loc), va_P D vwCl (wMK cI cZ cO b9 (nI 0) n nw ns ((meN n pl nw ns j (up2 σ 7 jp0 (sI k), e9)).1) σ ((meN n pl nw ns j (up2 σ 7 jp0 (sI k), e9)).2)) G → va_S (AN A H) H G locs → ∀ (ls : Array Slot), lv_has ls 8 [(7, .int (nI j)), (6, .int (sI k)), (5, .int ((adv n pl nw ns σ jp0 jp1 k).2)), (4, .int ((adv n pl nw ns σ jp0 jp1 k).1)), (3, .ref (b9 13)), (0, .ref (b9 0)), (1, .int (nI jp0)), (2, .int (nI jp1))] → W p l e ({ frames := 6, cells := 17, slots := 393, locals := 135 } : Room) s m args below meth c G locs (6 + k) (338 + 5 * k) Q (F0 m 83 ls []) := by
                intro fuel
                induction fuel with
                | zero =>
                  intro j hfuel
                  exact absurd hfuel (Nat.not_lt_zero _)
                | succ fuel ih83 =>
                  intro j hfuel83 hj G locs hP hS ls hl
                  have hIk := (meN_inv (x := (up2 σ 7 jp0 (sI k), e9)) e9 hn0 (INV_7 hI _ _) hLe j).1
                  have hLk := (meN_inv (x := (up2 σ 7 jp0 (sI k), e9)) e9 hn0 (INV_7 hI _ _) hLe j).2.1
                  refine lv_iload hx hb dX3_advise_83 (lv_at hl 0 rfl) ?_
                  refine lv_iload_n hx hb dX3_advise_85 rfl (lv_at hl 7 rfl) ?_
                  refine li_ge (tgt := 100) hx hb dX3_advise_86 (by decide) (by omega) (by omega) (fun c7 => ?_) (fun c7 => ?_)
                  · skip
                    refine lv_aload_n hx hb dX3_advise_100 rfl (lv_at hl 5 rfl) ?_
                    refine lv_iconst (v := nI 2) hx hb dX3_advise_101 rfl ?_
                    refine roV (As := [.int (nI 2)]) (q0 := 0) (ci := 3) hx hb hml hown hts (c_X3_inState l D cI cZ cL cO b9 (nI 0) n nw ns ((meN n pl nw ns j (up2 σ 7 jp0 (sI k), e9)).1) ((meN n pl nw ns j (up2 σ 7 jp0 (sI k), e9)).2) G (nI 2) (hB)) (cwV 1 hts gX3_advise_X3_inState rfl rfl rfl (by decide +kernel) ⟨by decide, by decide⟩) hK hE (hP.sub (ws' := wM cI cZ b9 (nI 0) n nw ns ((meN n pl nw ns j (up2 σ 7 jp0 (sI k), e9)).1) ((meN n pl nw ns j (up2 σ 7 jp0 (sI k), e9)).2)) i13 rfl) rfl rfl rfl rfl hl.1 rfl (Nat.le_of_ble_eq_true rfl) hS dX3_advise_102 ⟨by show _ ≤ 17; omega, by show _ ≤ 393; omega⟩ (fun locs hS => ?_)
                    refine li_topi (show nI (hm ((meN n pl nw ns j (up2 σ 7 jp0 (sI k), e9)).1) nw (nI 2)) = adI n pl nw ns σ jp0 jp1 k from by unfold adI; rw [← trj_me hn0 (INV_7 hI _ _) hLe jp1, show j = jp1 by omega]) ?_
                    refine lv_istore (lv' := [(7, .int (adI n pl nw ns σ jp0 jp1 k)), (6, .int (sI k)), (5, .int ((adv n pl nw ns σ jp0 jp1 k).2)), (4, .int ((adv n pl nw ns σ jp0 jp1 k).1)), (3, .ref (b9 13)), (0, .ref (b9 0)), (1, .int (nI jp0)), (2, .int (nI jp1))]) hx hb dX3_advise_105 hl (by decide) rfl (fun ls hl => ?_)
                    refine lv_aload_n hx hb dX3_advise_107 rfl (lv_at hl 5 rfl) ?_
                    refine lv_aload_n hx hb dX3_advise_108 rfl (lv_at hl 4 rfl) ?_
                    refine muzV (As := [.ref (b9 13)]) (q0 := 0) (ci := 3) hx hb hml hown hts (c_X3_bringBack l D cI cZ cL cO b9 (nI 0) n nw ns ((meN n pl nw ns j (up2 σ 7 jp0 (sI k), e9)).1) σ ((meN n pl nw ns j (up2 σ 7 jp0 (sI k), e9)).2) G (AN A H) hB9 ((meN_row hn0 (INV_7 hI _ _) hLe (by decide) _).trans (up2_row _ _ _ _ (by decide))) ((meN_row hn0 (INV_7 hI _ _) hLe (by decide) _).trans (up2_row _ _ _ _ (by decide)))) (cwV 1 hts gX3_advise_X3_bringBack rfl rfl rfl (by decide +kernel) ⟨by decide, by decide⟩) hK hE hP rfl rfl rfl rfl hl.1 rfl (Nat.le_of_ble_eq_true rfl) hS (AN_AN hS.1) dX3_advise_109 ⟨by show _ ≤ 17; omega, by show _ ≤ 393; omega⟩ (fun G locs hP _ _ hS => ?_)
                    refine lv_iload hx hb dX3_advise_112 (lv_at hl 0 rfl) ?_
                    refine lv_iload hx hb dX3_advise_114 (lv_at hl 2 rfl) ?_
                    refine lv_icmp_gt (tgt := 122) hx hb dX3_advise_116 (by decide) (fun c8 => ?_) (fun c8 => ?_)
                    · skip
                      have hav := c8
                      refine lv_iload hx hb dX3_advise_122 (lv_at hl 1 rfl) ?_
                      refine lv_istore (lv' := [(4, .int (sI k)), (7, .int (adI n pl nw ns σ jp0 jp1 k)), (6, .int (sI k)), (5, .int ((adv n pl nw ns σ jp0 jp1 k).2)), (3, .ref (b9 13)), (0, .ref (b9 0)), (1, .int (nI jp0)), (2, .int (nI jp1))]) hx hb dX3_advise_124 hl (by decide) rfl (fun ls hl => ?_)
                      refine lv_iload hx hb dX3_advise_126 (lv_at hl 1 rfl) ?_
                      refine lv_istore (lv' := [(5, .int (adI n pl nw ns σ jp0 jp1 k)), (4, .int (sI k)), (7, .int (adI n pl nw ns σ jp0 jp1 k)), (6, .int (sI k)), (3, .ref (b9 13)), (0, .ref (b9 0)), (1, .int (nI jp0)), (2, .int (nI jp1))]) hx hb dX3_advise_128 hl (by decide) rfl (fun ls hl => ?_)
                      refine lv_iinc (v := (sI k) + 1) (lv' := [(6, .int ((sI k) + 1)), (5, .int (adI n pl nw ns σ jp0 jp1 k)), (4, .int (sI k)), (7, .int (adI n pl nw ns σ jp0 jp1 k)), (3, .ref (b9 13)), (0, .ref (b9 0)), (1, .int (nI jp0)), (2, .int (nI jp1))]) hx hb dX3_advise_130 hl (k := 3) rfl (rfl) (by decide) rfl (fun ls hl => ?_)
                      refine lv_goto (tgt := 63) hx hb dX3_advise_133 (by decide) ?_
                      have hw9 : (meN n pl nw ns j (up2 σ 7 jp0 (sI k), e9)).2 = ((meN n pl nw ns j (up2 σ 7 jp0 (sI k), e9)).2) := by simp [c1, c2, c3, c5, c7, c8]
                      have hP : va_P D vwCl (wMK cI cZ cO b9 (nI 0) n nw ns σ σ ((meN n pl nw ns j (up2 σ 7 jp0 (sI k), e9)).2)) G := Eq.mp (congrArg (fun z9 => va_P D vwCl (wMK cI cZ cO b9 (nI 0) n nw ns σ σ z9) G) hw9) hP
                      clear hw9
                      have hl9 : lv_has ls 8 [(6, .int ((sI k) + 1)), (5, .int (adI n pl nw ns σ jp0 jp1 k)), (4, .int (sI k)), (3, .ref (b9 13)), (0, .ref (b9 0)), (1, .int (nI jp0)), (2, .int (nI jp1))] := lv_sub hl [0, 1, 2, 4, 5, 6, 7] rfl
                      have hl9 : lv_has ls 8 [(6, .int (sI (k + 1))), (5, .int (adI n pl nw ns σ jp0 jp1 k)), (4, .int (sI k)), (3, .ref (b9 13)), (0, .ref (b9 0)), (1, .int (nI jp0)), (2, .int (nI jp1))] := lv_re hl9 0 rfl (show (sI k) + 1 = sI (k + 1) from by exact sI_s k)
                      have hl9 : lv_has ls 8 [(6, .int (sI (k + 1))), (5, .int ((adv n pl nw ns σ jp0 jp1 (k + 1)).2)), (4, .int (sI k)), (3, .ref (b9 13)), (0, .ref (b9 0)), (1, .int (nI jp0)), (2, .int (nI jp1))] := lv_re hl9 1 rfl (show adI n pl nw ns σ jp0 jp1 k = (adv n pl nw ns σ jp0 jp1 (k + 1)).2 from by first | rw [adv_a hav] | rw [adv_b hav])
                      have hl9 : lv_has ls 8 [(6, .int (sI (k + 1))), (5, .int ((adv n pl nw ns σ jp0 jp1 (k + 1)).2)), (4, .int ((adv n pl nw ns σ jp0 jp1 (k + 1)).1)), (3, .ref (b9 13)), (0, .ref (b9 0)), (1, .int (nI jp0)), (2, .int (nI jp1))] := lv_re hl9 2 rfl (show sI k = (adv n pl nw ns σ jp0 jp1 (k + 1)).1 from by first | rw [adv_a hav] | rw [adv_b hav])
                      refine w_wide (k := 6 + (k + 1)) (n := 338 + 5 * (k + 1)) (by omega) (by omega) ?_
                      exact ih63 (k + 1) ((meN n pl nw ns j (up2 σ 7 jp0 (sI k), e9)).2) (by omega) (by omega) ((meN_inv (x := (up2 σ 7 jp0 (sI k), e9)) e9 hn0 (INV_7 hI _ _) hLe j).2.1) G locs hP hS ls hl9
                    · skip
                      have hav := c8
                      refine lv_goto (tgt := 130) hx hb dX3_advise_119 (by decide) ?_
                      refine lv_iinc (v := (sI k) + 1) (lv' := [(6, .int ((sI k) + 1)), (7, .int (adI n pl nw ns σ jp0 jp1 k)), (5, .int ((adv n pl nw ns σ jp0 jp1 k).2)), (4, .int ((adv n pl nw ns σ jp0 jp1 k).1)), (3, .ref (b9 13)), (0, .ref (b9 0)), (1, .int (nI jp0)), (2, .int (nI jp1))]) hx hb dX3_advise_130 hl (k := 1) rfl (rfl) (by decide) rfl (fun ls hl => ?_)
                      refine lv_goto (tgt := 63) hx hb dX3_advise_133 (by decide) ?_
                      have hw9 : (meN n pl nw ns j (up2 σ 7 jp0 (sI k), e9)).2 = ((meN n pl nw ns j (up2 σ 7 jp0 (sI k), e9)).2) := by simp [c1, c2, c3, c5, c7, c8]
                      have hP : va_P D vwCl (wMK cI cZ cO b9 (nI 0) n nw ns σ σ ((meN n pl nw ns j (up2 σ 7 jp0 (sI k), e9)).2)) G := Eq.mp (congrArg (fun z9 => va_P D vwCl (wMK cI cZ cO b9 (nI 0) n nw ns σ σ z9) G) hw9) hP
                      clear hw9
                      have hl9 : lv_has ls 8 [(6, .int ((sI k) + 1)), (5, .int ((adv n pl nw ns σ jp0 jp1 k).2)), (4, .int ((adv n pl nw ns σ jp0 jp1 k).1)), (3, .ref (b9 13)), (0, .ref (b9 0)), (1, .int (nI jp0)), (2, .int (nI jp1))] := lv_sub hl [0, 2, 3, 4, 5, 6, 7] rfl
                      have hl9 : lv_has ls 8 [(6, .int (sI (k + 1))), (5, .int ((adv n pl nw ns σ jp0 jp1 k).2)), (4, .int ((adv n pl nw ns σ jp0 jp1 k).1)), (3, .ref (b9 13)), (0, .ref (b9 0)), (1, .int (nI jp0)), (2, .int (nI jp1))] := lv_re hl9 0 rfl (show (sI k) + 1 = sI (k + 1) from by exact sI_s k)
                      have hl9 : lv_has ls 8 [(6, .int (sI (k + 1))), (5, .int ((adv n pl nw ns σ jp0 jp1 (k + 1)).2)), (4, .int ((adv n pl nw ns σ jp0 jp1 k).1)), (3, .ref (b9 13)), (0, .ref (b9 0)), (1, .int (nI jp0)), (2, .int (nI jp1))] := lv_re hl9 1 rfl (show (adv n pl nw ns σ jp0 jp1 k).2 = (adv n pl nw ns σ jp0 jp1 (k + 1)).2 from by first | rw [adv_a hav] | rw [adv_b hav])
                      have hl9 : lv_has ls 8 [(6, .int (sI (k + 1))), (5, .int ((adv n pl nw ns σ jp0 jp1 (k + 1)).2)), (4, .int ((adv n pl nw ns σ jp0 jp1 (k + 1)).1)), (3, .ref (b9 13)), (0, .ref (b9 0)), (1, .int (nI jp0)), (2, .int (nI jp1))] := lv_re hl9 2 rfl (show (adv n pl nw ns σ jp0 jp1 k).1 = (adv n pl nw ns σ jp0 jp1 (k + 1)).1 from by first | rw [adv_a hav] | rw [adv_b hav])
                      refine w_wide (k := 6 + (k + 1)) (n := 338 + 5 * (k + 1)) (by omega) (by omega) ?_
                      exact ih63 (k + 1) ((meN n pl nw ns j (up2 σ 7 jp0 (sI k), e9)).2) (by omega) (by omega) ((meN_inv (x := (up2 σ 7 jp0 (sI k), e9)) e9 hn0 (INV_7 hI _ _) hLe j).2.1) G locs hP hS ls hl9
                  · skip
                    refine lv_aload_n hx hb dX3_advise_89 rfl (lv_at hl 5 rfl) ?_
                    refine miV (As := []) (q0 := 0) (ci := 3) hx hb hml hown hts (c_X3_stepOn l D cI cZ cL cO b9 (nI 0) n nw ns ((meN n pl nw ns j (up2 σ 7 jp0 (sI k), e9)).1) ((meN n pl nw ns j (up2 σ 7 jp0 (sI k), e9)).2) G (A_ b9 13) (hB9.A_ (by decide)) (hB) (pl) (t + j) (hIk.1.2.1) (hIk.2.1) (by omega) (hIk.2.2.1) (hIk.2.2.2.1) (hIk.2.2.2.2.1) (L1_LT hIk.2.2.2.2.2.1)) (cwV 0 hts gX3_advise_X3_stepOn rfl rfl rfl (by decide +kernel) ⟨by decide, by decide⟩) hK hE (hP.sub (ws' := wM cI cZ b9 (nI 0) n nw ns ((meN n pl nw ns j (up2 σ 7 jp0 (sI k), e9)).1) ((meN n pl nw ns j (up2 σ 7 jp0 (sI k), e9)).2)) i13 rfl) rfl rfl rfl rfl hl.1 rfl (Nat.le_of_ble_eq_true rfl) hS (ak_of (hB9.M (by decide))) dX3_advise_90 ⟨by show _ ≤ 17; omega, by show _ ≤ 393; omega⟩ (fun G locs hP1 _ hk1 hS => ?_)
                    replace hP := mK_join hB9 hP hP1 hk1
                    refine lv_pop hx hb dX3_advise_93 rfl ?_
                    refine lv_iinc (v := nI (j + 1)) (lv' := [(7, .int (nI (j + 1))), (6, .int (sI k)), (5, .int ((adv n pl nw ns σ jp0 jp1 k).2)), (4, .int ((adv n pl nw ns σ jp0 jp1 k).1)), (3, .ref (b9 13)), (0, .ref (b9 0)), (1, .int (nI jp0)), (2, .int (nI jp1))]) hx hb dX3_advise_94 hl (k := 0) rfl (nI_inc _ _) (by decide) rfl (fun ls hl => ?_)
                    refine lv_goto (tgt := 83) hx hb dX3_advise_97 (by decide) ?_
                    have hw9 : ms5 n pl nw ns ((meN n pl nw ns j (up2 σ 7 jp0 (sI k), e9)).1) ((meN n pl nw ns j (up2 σ 7 jp0 (sI k), e9)).2) = (meN n pl nw ns (j + 1) (up2 σ 7 jp0 (sI k), e9)).1 := rfl
                    have hP : va_P D vwCl (wMK cI cZ cO b9 (nI 0) n nw ns ((meN n pl nw ns (j + 1) (up2 σ 7 jp0 (sI k), e9)).1) σ (me5 n pl nw ns ((meN n pl nw ns j (up2 σ 7 jp0 (sI k), e9)).1) ((meN n pl nw ns j (up2 σ 7 jp0 (sI k), e9)).2))) G := Eq.mp (congrArg (fun z9 => va_P D vwCl (wMK cI cZ cO b9 (nI 0) n nw ns z9 σ (me5 n pl nw ns ((meN n pl nw ns j (up2 σ 7 jp0 (sI k), e9)).1) ((meN n pl nw ns j (up2 σ 7 jp0 (sI k), e9)).2))) G) hw9) hP
                    clear hw9
                    have hw9 : me5 n pl nw ns ((meN n pl nw ns j (up2 σ 7 jp0 (sI k), e9)).1) ((meN n pl nw ns j (up2 σ 7 jp0 (sI k), e9)).2) = (meN n pl nw ns (j + 1) (up2 σ 7 jp0 (sI k), e9)).2 := rfl
                    have hP : va_P D vwCl (wMK cI cZ cO b9 (nI 0) n nw ns ((meN n pl nw ns (j + 1) (up2 σ 7 jp0 (sI k), e9)).1) σ ((meN n pl nw ns (j + 1) (up2 σ 7 jp0 (sI k), e9)).2)) G := Eq.mp (congrArg (fun z9 => va_P D vwCl (wMK cI cZ cO b9 (nI 0) n nw ns ((meN n pl nw ns (j + 1) (up2 σ 7 jp0 (sI k), e9)).1) σ z9) G) hw9) hP
                    clear hw9
                    have hl9 : lv_has ls 8 [(7, .int (nI (j + 1))), (6, .int (sI k)), (5, .int ((adv n pl nw ns σ jp0 jp1 k).2)), (4, .int ((adv n pl nw ns σ jp0 jp1 k).1)), (3, .ref (b9 13)), (0, .ref (b9 0)), (1, .int (nI jp0)), (2, .int (nI jp1))] := lv_sub hl [0, 1, 2, 3, 4, 5, 6, 7] rfl
                    exact ih83 (j + 1) (by omega) (by omega) G locs hP hS ls hl9
              have hw9 : up2 σ 7 jp0 (sI k) = (meN n pl nw ns 0 (up2 σ 7 jp0 (sI k), e9)).1 := rfl
              have hP : va_P D vwCl (wMK cI cZ cO b9 (nI 0) n nw ns ((meN n pl nw ns 0 (up2 σ 7 jp0 (sI k), e9)).1) σ e9) G := Eq.mp (congrArg (fun z9 => va_P D vwCl (wMK cI cZ cO b9 (nI 0) n nw ns z9 σ e9) G) hw9) hP
              clear hw9
              have hw9 : e9 = (meN n pl nw ns 0 (up2 σ 7 jp0 (sI k), e9)).2 := rfl
              have hP : va_P D vwCl (wMK cI cZ cO b9 (nI 0) n nw ns ((meN n pl nw ns 0 (up2 σ 7 jp0 (sI k), e9)).1) σ ((meN n pl nw ns 0 (up2 σ 7 jp0 (sI k), e9)).2)) G := Eq.mp (congrArg (fun z9 => va_P D vwCl (wMK cI cZ cO b9 (nI 0) n nw ns ((meN n pl nw ns 0 (up2 σ 7 jp0 (sI k), e9)).1) σ z9) G) hw9) hP
              clear hw9
              have hl9 : lv_has ls 8 [(7, .int (nI 0)), (6, .int (sI k)), (5, .int ((adv n pl nw ns σ jp0 jp1 k).2)), (4, .int ((adv n pl nw ns σ jp0 jp1 k).1)), (3, .ref (b9 13)), (0, .ref (b9 0)), (1, .int (nI jp0)), (2, .int (nI jp1))] := lv_sub hl [0, 1, 2, 3, 4, 5, 6, 7] rfl
              exact L83_6 ((jp1 - 0) + 1) 0 (Nat.lt_succ_self _) (by omega) G locs hP hS ls hl9
        have hl9 : lv_has ls 8 [(6, .int (-1)), (5, .int (-1)), (4, .int (-1)), (3, .ref (b9 13)), (0, .ref (b9 0)), (1, .int (nI jp0)), (2, .int (nI jp1))] := lv_sub hl [0, 1, 2, 3, 4, 5, 6] rfl
        have hl9 : lv_has ls 8 [(6, .int (sI 0)), (5, .int (-1)), (4, .int (-1)), (3, .ref (b9 13)), (0, .ref (b9 0)), (1, .int (nI jp0)), (2, .int (nI jp1))] := lv_re hl9 0 rfl (show (-1) = sI 0 from rfl)
        have hl9 : lv_has ls 8 [(6, .int (sI 0)), (5, .int ((adv n pl nw ns σ jp0 jp1 0).2)), (4, .int (-1)), (3, .ref (b9 13)), (0, .ref (b9 0)), (1, .int (nI jp0)), (2, .int (nI jp1))] := lv_re hl9 1 rfl (show (-1) = (adv n pl nw ns σ jp0 jp1 0).2 from rfl)
        have hl9 : lv_has ls 8 [(6, .int (sI 0)), (5, .int ((adv n pl nw ns σ jp0 jp1 0).2)), (4, .int ((adv n pl nw ns σ jp0 jp1 0).1)), (3, .ref (b9 13)), (0, .ref (b9 0)), (1, .int (nI jp0)), (2, .int (nI jp1))] := lv_re hl9 2 rfl (show (-1) = (adv n pl nw ns σ jp0 jp1 0).1 from rfl)
        refine w_wide (k := 6 + 0) (n := 338 + 5 * 0) (by omega) (by omega) ?_
        exact L63_4 ((n + 1 - 0) + 1) 0 η (Nat.lt_succ_self _) (by omega) (hL) G locs hP hS ls hl9
      · skip
        refine lv_aload_n hx hb dX3_advise_43 rfl (lv_at hl 0 rfl) ?_
        refine lv_iconst (v := nI 3) hx hb dX3_advise_44 rfl ?_
        refine miV (As := [.int (nI 3)]) (q0 := 0) (ci := 3) hx hb hml hown hts (c_X3_fail l D cI cZ cL cO a (nI 0) n nw ns σ η G (nI 3) (AN A H) hA (hB)) (cwV 1 hts gX3_advise_X3_fail rfl rfl rfl (by decide +kernel) ⟨by decide, by decide⟩) hK hE hP rfl rfl rfl rfl hl.1 rfl (Nat.le_of_ble_eq_true rfl) hS (fun _ h => h) dX3_advise_45 ⟨by show _ ≤ 17; omega, by show _ ≤ 393; omega⟩ (fun G locs hP _ _ hS => ?_)
        have hk9 : kAdv n (nI jp0) (nI jp1) = 3 := by first | (simp [kAdv, noneOr, Int32.not_lt, c1, c2, c3]; done) | (unfold kAdv; rw [if_pos (by assumption), if_pos (by assumption), if_neg (by omega)])
        refine li_topi (show nI 0 = vAdv n pl nw ns σ (nI jp0) (nI jp1) from by unfold vAdv; rw [hk9]; first | rfl | (rw [ifk_0 rfl, nN_nI (show jp0 < 2 ^ 31 by omega), nN_nI (show jp1 < 2 ^ 31 by omega), hkn])) ?_
        have hw9 : (nI 3) = nI (kAdv n (nI jp0) (nI jp1)) := by rw [hk9]
        have hP : va_P D vwCl (wM cI cZ a (nI (kAdv n (nI jp0) (nI jp1))) n nw ns σ η) G := Eq.mp (congrArg (fun z9 => va_P D vwCl (wM cI cZ a z9 n nw ns σ η) G) hw9) hP
        clear hw9
        exact hEnd 48 ls G locs _ _ η (Nat.zero_le _) (Nat.zero_le _) dX3_advise_48 (hL) hP hS
    · skip
      refine lv_aload_n hx hb dX3_advise_30 rfl (lv_at hl 0 rfl) ?_
      refine lv_iconst (v := nI 2) hx hb dX3_advise_31 rfl ?_
      refine miV (As := [.int (nI 2)]) (q0 := 0) (ci := 3) hx hb hml hown hts (c_X3_fail l D cI cZ cL cO a (nI 0) n nw ns σ η G (nI 2) (AN A H) hA (hB)) (cwV 1 hts gX3_advise_X3_fail rfl rfl rfl (by decide +kernel) ⟨by decide, by decide⟩) hK hE hP rfl rfl rfl rfl hl.1 rfl (Nat.le_of_ble_eq_true rfl) hS (fun _ h => h) dX3_advise_32 ⟨by show _ ≤ 17; omega, by show _ ≤ 393; omega⟩ (fun G locs hP _ _ hS => ?_)
      have hk9 : kAdv n (nI jp0) p1 = 2 := by first | (simp [kAdv, noneOr, Int32.not_lt, c1, c2]; done) | (unfold kAdv; rw [if_pos (by assumption), if_pos (by assumption), if_neg (by omega)])
      refine li_topi (show nI 0 = vAdv n pl nw ns σ (nI jp0) p1 from by unfold vAdv; rw [hk9]; first | rfl | (rw [ifk_0 rfl, nN_nI (show jp0 < 2 ^ 31 by omega), nN_nI (show jp1 < 2 ^ 31 by omega), hkn])) ?_
      have hw9 : (nI 2) = nI (kAdv n (nI jp0) p1) := by rw [hk9]
      have hP : va_P D vwCl (wM cI cZ a (nI (kAdv n (nI jp0) p1)) n nw ns σ η) G := Eq.mp (congrArg (fun z9 => va_P D vwCl (wM cI cZ a z9 n nw ns σ η) G) hw9) hP
      clear hw9
      exact hEnd 35 ls G locs _ _ η (Nat.zero_le _) (Nat.zero_le _) dX3_advise_35 (hL) hP hS
  · skip
    refine lv_aload_n hx hb dX3_advise_14 rfl (lv_at hl 0 rfl) ?_
    refine lv_iconst (v := nI 1) hx hb dX3_advise_15 rfl ?_
    refine miV (As := [.int (nI 1)]) (q0 := 0) (ci := 3) hx hb hml hown hts (c_X3_fail l D cI cZ cL cO a (nI 0) n nw ns σ η G (nI 1) (AN A H) hA (hB)) (cwV 1 hts gX3_advise_X3_fail rfl rfl rfl (by decide +kernel) ⟨by decide, by decide⟩) hK hE hP rfl rfl rfl rfl hl.1 rfl (Nat.le_of_ble_eq_true rfl) hS (fun _ h => h) dX3_advise_16 ⟨by show _ ≤ 17; omega, by show _ ≤ 393; omega⟩ (fun G locs hP _ _ hS => ?_)
    have hk9 : kAdv n p0 p1 = 1 := by first | (simp [kAdv, noneOr, Int32.not_lt, c1]; done) | (unfold kAdv; rw [if_pos (by assumption), if_pos (by assumption), if_neg (by omega)])
    refine li_topi (show nI 0 = vAdv n pl nw ns σ p0 p1 from by unfold vAdv; rw [hk9]; first | rfl | (rw [ifk_0 rfl, nN_nI (show jp0 < 2 ^ 31 by omega), nN_nI (show jp1 < 2 ^ 31 by omega), hkn])) ?_
    have hw9 : (nI 1) = nI (kAdv n p0 p1) := by rw [hk9]
    have hP : va_P D vwCl (wM cI cZ a (nI (kAdv n p0 p1)) n nw ns σ η) G := Eq.mp (congrArg (fun z9 => va_P D vwCl (wM cI cZ a z9 n nw ns σ η) G) hw9) hP
    clear hw9
    exact hEnd 19 ls G locs _ _ η (Nat.zero_le _) (Nat.zero_le _) dX3_advise_19 (hL) hP hS
