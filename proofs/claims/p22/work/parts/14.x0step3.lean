/-! the parade: a step -/
set_option maxHeartbeats 4000000 in
set_option maxRecDepth 100000 in
theorem c_X0_walkOn (l : Launch) (D : va_G) (cI cZ cL cO : ClassId) (a : Nat → Nat) (n pl nw ns : Nat) (σ κ : Nat → Nat → Int32) (H : Heap) (w : Nat) (A : Nat → Prop) (hA : okP A a 24) (hB : n ≤ 10 ∧ pl ≤ 200 ∧ nw ≤ 20 ∧ ns ≤ 6) (hw : w < nw) (hpc : σ 4 w = nI (nN (σ 4 w)) ∧ 1 ≤ nN (σ 4 w) ∧ nN (σ 4 w) ≤ 3) : Met l yX0_walkOn wsX0_walkOn ({ frames := 2, cells := 0, slots := 0, locals := 46 } : Room) (ro_P D (T4 cI cZ cL cO) (wP cI cZ a n pl nw ns σ κ) H [.ref (a 0), .int (nI w)]) (mu_Q D (wP cI cZ a n pl nw ns ((wkF n pl nw w (σ, κ)).1) ((wkF n pl nw w (σ, κ)).2)) A) 0 0 A := by
  refine mu_of (cc := cX0_walkOn) (maxL := 5) (by decide) rfl (Nat.le_of_ble_eq_true rfl) ?_
  intro p e s m args below meth c Q ls locs hx hb hml hown hts hK hE hP hl hS hEnd
  have hl : lv_has ls 5 [(0, .ref (a 0)), (1, .int (nI w))] := hl
  have hX0 : ∀ w ∈ wsX00, w.before args s = true := fun w h => hts w (List.mem_cons_of_mem _ (List.mem_append_left _ (List.mem_append_right _ (h))))
  have hX1 : ∀ w ∈ wsX10, w.before args s = true := fun w h => hts w (List.mem_cons_of_mem _ (List.mem_append_right _ (h)))
  have f58 : (Cond.fieldLink RX0 58 "LanternWalk$Parade" "setting" "LLanternWalk$Setting;").before args s = true := hts _ (List.mem_of_getElem? (i := 1) rfl)
  have f190 : (Cond.fieldLink RX0 190 "LanternWalk$Setting" "pace" "[I").before args s = true := hts _ (List.mem_of_getElem? (i := 2) rfl)
  have f24 : (Cond.fieldLink RX0 24 "LanternWalk$Parade" "burns" "[Z").before args s = true := hts _ (List.mem_of_getElem? (i := 3) rfl)
  have f34 : (Cond.fieldLink RX0 34 "LanternWalk$Parade" "dark" "[I").before args s = true := hts _ (List.mem_of_getElem? (i := 4) rfl)
  have g4 : (Cond.methodLink RX0 155 Lib.Math.max.name).before args s = true := hts _ (List.mem_of_getElem? (i := 5) rfl)
  have g5 : (Cond.static Lib.Math.max.name).before args s = true := hts _ (List.mem_of_getElem? (i := 6) rfl)
  have g6 : (Cond.initialized "java/lang/Math").before args s = true := hts _ (List.mem_of_getElem? (i := 7) rfl)
  have g7 : (Cond.code Lib.Math.max.name Lib.Math.max.code 2 (some .int)).before args s = true := hts _ (List.mem_of_getElem? (i := 8) rfl)
  refine lv_aload_n hx hb dX0_walkOn_0 rfl (lv_at hl 0 rfl) ?_
  refine li_gf0 hx hb hX0 hown hK hP 0 rfl 0 (by decide) f58 rfl dX0_walkOn_1 ?_
  refine li_gf1 hx hb hX1 hown hK hP 16 rfl 7 (by decide) f190 rfl dX0_walkOn_4 ?_
  refine lv_iload_n hx hb dX0_walkOn_7 rfl (lv_at hl 1 rfl) ?_
  refine li_ild hx hb hK hP 21 0 rfl rfl (by omega) (by decide) dX0_walkOn_8 ?_
  refine li_topi (show σ 4 w = nI (nN (σ 4 w)) from hpc.1) ?_
  refine lv_istore_n (lv' := [(2, .int (nI (nN (σ 4 w)))), (0, .ref (a 0)), (1, .int (nI w))]) hx hb dX0_walkOn_9 rfl hl (by decide) rfl (fun ls hl => ?_)
  refine lv_aload_n hx hb dX0_walkOn_10 rfl (lv_at hl 1 rfl) ?_
  refine li_gf0 hx hb hX0 hown hK hP 0 rfl 6 (by decide) f24 rfl dX0_walkOn_11 ?_
  refine lv_iload_n hx hb dX0_walkOn_14 rfl (lv_at hl 2 rfl) ?_
  refine li_zld hx hb hK hP 5 1 rfl rfl (by omega) (by decide) dX0_walkOn_15 ?_
  refine lv_if_ne (tgt := 37) hx hb dX0_walkOn_16 (by decide) (fun c1 => ?_) (fun c1 => ?_)
  · skip
    refine lv_iconst (v := nI 1) hx hb dX0_walkOn_37 rfl ?_
    refine lv_istore_n (lv' := [(3, .int (nI 1)), (2, .int (nI (nN (σ 4 w)))), (0, .ref (a 0)), (1, .int (nI w))]) hx hb dX0_walkOn_38 rfl hl (by decide) rfl (fun ls hl => ?_)
    refine lv_iconst (v := nI 0) hx hb dX0_walkOn_39 rfl ?_
    refine lv_istore (lv' := [(4, .int (nI 0)), (3, .int (nI 1)), (2, .int (nI (nN (σ 4 w)))), (0, .ref (a 0)), (1, .int (nI w))]) hx hb dX0_walkOn_40 hl (by decide) rfl (fun ls hl => ?_)
    have L42_2 : ∀ (fuel : Nat) (gone : Nat) (goes : Bool) (P : Nat) (s9 : Sg) (k9 : Sg), (P - gone) < fuel → (gone ≤ P) → (P ≤ 3) → (wl n pl nw w (P - gone) (goes, (s9, k9)) = wl n pl nw w (wkP w σ) (true, (wk0 w σ, κ))) → ∀ (G : Heap) (locs : List Loc), va_P D vwCl (wP cI cZ a n pl nw ns s9 k9) G → va_S A H G locs → ∀ (ls : Array Slot), lv_has ls 5 [(4, .int (nI gone)), (3, .int (zI goes)), (2, .int (nI P)), (0, .ref (a 0)), (1, .int (nI w))] → W p l e ({ frames := 2, cells := 0, slots := 0, locals := 46 } : Room) s m args below meth c G locs 0 0 Q (F0 m 42 ls []) := by
      intro fuel
      induction fuel with
      | zero =>
        intro gone goes P s9 k9 hfuel
        exact absurd hfuel (Nat.not_lt_zero _)
      | succ fuel ih42 =>
        intro gone goes P s9 k9 hfuel42 hg hP3 hw9 G locs hP hS ls hl
        refine lv_iload hx hb dX0_walkOn_42 (lv_at hl 0 rfl) ?_
        refine lv_iload_n hx hb dX0_walkOn_44 rfl (lv_at hl 2 rfl) ?_
        refine li_ge (tgt := 64) hx hb dX0_walkOn_45 (by decide) (by omega) (by omega) (fun c3 => ?_) (fun c3 => ?_)
        · skip
          have hfin : wl n pl nw w (wkP w σ) (true, (wk0 w σ, κ)) = (goes, (s9, k9)) := by rw [← hw9]; first | (rw [show P - gone = 0 by omega]; rfl) | (rw [show goes = false by assumption]; exact wl_f _)
          have hw9 : s9 = (wkF n pl nw w (σ, κ)).1 := by unfold wkF; show s9 = (wl n pl nw w (wkP w σ) (true, (wk0 w σ, κ))).2.1; rw [hfin]
          have hP : va_P D vwCl (wP cI cZ a n pl nw ns ((wkF n pl nw w (σ, κ)).1) k9) G := Eq.mp (congrArg (fun z9 => va_P D vwCl (wP cI cZ a n pl nw ns z9 k9) G) hw9) hP
          clear hw9
          have hw9 : k9 = (wkF n pl nw w (σ, κ)).2 := by unfold wkF; show k9 = (wl n pl nw w (wkP w σ) (true, (wk0 w σ, κ))).2.2; rw [hfin]
          have hP : va_P D vwCl (wP cI cZ a n pl nw ns ((wkF n pl nw w (σ, κ)).1) ((wkF n pl nw w (σ, κ)).2)) G := Eq.mp (congrArg (fun z9 => va_P D vwCl (wP cI cZ a n pl nw ns ((wkF n pl nw w (σ, κ)).1) z9) G) hw9) hP
          clear hw9
          exact hEnd 64 ls G locs dX0_walkOn_64 hP hS
        · skip
          refine lv_iload_n hx hb dX0_walkOn_48 rfl (lv_at hl 1 rfl) ?_
          refine li_zeq (tgt := 64) hx hb dX0_walkOn_49 (by decide) (fun c4 => ?_) (fun c4 => ?_)
          · skip
            have hfin : wl n pl nw w (wkP w σ) (true, (wk0 w σ, κ)) = (goes, (s9, k9)) := by rw [← hw9]; first | (rw [show P - gone = 0 by omega]; rfl) | (rw [show goes = false by assumption]; exact wl_f _)
            have hw9 : s9 = (wkF n pl nw w (σ, κ)).1 := by unfold wkF; show s9 = (wl n pl nw w (wkP w σ) (true, (wk0 w σ, κ))).2.1; rw [hfin]
            have hP : va_P D vwCl (wP cI cZ a n pl nw ns ((wkF n pl nw w (σ, κ)).1) k9) G := Eq.mp (congrArg (fun z9 => va_P D vwCl (wP cI cZ a n pl nw ns z9 k9) G) hw9) hP
            clear hw9
            have hw9 : k9 = (wkF n pl nw w (σ, κ)).2 := by unfold wkF; show k9 = (wl n pl nw w (wkP w σ) (true, (wk0 w σ, κ))).2.2; rw [hfin]
            have hP : va_P D vwCl (wP cI cZ a n pl nw ns ((wkF n pl nw w (σ, κ)).1) ((wkF n pl nw w (σ, κ)).2)) G := Eq.mp (congrArg (fun z9 => va_P D vwCl (wP cI cZ a n pl nw ns ((wkF n pl nw w (σ, κ)).1) z9) G) hw9) hP
            clear hw9
            exact hEnd 64 ls G locs dX0_walkOn_64 hP hS
          · skip
            refine lv_aload_n hx hb dX0_walkOn_52 rfl (lv_at hl 3 rfl) ?_
            refine lv_iload_n hx hb dX0_walkOn_53 rfl (lv_at hl 4 rfl) ?_
            refine miV (As := [.int (nI w)]) (q0 := 0) (ci := 0) hx hb hml hown hts (c_X0_goOnePlace l D cI cZ cL cO a n pl nw ns s9 k9 G w A hA (hB) (by omega)) (cwV 1 hts gX0_walkOn_X0_goOnePlace rfl rfl rfl (by decide +kernel) ⟨by decide, by decide⟩) hK hE hP rfl rfl rfl rfl hl.1 rfl (Nat.le_of_ble_eq_true rfl) hS (fun _ h => h) dX0_walkOn_54 ⟨Nat.zero_le _, Nat.zero_le _⟩ (fun G locs hP _ _ hS => ?_)
            refine lv_istore_n (lv' := [(3, .int (zI ((g1 n pl nw w (s9, k9)).1))), (4, .int (nI gone)), (2, .int (nI P)), (0, .ref (a 0)), (1, .int (nI w))]) hx hb dX0_walkOn_57 rfl hl (by decide) rfl (fun ls hl => ?_)
            refine lv_iinc (v := nI (gone + 1)) (lv' := [(4, .int (nI (gone + 1))), (3, .int (zI ((g1 n pl nw w (s9, k9)).1))), (2, .int (nI P)), (0, .ref (a 0)), (1, .int (nI w))]) hx hb dX0_walkOn_58 hl (k := 1) rfl (nI_inc _ _) (by decide) rfl (fun ls hl => ?_)
            refine lv_goto (tgt := 42) hx hb dX0_walkOn_61 (by decide) ?_
            have hw9 : (g1 n pl nw w (s9, k9)).2.1 = ((g1 n pl nw w (s9, k9)).2.1) := rfl
            have hP : va_P D vwCl (wP cI cZ a n pl nw ns ((g1 n pl nw w (s9, k9)).2.1) ((g1 n pl nw w (s9, k9)).2.2)) G := Eq.mp (congrArg (fun z9 => va_P D vwCl (wP cI cZ a n pl nw ns z9 ((g1 n pl nw w (s9, k9)).2.2)) G) hw9) hP
            clear hw9
            have hw9 : (g1 n pl nw w (s9, k9)).2.2 = ((g1 n pl nw w (s9, k9)).2.2) := rfl
            have hP : va_P D vwCl (wP cI cZ a n pl nw ns ((g1 n pl nw w (s9, k9)).2.1) ((g1 n pl nw w (s9, k9)).2.2)) G := Eq.mp (congrArg (fun z9 => va_P D vwCl (wP cI cZ a n pl nw ns ((g1 n pl nw w (s9, k9)).2.1) z9) G) hw9) hP
            clear hw9
            have hl9 : lv_has ls 5 [(4, .int (nI (gone + 1))), (3, .int (zI ((g1 n pl nw w (s9, k9)).1))), (2, .int (nI P)), (0, .ref (a 0)), (1, .int (nI w))] := lv_sub hl [0, 1, 2, 3, 4] rfl
            exact ih42 (gone + 1) ((g1 n pl nw w (s9, k9)).1) P ((g1 n pl nw w (s9, k9)).2.1) ((g1 n pl nw w (s9, k9)).2.2) (by omega) (by omega) (by omega) (by rw [← hw9, show P - gone = (P - (gone + 1)) + 1 by omega]; simp only [wl]; rw [if_pos (by assumption)]) G locs hP hS ls hl9
    have hl9 : lv_has ls 5 [(4, .int (nI 0)), (3, .int (nI 1)), (2, .int (nI (nN (σ 4 w)))), (0, .ref (a 0)), (1, .int (nI w))] := lv_sub hl [0, 1, 2, 3, 4] rfl
    have hl9 : lv_has ls 5 [(4, .int (nI 0)), (3, .int (zI true)), (2, .int (nI (nN (σ 4 w)))), (0, .ref (a 0)), (1, .int (nI w))] := lv_re hl9 1 rfl (show nI 1 = zI true from rfl)
    exact L42_2 (((nN (σ 4 w)) - 0) + 1) 0 true (nN (σ 4 w)) σ κ (Nat.lt_succ_self _) (Nat.zero_le _) (by first | omega | exact mxp_le hpc.2.2) (by rw [Nat.sub_zero]; unfold wkP wk0; simp [c1]) H locs hP hS ls hl9
  · skip
    refine lv_aload_n hx hb dX0_walkOn_19 rfl (lv_at hl 1 rfl) ?_
    refine li_gf0 hx hb hX0 hown hK hP 0 rfl 9 (by decide) f34 rfl dX0_walkOn_20 ?_
    refine lv_iload_n hx hb dX0_walkOn_23 rfl (lv_at hl 2 rfl) ?_
    refine lv_dup2_11 hx hb dX0_walkOn_24 rfl rfl ?_
    refine li_ild hx hb hK hP 8 0 rfl rfl (by omega) (by decide) dX0_walkOn_25 ?_
    refine lv_iconst (v := nI 1) hx hb dX0_walkOn_26 rfl ?_
    refine lv_iadd hx hb dX0_walkOn_27 ?_
    refine li_ist hx hb hK hP hA.D hS 8 0 rfl rfl (by omega) (by decide) stP_14 dX0_walkOn_28 (fun G locs hP hS => ?_)
    refine lv_iconst (v := nI 1) hx hb dX0_walkOn_29 rfl ?_
    refine lv_iload_n hx hb dX0_walkOn_30 rfl (lv_at hl 0 rfl) ?_
    refine lv_iconst (v := nI 1) hx hb dX0_walkOn_31 rfl ?_
    refine lv_isub hx hb dX0_walkOn_32 ?_
    refine li_topi (show (nI (nN (σ 4 w))) - (nI 1) = nI (nN (σ 4 w) - 1) from pk_sub hpc.2.1) ?_
    refine va_mmax hx hb (hml.trans hl.1.symm) hown g4 g5 g6 g7 (by decide) (Nat.le_of_ble_eq_true rfl) (Nat.zero_le _) (Nat.zero_le _) dX0_walkOn_33 ?_
    refine li_topi (show (if nI 1 < nI (nN (σ 4 w) - 1) then nI (nN (σ 4 w) - 1) else nI 1) = nI (mxp (nN (σ 4 w))) from mxp_eq hpc.2.1 hpc.2.2) ?_
    refine lv_istore_n (lv' := [(2, .int (nI (mxp (nN (σ 4 w))))), (0, .ref (a 0)), (1, .int (nI w))]) hx hb dX0_walkOn_36 rfl hl (by decide) rfl (fun ls hl => ?_)
    refine lv_iconst (v := nI 1) hx hb dX0_walkOn_37 rfl ?_
    refine lv_istore_n (lv' := [(3, .int (nI 1)), (2, .int (nI (mxp (nN (σ 4 w))))), (0, .ref (a 0)), (1, .int (nI w))]) hx hb dX0_walkOn_38 rfl hl (by decide) rfl (fun ls hl => ?_)
    refine lv_iconst (v := nI 0) hx hb dX0_walkOn_39 rfl ?_
    refine lv_istore (lv' := [(4, .int (nI 0)), (3, .int (nI 1)), (2, .int (nI (mxp (nN (σ 4 w))))), (0, .ref (a 0)), (1, .int (nI w))]) hx hb dX0_walkOn_40 hl (by decide) rfl (fun ls hl => ?_)
    have L42_5 : ∀ (fuel : Nat) (gone : Nat) (goes : Bool) (P : Nat) (s9 : Sg) (k9 : Sg), (P - gone) < fuel → (gone ≤ P) → (P ≤ 3) → (wl n pl nw w (P - gone) (goes, (s9, k9)) = wl n pl nw w (wkP w σ) (true, (wk0 w σ, κ))) → ∀ (G : Heap) (locs : List Loc), va_P D vwCl (wP cI cZ a n pl nw ns s9 k9) G → va_S A H G locs → ∀ (ls : Array Slot), lv_has ls 5 [(4, .int (nI gone)), (3, .int (zI goes)), (2, .int (nI P)), (0, .ref (a 0)), (1, .int (nI w))] → W p l e ({ frames := 2, cells := 0, slots := 0, locals := 46 } : Room) s m args below meth c G locs 0 0 Q (F0 m 42 ls []) := by
      intro fuel
      induction fuel with
      | zero =>
        intro gone goes P s9 k9 hfuel
        exact absurd hfuel (Nat.not_lt_zero _)
      | succ fuel ih42 =>
        intro gone goes P s9 k9 hfuel42 hg hP3 hw9 G locs hP hS ls hl
        refine lv_iload hx hb dX0_walkOn_42 (lv_at hl 0 rfl) ?_
        refine lv_iload_n hx hb dX0_walkOn_44 rfl (lv_at hl 2 rfl) ?_
        refine li_ge (tgt := 64) hx hb dX0_walkOn_45 (by decide) (by omega) (by omega) (fun c6 => ?_) (fun c6 => ?_)
        · skip
          have hfin : wl n pl nw w (wkP w σ) (true, (wk0 w σ, κ)) = (goes, (s9, k9)) := by rw [← hw9]; first | (rw [show P - gone = 0 by omega]; rfl) | (rw [show goes = false by assumption]; exact wl_f _)
          have hw9 : s9 = (wkF n pl nw w (σ, κ)).1 := by unfold wkF; show s9 = (wl n pl nw w (wkP w σ) (true, (wk0 w σ, κ))).2.1; rw [hfin]
          have hP : va_P D vwCl (wP cI cZ a n pl nw ns ((wkF n pl nw w (σ, κ)).1) k9) G := Eq.mp (congrArg (fun z9 => va_P D vwCl (wP cI cZ a n pl nw ns z9 k9) G) hw9) hP
          clear hw9
          have hw9 : k9 = (wkF n pl nw w (σ, κ)).2 := by unfold wkF; show k9 = (wl n pl nw w (wkP w σ) (true, (wk0 w σ, κ))).2.2; rw [hfin]
          have hP : va_P D vwCl (wP cI cZ a n pl nw ns ((wkF n pl nw w (σ, κ)).1) ((wkF n pl nw w (σ, κ)).2)) G := Eq.mp (congrArg (fun z9 => va_P D vwCl (wP cI cZ a n pl nw ns ((wkF n pl nw w (σ, κ)).1) z9) G) hw9) hP
          clear hw9
          exact hEnd 64 ls G locs dX0_walkOn_64 hP hS
        · skip
          refine lv_iload_n hx hb dX0_walkOn_48 rfl (lv_at hl 1 rfl) ?_
          refine li_zeq (tgt := 64) hx hb dX0_walkOn_49 (by decide) (fun c7 => ?_) (fun c7 => ?_)
          · skip
            have hfin : wl n pl nw w (wkP w σ) (true, (wk0 w σ, κ)) = (goes, (s9, k9)) := by rw [← hw9]; first | (rw [show P - gone = 0 by omega]; rfl) | (rw [show goes = false by assumption]; exact wl_f _)
            have hw9 : s9 = (wkF n pl nw w (σ, κ)).1 := by unfold wkF; show s9 = (wl n pl nw w (wkP w σ) (true, (wk0 w σ, κ))).2.1; rw [hfin]
            have hP : va_P D vwCl (wP cI cZ a n pl nw ns ((wkF n pl nw w (σ, κ)).1) k9) G := Eq.mp (congrArg (fun z9 => va_P D vwCl (wP cI cZ a n pl nw ns z9 k9) G) hw9) hP
            clear hw9
            have hw9 : k9 = (wkF n pl nw w (σ, κ)).2 := by unfold wkF; show k9 = (wl n pl nw w (wkP w σ) (true, (wk0 w σ, κ))).2.2; rw [hfin]
            have hP : va_P D vwCl (wP cI cZ a n pl nw ns ((wkF n pl nw w (σ, κ)).1) ((wkF n pl nw w (σ, κ)).2)) G := Eq.mp (congrArg (fun z9 => va_P D vwCl (wP cI cZ a n pl nw ns ((wkF n pl nw w (σ, κ)).1) z9) G) hw9) hP
            clear hw9
            exact hEnd 64 ls G locs dX0_walkOn_64 hP hS
          · skip
            refine lv_aload_n hx hb dX0_walkOn_52 rfl (lv_at hl 3 rfl) ?_
            refine lv_iload_n hx hb dX0_walkOn_53 rfl (lv_at hl 4 rfl) ?_
            refine miV (As := [.int (nI w)]) (q0 := 0) (ci := 0) hx hb hml hown hts (c_X0_goOnePlace l D cI cZ cL cO a n pl nw ns s9 k9 G w A hA (hB) (by omega)) (cwV 1 hts gX0_walkOn_X0_goOnePlace rfl rfl rfl (by decide +kernel) ⟨by decide, by decide⟩) hK hE hP rfl rfl rfl rfl hl.1 rfl (Nat.le_of_ble_eq_true rfl) hS (fun _ h => h) dX0_walkOn_54 ⟨Nat.zero_le _, Nat.zero_le _⟩ (fun G locs hP _ _ hS => ?_)
            refine lv_istore_n (lv' := [(3, .int (zI ((g1 n pl nw w (s9, k9)).1))), (4, .int (nI gone)), (2, .int (nI P)), (0, .ref (a 0)), (1, .int (nI w))]) hx hb dX0_walkOn_57 rfl hl (by decide) rfl (fun ls hl => ?_)
            refine lv_iinc (v := nI (gone + 1)) (lv' := [(4, .int (nI (gone + 1))), (3, .int (zI ((g1 n pl nw w (s9, k9)).1))), (2, .int (nI P)), (0, .ref (a 0)), (1, .int (nI w))]) hx hb dX0_walkOn_58 hl (k := 1) rfl (nI_inc _ _) (by decide) rfl (fun ls hl => ?_)
            refine lv_goto (tgt := 42) hx hb dX0_walkOn_61 (by decide) ?_
            have hw9 : (g1 n pl nw w (s9, k9)).2.1 = ((g1 n pl nw w (s9, k9)).2.1) := rfl
            have hP : va_P D vwCl (wP cI cZ a n pl nw ns ((g1 n pl nw w (s9, k9)).2.1) ((g1 n pl nw w (s9, k9)).2.2)) G := Eq.mp (congrArg (fun z9 => va_P D vwCl (wP cI cZ a n pl nw ns z9 ((g1 n pl nw w (s9, k9)).2.2)) G) hw9) hP
            clear hw9
            have hw9 : (g1 n pl nw w (s9, k9)).2.2 = ((g1 n pl nw w (s9, k9)).2.2) := rfl
            have hP : va_P D vwCl (wP cI cZ a n pl nw ns ((g1 n pl nw w (s9, k9)).2.1) ((g1 n pl nw w (s9, k9)).2.2)) G := Eq.mp (congrArg (fun z9 => va_P D vwCl (wP cI cZ a n pl nw ns ((g1 n pl nw w (s9, k9)).2.1) z9) G) hw9) hP
            clear hw9
            have hl9 : lv_has ls 5 [(4, .int (nI (gone + 1))), (3, .int (zI ((g1 n pl nw w (s9, k9)).1))), (2, .int (nI P)), (0, .ref (a 0)), (1, .int (nI w))] := lv_sub hl [0, 1, 2, 3, 4] rfl
            exact ih42 (gone + 1) ((g1 n pl nw w (s9, k9)).1) P ((g1 n pl nw w (s9, k9)).2.1) ((g1 n pl nw w (s9, k9)).2.2) (by omega) (by omega) (by omega) (by rw [← hw9, show P - gone = (P - (gone + 1)) + 1 by omega]; simp only [wl]; rw [if_pos (by assumption)]) G locs hP hS ls hl9
    have hw9 : up2 σ 14 w ((σ 14 w) + (nI 1)) = (up2 σ 14 w ((σ 14 w) + (nI 1))) := rfl
    have hP : va_P D vwCl (wP cI cZ a n pl nw ns (up2 σ 14 w ((σ 14 w) + (nI 1))) κ) G := Eq.mp (congrArg (fun z9 => va_P D vwCl (wP cI cZ a n pl nw ns z9 κ) G) hw9) hP
    clear hw9
    have hl9 : lv_has ls 5 [(4, .int (nI 0)), (3, .int (nI 1)), (2, .int (nI (mxp (nN (σ 4 w))))), (0, .ref (a 0)), (1, .int (nI w))] := lv_sub hl [0, 1, 2, 3, 4] rfl
    have hl9 : lv_has ls 5 [(4, .int (nI 0)), (3, .int (zI true)), (2, .int (nI (mxp (nN (σ 4 w))))), (0, .ref (a 0)), (1, .int (nI w))] := lv_re hl9 1 rfl (show nI 1 = zI true from rfl)
    exact L42_5 (((mxp (nN (σ 4 w))) - 0) + 1) 0 true (mxp (nN (σ 4 w))) (up2 σ 14 w ((σ 14 w) + (nI 1))) κ (Nat.lt_succ_self _) (Nat.zero_le _) (by first | omega | exact mxp_le hpc.2.2) (by rw [Nat.sub_zero]; unfold wkP wk0; simp [c1]) G locs hP hS ls hl9
set_option maxHeartbeats 4000000 in
set_option maxRecDepth 100000 in
theorem c_X0_goOn (l : Launch) (D : va_G) (cI cZ cL cO : ClassId) (a : Nat → Nat) (n pl nw ns : Nat) (σ κ : Nat → Nat → Int32) (H : Heap) (A : Nat → Prop) (hA : okP A a 24) (hB : n ≤ 10 ∧ pl ≤ 200 ∧ nw ≤ 20 ∧ ns ≤ 6) (hpc : ∀ w, w < nw → σ 4 w = nI (nN (σ 4 w)) ∧ 1 ≤ nN (σ 4 w) ∧ nN (σ 4 w) ≤ 3) : Met l yX0_goOn wsX0_goOn ({ frames := 3, cells := 0, slots := 0, locals := 70 } : Room) (ro_P D (T4 cI cZ cL cO) (wP cI cZ a n pl nw ns σ κ) H [.ref (a 0)]) (mu_Q D (wP cI cZ a n pl nw ns ((goF n pl nw (σ, κ)).1) ((goF n pl nw (σ, κ)).2)) A) 0 0 A := by
  refine mu_of (cc := cX0_goOn) (maxL := 3) (by decide) rfl (Nat.le_of_ble_eq_true rfl) ?_
  intro p e s m args below meth c Q ls locs hx hb hml hown hts hK hE hP hl hS hEnd
  have hl : lv_has ls 3 [(0, .ref (a 0))] := hl
  have hX0 : ∀ w ∈ wsX00, w.before args s = true := fun w h => hts w (List.mem_cons_of_mem _ (List.mem_append_left _ (List.mem_append_right _ (h))))
  have hX1 : ∀ w ∈ wsX10, w.before args s = true := fun w h => hts w (List.mem_cons_of_mem _ (List.mem_append_right _ (h)))
  have f58 : (Cond.fieldLink RX0 58 "LanternWalk$Parade" "setting" "LLanternWalk$Setting;").before args s = true := hts _ (List.mem_of_getElem? (i := 1) rfl)
  have f178 : (Cond.fieldLink RX0 178 "LanternWalk$Setting" "stretches" "I").before args s = true := hts _ (List.mem_of_getElem? (i := 2) rfl)
  have f92 : (Cond.fieldLink RX0 92 "LanternWalk$Setting" "walkers" "I").before args s = true := hts _ (List.mem_of_getElem? (i := 4) rfl)
  have f55 : (Cond.fieldLink RX0 55 "LanternWalk$Parade" "hasGone" "[Z").before args s = true := hts _ (List.mem_of_getElem? (i := 5) rfl)
  have f52 : (Cond.fieldLink RX0 52 "LanternWalk$Parade" "stillLets" "[I").before args s = true := hts _ (List.mem_of_getElem? (i := 3) rfl)
  refine lv_iconst (v := nI 0) hx hb dX0_goOn_0 rfl ?_
  refine lv_istore_n (lv' := [(1, .int (nI 0)), (0, .ref (a 0))]) hx hb dX0_goOn_1 rfl hl (by decide) rfl (fun ls hl => ?_)
  have L2_1 : ∀ (fuel : Nat) (k : Nat), (n - k) < fuel → (k ≤ n) → ∀ (G : Heap) (locs : List Loc), va_P D vwCl (wP cI cZ a n pl nw ns σ (foldN (sl1 σ) k κ)) G → va_S A H G locs → ∀ (ls : Array Slot), lv_has ls 3 [(1, .int (nI k)), (0, .ref (a 0))] → W p l e ({ frames := 3, cells := 0, slots := 0, locals := 70 } : Room) s m args below meth c G locs 0 0 Q (F0 m 2 ls []) := by
    intro fuel
    induction fuel with
    | zero =>
      intro k hfuel
      exact absurd hfuel (Nat.not_lt_zero _)
    | succ fuel ih2 =>
      intro k hfuel2 hk G locs hP hS ls hl
      refine lv_iload_n hx hb dX0_goOn_2 rfl (lv_at hl 0 rfl) ?_
      refine lv_aload_n hx hb dX0_goOn_3 rfl (lv_at hl 1 rfl) ?_
      refine li_gf0 hx hb hX0 hown hK hP 0 rfl 0 (by decide) f58 rfl dX0_goOn_4 ?_
      refine li_gf1 hx hb hX1 hown hK hP 16 rfl 0 (by decide) f178 rfl dX0_goOn_7 ?_
      refine li_ge (tgt := 30) hx hb dX0_goOn_10 (by decide) (by omega) (by omega) (fun c2 => ?_) (fun c2 => ?_)
      · skip
        refine lv_iconst (v := nI 0) hx hb dX0_goOn_30 rfl ?_
        refine lv_istore_n (lv' := [(1, .int (nI 0)), (0, .ref (a 0))]) hx hb dX0_goOn_31 rfl hl (by decide) rfl (fun ls hl => ?_)
        have L32_3 : ∀ (fuel : Nat) (k : Nat), (nw - k) < fuel → (k ≤ nw) → ∀ (G : Heap) (locs : List Loc), va_P D vwCl (wP cI cZ a n pl nw ns σ (foldN hg1 k (slF n (σ, κ)))) G → va_S A H G locs → ∀ (ls : Array Slot), lv_has ls 3 [(1, .int (nI k)), (0, .ref (a 0))] → W p l e ({ frames := 3, cells := 0, slots := 0, locals := 70 } : Room) s m args below meth c G locs 0 0 Q (F0 m 32 ls []) := by
          intro fuel
          induction fuel with
          | zero =>
            intro k hfuel
            exact absurd hfuel (Nat.not_lt_zero _)
          | succ fuel ih32 =>
            intro k hfuel32 hk G locs hP hS ls hl
            refine lv_iload_n hx hb dX0_goOn_32 rfl (lv_at hl 0 rfl) ?_
            refine lv_aload_n hx hb dX0_goOn_33 rfl (lv_at hl 1 rfl) ?_
            refine li_gf0 hx hb hX0 hown hK hP 0 rfl 0 (by decide) f58 rfl dX0_goOn_34 ?_
            refine li_gf1 hx hb hX1 hown hK hP 16 rfl 6 (by decide) f92 rfl dX0_goOn_37 ?_
            refine li_ge (tgt := 56) hx hb dX0_goOn_40 (by decide) (by omega) (by omega) (fun c4 => ?_) (fun c4 => ?_)
            · skip
              refine lv_iconst (v := nI 0) hx hb dX0_goOn_56 rfl ?_
              refine lv_istore_n (lv' := [(1, .int (nI 0)), (0, .ref (a 0))]) hx hb dX0_goOn_57 rfl hl (by decide) rfl (fun ls hl => ?_)
              have L58_5 : ∀ (fuel : Nat) (k : Nat) (s9 : Sg) (k9 : Sg), (nw - k) < fuel → (k ≤ nw) → (s9 4 = σ 4) → (goL n pl nw (nw - k) (s9, k9) = goL n pl nw nw (σ, (hgF nw (slF n (σ, κ))))) → ∀ (G : Heap) (locs : List Loc), va_P D vwCl (wP cI cZ a n pl nw ns s9 k9) G → va_S A H G locs → ∀ (ls : Array Slot), lv_has ls 3 [(1, .int (nI k)), (0, .ref (a 0))] → W p l e ({ frames := 3, cells := 0, slots := 0, locals := 70 } : Room) s m args below meth c G locs 0 0 Q (F0 m 58 ls []) := by
                intro fuel
                induction fuel with
                | zero =>
                  intro k s9 k9 hfuel
                  exact absurd hfuel (Nat.not_lt_zero _)
                | succ fuel ih58 =>
                  intro k s9 k9 hfuel58 hk hr hw9 G locs hP hS ls hl
                  refine lv_iload_n hx hb dX0_goOn_58 rfl (lv_at hl 0 rfl) ?_
                  refine lv_aload_n hx hb dX0_goOn_59 rfl (lv_at hl 1 rfl) ?_
                  refine li_gf0 hx hb hX0 hown hK hP 0 rfl 0 (by decide) f58 rfl dX0_goOn_60 ?_
                  refine li_gf1 hx hb hX1 hown hK hP 16 rfl 6 (by decide) f92 rfl dX0_goOn_63 ?_
                  refine li_ge (tgt := 98) hx hb dX0_goOn_66 (by decide) (by omega) (by omega) (fun c6 => ?_) (fun c6 => ?_)
                  · skip
                    have hfin : goF n pl nw (σ, κ) = (s9, k9) := by unfold goF; rw [← hw9, show nw - k = 0 by omega]; rfl
                    have hw9 : s9 = (goF n pl nw (σ, κ)).1 := by rw [hfin]
                    have hP : va_P D vwCl (wP cI cZ a n pl nw ns ((goF n pl nw (σ, κ)).1) k9) G := Eq.mp (congrArg (fun z9 => va_P D vwCl (wP cI cZ a n pl nw ns z9 k9) G) hw9) hP
                    clear hw9
                    have hw9 : k9 = (goF n pl nw (σ, κ)).2 := by rw [hfin]
                    have hP : va_P D vwCl (wP cI cZ a n pl nw ns ((goF n pl nw (σ, κ)).1) ((goF n pl nw (σ, κ)).2)) G := Eq.mp (congrArg (fun z9 => va_P D vwCl (wP cI cZ a n pl nw ns ((goF n pl nw (σ, κ)).1) z9) G) hw9) hP
                    clear hw9
                    exact hEnd 98 ls G locs dX0_goOn_98 hP hS
                  · skip
                    refine lv_aload_n hx hb dX0_goOn_69 rfl (lv_at hl 1 rfl) ?_
                    refine roV (As := []) (q0 := 0) (ci := 0) hx hb hml hown hts (c_X0_foremostToGo l D cI cZ cL cO a n pl nw ns s9 k9 G (hB)) (cwV 0 hts gX0_goOn_X0_foremostToGo rfl rfl rfl (by decide +kernel) ⟨by decide, by decide⟩) hK hE hP rfl rfl rfl rfl hl.1 rfl (Nat.le_of_ble_eq_true rfl) hS dX0_goOn_70 ⟨Nat.zero_le _, Nat.zero_le _⟩ (fun locs hS => ?_)
                    refine lv_istore_n (lv' := [(2, .int ((fg s9 k9 nw).2)), (1, .int (nI k)), (0, .ref (a 0))]) hx hb dX0_goOn_73 rfl hl (by decide) rfl (fun ls hl => ?_)
                    refine lv_iload_n hx hb dX0_goOn_74 rfl (lv_at hl 0 rfl) ?_
                    refine lv_iconst (v := (-1)) hx hb dX0_goOn_75 rfl ?_
                    refine lv_icmp_ne (tgt := 80) hx hb dX0_goOn_76 (by decide) (fun c7 => ?_) (fun c7 => ?_)
                    · skip
                      obtain ⟨j, hj, hj2, hj3, hj4⟩ := fg_nat c7
                      have hjn : nN (fg s9 k9 nw).2 = j := by rw [hj2]; exact nN_nI (by omega)
                      have hcn := c7
                      rw [hj2] at hl
                      have hl : lv_has ls 3 [(2, .int (nI j)), (1, .int (nI k)), (0, .ref (a 0))] := hl
                      refine lv_aload_n hx hb dX0_goOn_80 rfl (lv_at hl 2 rfl) ?_
                      refine li_gf0 hx hb hX0 hown hK hP 0 rfl 16 (by decide) f55 rfl dX0_goOn_81 ?_
                      refine lv_iload_n hx hb dX0_goOn_84 rfl (lv_at hl 0 rfl) ?_
                      refine lv_iconst (v := nI 1) hx hb dX0_goOn_85 rfl ?_
                      refine li_zst hx hb hK hP hA.D hS 15 1 rfl rfl (by omega) (by decide) (rfl) stK_4 dX0_goOn_86 (fun G locs hP hS => ?_)
                      refine lv_aload_n hx hb dX0_goOn_87 rfl (lv_at hl 2 rfl) ?_
                      refine lv_iload_n hx hb dX0_goOn_88 rfl (lv_at hl 0 rfl) ?_
                      refine muV (As := [.int (nI j)]) (q0 := 0) (ci := 0) hx hb hml hown hts (c_X0_walkOn l D cI cZ cL cO a n pl nw ns s9 (up2 k9 4 j (nI 1)) G j A hA (hB) (by omega) (by show s9 4 j = nI (nN (s9 4 j)) ∧ 1 ≤ nN (s9 4 j) ∧ nN (s9 4 j) ≤ 3; rw [hr]; exact hpc j hj)) (cwV 1 hts gX0_goOn_X0_walkOn rfl rfl rfl (by decide +kernel) ⟨by decide, by decide⟩) hK hE hP rfl rfl rfl rfl hl.1 rfl (Nat.le_of_ble_eq_true rfl) hS (fun _ h => h) dX0_goOn_89 ⟨Nat.zero_le _, Nat.zero_le _⟩ (fun G locs hP _ _ hS => ?_)
                      refine lv_iinc (v := nI (k + 1)) (lv' := [(1, .int (nI (k + 1))), (2, .int (nI j)), (0, .ref (a 0))]) hx hb dX0_goOn_92 hl (k := 1) rfl (nI_inc _ _) (by decide) rfl (fun ls hl => ?_)
                      refine lv_goto (tgt := 58) hx hb dX0_goOn_95 (by decide) ?_
                      have hw9 : (wkF n pl nw j (s9, (up2 k9 4 j (nI 1)))).1 = ((wkF n pl nw j (s9, (up2 k9 4 j (nI 1)))).1) := rfl
                      have hP : va_P D vwCl (wP cI cZ a n pl nw ns ((wkF n pl nw j (s9, (up2 k9 4 j (nI 1)))).1) ((wkF n pl nw j (s9, (up2 k9 4 j (nI 1)))).2)) G := Eq.mp (congrArg (fun z9 => va_P D vwCl (wP cI cZ a n pl nw ns z9 ((wkF n pl nw j (s9, (up2 k9 4 j (nI 1)))).2)) G) hw9) hP
                      clear hw9
                      have hw9 : (wkF n pl nw j (s9, (up2 k9 4 j (nI 1)))).2 = ((wkF n pl nw j (s9, (up2 k9 4 j (nI 1)))).2) := rfl
                      have hP : va_P D vwCl (wP cI cZ a n pl nw ns ((wkF n pl nw j (s9, (up2 k9 4 j (nI 1)))).1) ((wkF n pl nw j (s9, (up2 k9 4 j (nI 1)))).2)) G := Eq.mp (congrArg (fun z9 => va_P D vwCl (wP cI cZ a n pl nw ns ((wkF n pl nw j (s9, (up2 k9 4 j (nI 1)))).1) z9) G) hw9) hP
                      clear hw9
                      have hl9 : lv_has ls 3 [(1, .int (nI (k + 1))), (0, .ref (a 0))] := lv_sub hl [0, 2] rfl
                      exact ih58 (k + 1) ((wkF n pl nw j (s9, (up2 k9 4 j (nI 1)))).1) ((wkF n pl nw j (s9, (up2 k9 4 j (nI 1)))).2) (by omega) (by omega) (by rw [wkF_row (by unfold goR; omega)]; exact hr) (by rw [← hw9, show nw - k = (nw - (k + 1)) + 1 by omega]; simp only [goL]; rw [if_neg hcn, hjn]) G locs hP hS ls hl9
                    · skip
                      have hfin : goF n pl nw (σ, κ) = (s9, k9) := by unfold goF; rw [← hw9, show nw - k = (nw - k - 1) + 1 by omega]; simp only [goL]; rw [if_pos (by assumption)]
                      have hw9 : s9 = (goF n pl nw (σ, κ)).1 := by rw [hfin]
                      have hP : va_P D vwCl (wP cI cZ a n pl nw ns ((goF n pl nw (σ, κ)).1) k9) G := Eq.mp (congrArg (fun z9 => va_P D vwCl (wP cI cZ a n pl nw ns z9 k9) G) hw9) hP
                      clear hw9
                      have hw9 : k9 = (goF n pl nw (σ, κ)).2 := by rw [hfin]
                      have hP : va_P D vwCl (wP cI cZ a n pl nw ns ((goF n pl nw (σ, κ)).1) ((goF n pl nw (σ, κ)).2)) G := Eq.mp (congrArg (fun z9 => va_P D vwCl (wP cI cZ a n pl nw ns ((goF n pl nw (σ, κ)).1) z9) G) hw9) hP
                      clear hw9
                      exact hEnd 79 ls G locs dX0_goOn_79 hP hS
              have hw9 : foldN hg1 k (slF n (σ, κ)) = (foldN hg1 k (slF n (σ, κ))) := rfl
              have hP : va_P D vwCl (wP cI cZ a n pl nw ns σ (foldN hg1 k (slF n (σ, κ)))) G := Eq.mp (congrArg (fun z9 => va_P D vwCl (wP cI cZ a n pl nw ns σ z9) G) hw9) hP
              clear hw9
              have hl9 : lv_has ls 3 [(1, .int (nI 0)), (0, .ref (a 0))] := lv_sub hl [0, 1] rfl
              exact L58_5 ((nw - 0) + 1) 0 σ (foldN hg1 k (slF n (σ, κ))) (Nat.lt_succ_self _) (by omega) (rfl) (by rw [Nat.sub_zero, show k = nw by omega]; rfl) G locs hP hS ls hl9
            · skip
              refine lv_aload_n hx hb dX0_goOn_43 rfl (lv_at hl 1 rfl) ?_
              refine li_gf0 hx hb hX0 hown hK hP 0 rfl 16 (by decide) f55 rfl dX0_goOn_44 ?_
              refine lv_iload_n hx hb dX0_goOn_47 rfl (lv_at hl 0 rfl) ?_
              refine lv_iconst (v := nI 0) hx hb dX0_goOn_48 rfl ?_
              refine li_zst hx hb hK hP hA.D hS 15 1 rfl rfl (by omega) (by decide) (rfl) stK_4 dX0_goOn_49 (fun G locs hP hS => ?_)
              refine lv_iinc (v := nI (k + 1)) (lv' := [(1, .int (nI (k + 1))), (0, .ref (a 0))]) hx hb dX0_goOn_50 hl (k := 0) rfl (nI_inc _ _) (by decide) rfl (fun ls hl => ?_)
              refine lv_goto (tgt := 32) hx hb dX0_goOn_53 (by decide) ?_
              have hw9 : up2 (foldN hg1 k (slF n (σ, κ))) 4 k (nI 0) = foldN hg1 (k + 1) (slF n (σ, κ)) := rfl
              have hP : va_P D vwCl (wP cI cZ a n pl nw ns σ (foldN hg1 (k + 1) (slF n (σ, κ)))) G := Eq.mp (congrArg (fun z9 => va_P D vwCl (wP cI cZ a n pl nw ns σ z9) G) hw9) hP
              clear hw9
              have hl9 : lv_has ls 3 [(1, .int (nI (k + 1))), (0, .ref (a 0))] := lv_sub hl [0, 1] rfl
              exact ih32 (k + 1) (by omega) (by omega) G locs hP hS ls hl9
        have hw9 : foldN (sl1 σ) k κ = foldN hg1 0 (slF n (σ, κ)) := by rw [show k = n by omega]; rfl
        have hP : va_P D vwCl (wP cI cZ a n pl nw ns σ (foldN hg1 0 (slF n (σ, κ)))) G := Eq.mp (congrArg (fun z9 => va_P D vwCl (wP cI cZ a n pl nw ns σ z9) G) hw9) hP
        clear hw9
        have hl9 : lv_has ls 3 [(1, .int (nI 0)), (0, .ref (a 0))] := lv_sub hl [0, 1] rfl
        exact L32_3 ((nw - 0) + 1) 0 (Nat.lt_succ_self _) (by omega) G locs hP hS ls hl9
      · skip
        refine lv_aload_n hx hb dX0_goOn_13 rfl (lv_at hl 1 rfl) ?_
        refine li_gf0 hx hb hX0 hown hK hP 0 rfl 15 (by decide) f52 rfl dX0_goOn_14 ?_
        refine lv_iload_n hx hb dX0_goOn_17 rfl (lv_at hl 0 rfl) ?_
        refine lv_aload_n hx hb dX0_goOn_18 rfl (lv_at hl 1 rfl) ?_
        refine lv_iload_n hx hb dX0_goOn_19 rfl (lv_at hl 0 rfl) ?_
        refine roV (As := [.int (nI k)]) (q0 := 0) (ci := 0) hx hb hml hown hts (c_X0_letsThrough l D cI cZ cL cO a n pl nw ns σ (foldN (sl1 σ) k κ) G k (hB) (by omega)) (cwV 1 hts gX0_goOn_X0_letsThrough rfl rfl rfl (by decide +kernel) ⟨by decide, by decide⟩) hK hE hP rfl rfl rfl rfl hl.1 rfl (Nat.le_of_ble_eq_true rfl) hS dX0_goOn_20 ⟨Nat.zero_le _, Nat.zero_le _⟩ (fun locs hS => ?_)
        refine li_ist hx hb hK hP hA.D hS 14 0 rfl rfl (by omega) (by decide) stK_3 dX0_goOn_23 (fun G locs hP hS => ?_)
        refine lv_iinc (v := nI (k + 1)) (lv' := [(1, .int (nI (k + 1))), (0, .ref (a 0))]) hx hb dX0_goOn_24 hl (k := 0) rfl (nI_inc _ _) (by decide) rfl (fun ls hl => ?_)
        refine lv_goto (tgt := 2) hx hb dX0_goOn_27 (by decide) ?_
        have hw9 : up2 (foldN (sl1 σ) k κ) 3 k (lt_ σ k 2) = foldN (sl1 σ) (k + 1) κ := rfl
        have hP : va_P D vwCl (wP cI cZ a n pl nw ns σ (foldN (sl1 σ) (k + 1) κ)) G := Eq.mp (congrArg (fun z9 => va_P D vwCl (wP cI cZ a n pl nw ns σ z9) G) hw9) hP
        clear hw9
        have hl9 : lv_has ls 3 [(1, .int (nI (k + 1))), (0, .ref (a 0))] := lv_sub hl [0, 1] rfl
        exact ih2 (k + 1) (by omega) (by omega) G locs hP hS ls hl9
  have hw9 : κ = foldN (sl1 σ) 0 κ := rfl
  have hP : va_P D vwCl (wP cI cZ a n pl nw ns σ (foldN (sl1 σ) 0 κ)) H := Eq.mp (congrArg (fun z9 => va_P D vwCl (wP cI cZ a n pl nw ns σ z9) H) hw9) hP
  clear hw9
  have hl9 : lv_has ls 3 [(1, .int (nI 0)), (0, .ref (a 0))] := lv_sub hl [0, 1] rfl
  exact L2_1 ((n - 0) + 1) 0 (Nat.lt_succ_self _) (by omega) H locs hP hS ls hl9
set_option maxHeartbeats 4000000 in
set_option maxRecDepth 100000 in
theorem c_X0_start (l : Launch) (D : va_G) (cI cZ cL cO : ClassId) (a : Nat → Nat) (n pl nw ns : Nat) (σ κ : Nat → Nat → Int32) (H : Heap) (A : Nat → Prop) (hA : okP A a 24) (hB : n ≤ 10 ∧ pl ≤ 200 ∧ nw ≤ 20 ∧ ns ≤ 6) : Met l yX0_start wsX0_start ({ frames := 1, cells := 0, slots := 0, locals := 23 } : Room) (ro_P D (T4 cI cZ cL cO) (wP cI cZ a n pl nw ns σ κ) H [.ref (a 0)]) (mu_Q D (wP cI cZ a n pl nw ns (stF nw σ) κ) A) 0 0 A := by
  refine mu_of (cc := cX0_start) (maxL := 2) (by decide) rfl (Nat.le_of_ble_eq_true rfl) ?_
  intro p e s m args below meth c Q ls locs hx hb hml hown hts hK hE hP hl hS hEnd
  have hl : lv_has ls 2 [(0, .ref (a 0))] := hl
  have hX0 : ∀ w ∈ wsX00, w.before args s = true := fun w h => hts w (List.mem_cons_of_mem _ (List.mem_append_left _ (List.mem_append_right _ (h))))
  have hX1 : ∀ w ∈ wsX10, w.before args s = true := fun w h => hts w (List.mem_cons_of_mem _ (List.mem_append_right _ (h)))
  have f58 : (Cond.fieldLink RX0 58 "LanternWalk$Parade" "setting" "LLanternWalk$Setting;").before args s = true := hts _ (List.mem_of_getElem? (i := 1) rfl)
  have f92 : (Cond.fieldLink RX0 92 "LanternWalk$Setting" "walkers" "I").before args s = true := hts _ (List.mem_of_getElem? (i := 2) rfl)
  have f28 : (Cond.fieldLink RX0 28 "LanternWalk$Parade" "stage" "[I").before args s = true := hts _ (List.mem_of_getElem? (i := 3) rfl)
  have f31 : (Cond.fieldLink RX0 31 "LanternWalk$Parade" "place" "[I").before args s = true := hts _ (List.mem_of_getElem? (i := 4) rfl)
  refine lv_iconst (v := nI 0) hx hb dX0_start_0 rfl ?_
  refine lv_istore_n (lv' := [(1, .int (nI 0)), (0, .ref (a 0))]) hx hb dX0_start_1 rfl hl (by decide) rfl (fun ls hl => ?_)
  have L2_1 : ∀ (fuel : Nat) (k : Nat), (nw - k) < fuel → (k ≤ nw) → ∀ (G : Heap) (locs : List Loc), va_P D vwCl (wP cI cZ a n pl nw ns (foldN (st1 nw) k σ) κ) G → va_S A H G locs → ∀ (ls : Array Slot), lv_has ls 2 [(1, .int (nI k)), (0, .ref (a 0))] → W p l e ({ frames := 1, cells := 0, slots := 0, locals := 23 } : Room) s m args below meth c G locs 0 0 Q (F0 m 2 ls []) := by
    intro fuel
    induction fuel with
    | zero =>
      intro k hfuel
      exact absurd hfuel (Nat.not_lt_zero _)
    | succ fuel ih2 =>
      intro k hfuel2 hk G locs hP hS ls hl
      refine lv_iload_n hx hb dX0_start_2 rfl (lv_at hl 0 rfl) ?_
      refine lv_aload_n hx hb dX0_start_3 rfl (lv_at hl 1 rfl) ?_
      refine li_gf0 hx hb hX0 hown hK hP 0 rfl 0 (by decide) f58 rfl dX0_start_4 ?_
      refine li_gf1 hx hb hX1 hown hK hP 16 rfl 6 (by decide) f92 rfl dX0_start_7 ?_
      refine li_ge (tgt := 51) hx hb dX0_start_10 (by decide) (by first | omega | (have := wa_le (σ := foldN (st1 nw) k σ) (nw := nw) (z := nI 0); omega)) (by first | omega | (have := wa_le (σ := foldN (st1 nw) k σ) (nw := nw) (z := nI 0); omega)) (fun c2 => ?_) (fun c2 => ?_)
      · skip
        have hw9 : foldN (st1 nw) k σ = stF nw σ := by rw [show k = nw by omega]; rfl
        have hP : va_P D vwCl (wP cI cZ a n pl nw ns (stF nw σ) κ) G := Eq.mp (congrArg (fun z9 => va_P D vwCl (wP cI cZ a n pl nw ns z9 κ) G) hw9) hP
        clear hw9
        exact hEnd 51 ls G locs dX0_start_51 hP hS
      · skip
        refine lv_aload_n hx hb dX0_start_13 rfl (lv_at hl 1 rfl) ?_
        refine li_gf0 hx hb hX0 hown hK hP 0 rfl 7 (by decide) f28 rfl dX0_start_14 ?_
        refine lv_iload_n hx hb dX0_start_17 rfl (lv_at hl 0 rfl) ?_
        refine li_ild hx hb hK hP 6 0 rfl rfl (by omega) (by decide) dX0_start_18 ?_
        refine lv_if_ne (tgt := 45) hx hb dX0_start_19 (by decide) (fun c3 => ?_) (fun c3 => ?_)
        · skip
          refine lv_iinc (v := nI (k + 1)) (lv' := [(1, .int (nI (k + 1))), (0, .ref (a 0))]) hx hb dX0_start_45 hl (k := 0) rfl (nI_inc _ _) (by decide) rfl (fun ls hl => ?_)
          refine lv_goto (tgt := 2) hx hb dX0_start_48 (by decide) ?_
          have hw9 : foldN (st1 nw) k σ = foldN (st1 nw) (k + 1) σ := by first | exact (st1_0 (by assumption)).symm | exact (st1_2 (by assumption)).symm | exact (st1_a (by assumption) (by assumption)).symm
          have hP : va_P D vwCl (wP cI cZ a n pl nw ns (foldN (st1 nw) (k + 1) σ) κ) G := Eq.mp (congrArg (fun z9 => va_P D vwCl (wP cI cZ a n pl nw ns z9 κ) G) hw9) hP
          clear hw9
          have hl9 : lv_has ls 2 [(1, .int (nI (k + 1))), (0, .ref (a 0))] := lv_sub hl [0, 1] rfl
          exact ih2 (k + 1) (by omega) (by omega) G locs hP hS ls hl9
        · skip
          refine lv_aload_n hx hb dX0_start_22 rfl (lv_at hl 1 rfl) ?_
          refine lv_iconst (v := nI 0) hx hb dX0_start_23 rfl ?_
          refine roV (As := [.int (nI 0)]) (q0 := 0) (ci := 0) hx hb hml hown hts (c_X0_walkersAt l D cI cZ cL cO a n pl nw ns (foldN (st1 nw) k σ) κ G (nI 0) (hB)) (cwV 1 hts gX0_start_X0_walkersAt rfl rfl rfl (by decide +kernel) ⟨by decide, by decide⟩) hK hE hP rfl rfl rfl rfl hl.1 rfl (Nat.le_of_ble_eq_true rfl) hS dX0_start_24 ⟨Nat.zero_le _, Nat.zero_le _⟩ (fun locs hS => ?_)
          refine lv_iconst (v := nI 2) hx hb dX0_start_27 rfl ?_
          refine li_ge (tgt := 45) hx hb dX0_start_28 (by decide) (by first | omega | (have := wa_le (σ := foldN (st1 nw) k σ) (nw := nw) (z := nI 0); omega)) (by first | omega | (have := wa_le (σ := foldN (st1 nw) k σ) (nw := nw) (z := nI 0); omega)) (fun c4 => ?_) (fun c4 => ?_)
          · skip
            refine lv_iinc (v := nI (k + 1)) (lv' := [(1, .int (nI (k + 1))), (0, .ref (a 0))]) hx hb dX0_start_45 hl (k := 0) rfl (nI_inc _ _) (by decide) rfl (fun ls hl => ?_)
            refine lv_goto (tgt := 2) hx hb dX0_start_48 (by decide) ?_
            have hw9 : foldN (st1 nw) k σ = foldN (st1 nw) (k + 1) σ := by first | exact (st1_0 (by assumption)).symm | exact (st1_2 (by assumption)).symm | exact (st1_a (by assumption) (by assumption)).symm
            have hP : va_P D vwCl (wP cI cZ a n pl nw ns (foldN (st1 nw) (k + 1) σ) κ) G := Eq.mp (congrArg (fun z9 => va_P D vwCl (wP cI cZ a n pl nw ns z9 κ) G) hw9) hP
            clear hw9
            have hl9 : lv_has ls 2 [(1, .int (nI (k + 1))), (0, .ref (a 0))] := lv_sub hl [0, 1] rfl
            exact ih2 (k + 1) (by omega) (by omega) G locs hP hS ls hl9
          · skip
            refine lv_aload_n hx hb dX0_start_31 rfl (lv_at hl 1 rfl) ?_
            refine li_gf0 hx hb hX0 hown hK hP 0 rfl 7 (by decide) f28 rfl dX0_start_32 ?_
            refine lv_iload_n hx hb dX0_start_35 rfl (lv_at hl 0 rfl) ?_
            refine lv_iconst (v := nI 1) hx hb dX0_start_36 rfl ?_
            refine li_ist hx hb hK hP hA.D hS 6 0 rfl rfl (by omega) (by decide) stP_12 dX0_start_37 (fun G locs hP hS => ?_)
            refine lv_aload_n hx hb dX0_start_38 rfl (lv_at hl 1 rfl) ?_
            refine li_gf0 hx hb hX0 hown hK hP 0 rfl 8 (by decide) f31 rfl dX0_start_39 ?_
            refine lv_iload_n hx hb dX0_start_42 rfl (lv_at hl 0 rfl) ?_
            refine lv_iconst (v := nI 0) hx hb dX0_start_43 rfl ?_
            refine li_ist hx hb hK hP hA.D hS 7 0 rfl rfl (by omega) (by decide) stP_13 dX0_start_44 (fun G locs hP hS => ?_)
            refine lv_iinc (v := nI (k + 1)) (lv' := [(1, .int (nI (k + 1))), (0, .ref (a 0))]) hx hb dX0_start_45 hl (k := 0) rfl (nI_inc _ _) (by decide) rfl (fun ls hl => ?_)
            refine lv_goto (tgt := 2) hx hb dX0_start_48 (by decide) ?_
            have hw9 : up2 (up2 (foldN (st1 nw) k σ) 12 k (nI 1)) 13 k (nI 0) = foldN (st1 nw) (k + 1) σ := by first | exact (st1_0 (by assumption)).symm | exact (st1_2 (by assumption)).symm | exact (st1_a (by assumption) (by assumption)).symm
            have hP : va_P D vwCl (wP cI cZ a n pl nw ns (foldN (st1 nw) (k + 1) σ) κ) G := Eq.mp (congrArg (fun z9 => va_P D vwCl (wP cI cZ a n pl nw ns z9 κ) G) hw9) hP
            clear hw9
            have hl9 : lv_has ls 2 [(1, .int (nI (k + 1))), (0, .ref (a 0))] := lv_sub hl [0, 1] rfl
            exact ih2 (k + 1) (by omega) (by omega) G locs hP hS ls hl9
  have hw9 : σ = foldN (st1 nw) 0 σ := rfl
  have hP : va_P D vwCl (wP cI cZ a n pl nw ns (foldN (st1 nw) 0 σ) κ) H := Eq.mp (congrArg (fun z9 => va_P D vwCl (wP cI cZ a n pl nw ns z9 κ) H) hw9) hP
  clear hw9
  have hl9 : lv_has ls 2 [(1, .int (nI 0)), (0, .ref (a 0))] := lv_sub hl [0, 1] rfl
  exact L2_1 ((nw - 0) + 1) 0 (Nat.lt_succ_self _) (by omega) H locs hP hS ls hl9
set_option maxHeartbeats 4000000 in
set_option maxRecDepth 100000 in
theorem c_X0_takeStep (l : Launch) (D : va_G) (cI cZ cL cO : ClassId) (a : Nat → Nat) (n pl nw ns : Nat) (σ κ : Nat → Nat → Int32) (H : Heap) (A : Nat → Prop) (hA : okP A a 24) (hB : n ≤ 10 ∧ pl ≤ 200 ∧ nw ≤ 20 ∧ ns ≤ 6) (t : Nat) (hok : okS nw t σ) (ht : t < 2 ^ 31) : Met l yX0_takeStep wsX0_takeStep ({ frames := 4, cells := 0, slots := 0, locals := 92 } : Room) (ro_P D (T4 cI cZ cL cO) (wP cI cZ a n pl nw ns σ κ) H [.ref (a 0)]) (mu_Q D (wP cI cZ a n pl nw ns ((tsF n pl nw ns (σ, κ)).1) ((tsF n pl nw ns (σ, κ)).2)) A) 0 0 A := by
  refine mu_of (cc := cX0_takeStep) (maxL := 2) (by decide) rfl (Nat.le_of_ble_eq_true rfl) ?_
  intro p e s m args below meth c Q ls locs hx hb hml hown hts hK hE hP hl hS hEnd
  have hl : lv_has ls 2 [(0, .ref (a 0))] := hl
  have hX0 : ∀ w ∈ wsX00, w.before args s = true := fun w h => hts w (List.mem_cons_of_mem _ (List.mem_append_left _ (List.mem_append_right _ (h))))
  have hX1 : ∀ w ∈ wsX10, w.before args s = true := fun w h => hts w (List.mem_cons_of_mem _ (List.mem_append_right _ (h)))
  have f58 : (Cond.fieldLink RX0 58 "LanternWalk$Parade" "setting" "LLanternWalk$Setting;").before args s = true := hts _ (List.mem_of_getElem? (i := 1) rfl)
  have f130 : (Cond.fieldLink RX0 130 "LanternWalk$Setting" "wind" "[I").before args s = true := hts _ (List.mem_of_getElem? (i := 2) rfl)
  have f68 : (Cond.fieldLink RX0 68 "LanternWalk$Parade" "step" "I").before args s = true := hts _ (List.mem_of_getElem? (i := 3) rfl)
  refine lv_aload_n hx hb dX0_takeStep_0 rfl (lv_at hl 0 rfl) ?_
  refine li_gf0 hx hb hX0 hown hK hP 0 rfl 0 (by decide) f58 rfl dX0_takeStep_1 ?_
  refine li_gf1 hx hb hX1 hown hK hP 16 rfl 5 (by decide) f130 rfl dX0_takeStep_4 ?_
  refine lv_aload_n hx hb dX0_takeStep_7 rfl (lv_at hl 0 rfl) ?_
  refine li_gf0 hx hb hX0 hown hK hP 0 rfl 1 (by decide) f68 rfl dX0_takeStep_8 ?_
  refine li_topi (show σ 17 0 = nI t from hok.2.2) ?_
  refine lv_bipush (v := nI 10) hx hb dX0_takeStep_11 rfl ?_
  refine roS (As := [.int (nI t), .int (nI 10)]) hx hb hml hown hts (c_J9_floorMod_7cf53 l D cI cZ cL cO H t 10 (by omega) (by omega) (by omega)) (va_cwS 2 hts gX0_takeStep_J9_floorMod_7cf53 rfl rfl rfl (by decide +kernel) ⟨by decide, by decide⟩) hK hE (hP.sub (ws' := []) [] rfl) rfl hl.1 rfl (Nat.le_of_ble_eq_true rfl) hS dX0_takeStep_13 ⟨Nat.zero_le _, Nat.zero_le _⟩ (fun locs hS => ?_)
  have hwd : windOf σ = σ 3 (t % 10) := by unfold windOf; rw [hok.2.2, nN_nI ht]
  refine li_ild hx hb hK hP 20 0 rfl rfl (by omega) (by decide) dX0_takeStep_16 ?_
  refine li_topi (show σ 3 (t % 10) = windOf σ from hwd.symm) ?_
  refine lv_istore_n (lv' := [(1, .int (windOf σ)), (0, .ref (a 0))]) hx hb dX0_takeStep_17 rfl hl (by decide) rfl (fun ls hl => ?_)
  refine lv_aload_n hx hb dX0_takeStep_18 rfl (lv_at hl 1 rfl) ?_
  refine lv_iload_n hx hb dX0_takeStep_19 rfl (lv_at hl 0 rfl) ?_
  refine muV (As := [.int (windOf σ)]) (q0 := 0) (ci := 0) hx hb hml hown hts (c_X0_burnDown l D cI cZ cL cO a n pl nw ns σ κ H (windOf σ) A hA (hB)) (cwV 1 hts gX0_takeStep_X0_burnDown rfl rfl rfl (by decide +kernel) ⟨by decide, by decide⟩) hK hE hP rfl rfl rfl rfl hl.1 rfl (Nat.le_of_ble_eq_true rfl) hS (fun _ h => h) dX0_takeStep_20 ⟨Nat.zero_le _, Nat.zero_le _⟩ (fun G locs hP _ _ hS => ?_)
  refine lv_aload_n hx hb dX0_takeStep_23 rfl (lv_at hl 1 rfl) ?_
  refine lv_iload_n hx hb dX0_takeStep_24 rfl (lv_at hl 0 rfl) ?_
  refine muV (As := [.int (windOf σ)]) (q0 := 0) (ci := 0) hx hb hml hown hts (c_X0_blowOut l D cI cZ cL cO a n pl nw ns (bdF (windOf σ) nw σ) κ G (windOf σ) A hA (hB)) (cwV 1 hts gX0_takeStep_X0_blowOut rfl rfl rfl (by decide +kernel) ⟨by decide, by decide⟩) hK hE hP rfl rfl rfl rfl hl.1 rfl (Nat.le_of_ble_eq_true rfl) hS (fun _ h => h) dX0_takeStep_25 ⟨Nat.zero_le _, Nat.zero_le _⟩ (fun G locs hP _ _ hS => ?_)
  refine lv_aload_n hx hb dX0_takeStep_28 rfl (lv_at hl 1 rfl) ?_
  refine muV (As := []) (q0 := 0) (ci := 0) hx hb hml hown hts (c_X0_lightEachOther l D cI cZ cL cO a n pl nw ns (boF (windOf σ) nw (bdF (windOf σ) nw σ)) κ G A hA (hB) (boF_bz (bdF_bz hok.1))) (cwV 0 hts gX0_takeStep_X0_lightEachOther rfl rfl rfl (by decide +kernel) ⟨by decide, by decide⟩) hK hE hP rfl rfl rfl rfl hl.1 rfl (Nat.le_of_ble_eq_true rfl) hS (fun _ h => h) dX0_takeStep_29 ⟨Nat.zero_le _, Nat.zero_le _⟩ (fun G locs hP _ _ hS => ?_)
  refine lv_aload_n hx hb dX0_takeStep_32 rfl (lv_at hl 1 rfl) ?_
  refine muV (As := []) (q0 := 0) (ci := 0) hx hb hml hown hts (c_X0_singToEachOther l D cI cZ cL cO a n pl nw ns ((leF nw ((boF (windOf σ) nw (bdF (windOf σ) nw σ)), κ)).1) ((leF nw ((boF (windOf σ) nw (bdF (windOf σ) nw σ)), κ)).2) G A hA (hB)) (cwV 0 hts gX0_takeStep_X0_singToEachOther rfl rfl rfl (by decide +kernel) ⟨by decide, by decide⟩) hK hE hP rfl rfl rfl rfl hl.1 rfl (Nat.le_of_ble_eq_true rfl) hS (fun _ h => h) dX0_takeStep_33 ⟨Nat.zero_le _, Nat.zero_le _⟩ (fun G locs hP _ _ hS => ?_)
  refine lv_aload_n hx hb dX0_takeStep_36 rfl (lv_at hl 1 rfl) ?_
  refine muV (As := []) (q0 := 0) (ci := 0) hx hb hml hown hts (c_X0_goOn l D cI cZ cL cO a n pl nw ns ((sgF nw ns (((leF nw ((boF (windOf σ) nw (bdF (windOf σ) nw σ)), κ)).1), ((leF nw ((boF (windOf σ) nw (bdF (windOf σ) nw σ)), κ)).2))).1) ((sgF nw ns (((leF nw ((boF (windOf σ) nw (bdF (windOf σ) nw σ)), κ)).1), ((leF nw ((boF (windOf σ) nw (bdF (windOf σ) nw σ)), κ)).2))).2) G A hA (hB) (pace_t1 (ns := ns) (q := (σ, κ)) hok)) (cwV 0 hts gX0_takeStep_X0_goOn rfl rfl rfl (by decide +kernel) ⟨by decide, by decide⟩) hK hE hP rfl rfl rfl rfl hl.1 rfl (Nat.le_of_ble_eq_true rfl) hS (fun _ h => h) dX0_takeStep_37 ⟨Nat.zero_le _, Nat.zero_le _⟩ (fun G locs hP _ _ hS => ?_)
  refine lv_aload_n hx hb dX0_takeStep_40 rfl (lv_at hl 1 rfl) ?_
  refine muV (As := []) (q0 := 0) (ci := 0) hx hb hml hown hts (c_X0_start l D cI cZ cL cO a n pl nw ns ((goF n pl nw (((sgF nw ns (((leF nw ((boF (windOf σ) nw (bdF (windOf σ) nw σ)), κ)).1), ((leF nw ((boF (windOf σ) nw (bdF (windOf σ) nw σ)), κ)).2))).1), ((sgF nw ns (((leF nw ((boF (windOf σ) nw (bdF (windOf σ) nw σ)), κ)).1), ((leF nw ((boF (windOf σ) nw (bdF (windOf σ) nw σ)), κ)).2))).2))).1) ((goF n pl nw (((sgF nw ns (((leF nw ((boF (windOf σ) nw (bdF (windOf σ) nw σ)), κ)).1), ((leF nw ((boF (windOf σ) nw (bdF (windOf σ) nw σ)), κ)).2))).1), ((sgF nw ns (((leF nw ((boF (windOf σ) nw (bdF (windOf σ) nw σ)), κ)).1), ((leF nw ((boF (windOf σ) nw (bdF (windOf σ) nw σ)), κ)).2))).2))).2) G A hA (hB)) (cwV 0 hts gX0_takeStep_X0_start rfl rfl rfl (by decide +kernel) ⟨by decide, by decide⟩) hK hE hP rfl rfl rfl rfl hl.1 rfl (Nat.le_of_ble_eq_true rfl) hS (fun _ h => h) dX0_takeStep_41 ⟨Nat.zero_le _, Nat.zero_le _⟩ (fun G locs hP _ _ hS => ?_)
  refine lv_aload_n hx hb dX0_takeStep_44 rfl (lv_at hl 1 rfl) ?_
  refine lv_dup hx hb dX0_takeStep_45 rfl ?_
  refine li_gf0 hx hb hX0 hown hK hP 0 rfl 1 (by decide) f68 rfl dX0_takeStep_46 ?_
  refine lv_iconst (v := nI 1) hx hb dX0_takeStep_49 rfl ?_
  refine lv_iadd hx hb dX0_takeStep_50 ?_
  refine li_pf0 hx hb hX0 hown hK hP hA.D hS 0 rfl 1 (by decide) f68 rfl rfl rfl (Nat.le_of_ble_eq_true rfl) stP_17 dX0_takeStep_51 (fun G locs hP hS => ?_)
  have hw9 : up2 (stF nw ((goF n pl nw (((sgF nw ns (((leF nw ((boF (windOf σ) nw (bdF (windOf σ) nw σ)), κ)).1), ((leF nw ((boF (windOf σ) nw (bdF (windOf σ) nw σ)), κ)).2))).1), ((sgF nw ns (((leF nw ((boF (windOf σ) nw (bdF (windOf σ) nw σ)), κ)).1), ((leF nw ((boF (windOf σ) nw (bdF (windOf σ) nw σ)), κ)).2))).2))).1)) 17 0 (((stF nw ((goF n pl nw (((sgF nw ns (((leF nw ((boF (windOf σ) nw (bdF (windOf σ) nw σ)), κ)).1), ((leF nw ((boF (windOf σ) nw (bdF (windOf σ) nw σ)), κ)).2))).1), ((sgF nw ns (((leF nw ((boF (windOf σ) nw (bdF (windOf σ) nw σ)), κ)).1), ((leF nw ((boF (windOf σ) nw (bdF (windOf σ) nw σ)), κ)).2))).2))).1)) 17 0) + (nI 1)) = (tsF n pl nw ns (σ, κ)).1 := rfl
  have hP : va_P D vwCl (wP cI cZ a n pl nw ns ((tsF n pl nw ns (σ, κ)).1) ((goF n pl nw (((sgF nw ns (((leF nw ((boF (windOf σ) nw (bdF (windOf σ) nw σ)), κ)).1), ((leF nw ((boF (windOf σ) nw (bdF (windOf σ) nw σ)), κ)).2))).1), ((sgF nw ns (((leF nw ((boF (windOf σ) nw (bdF (windOf σ) nw σ)), κ)).1), ((leF nw ((boF (windOf σ) nw (bdF (windOf σ) nw σ)), κ)).2))).2))).2)) G := Eq.mp (congrArg (fun z9 => va_P D vwCl (wP cI cZ a n pl nw ns z9 ((goF n pl nw (((sgF nw ns (((leF nw ((boF (windOf σ) nw (bdF (windOf σ) nw σ)), κ)).1), ((leF nw ((boF (windOf σ) nw (bdF (windOf σ) nw σ)), κ)).2))).1), ((sgF nw ns (((leF nw ((boF (windOf σ) nw (bdF (windOf σ) nw σ)), κ)).1), ((leF nw ((boF (windOf σ) nw (bdF (windOf σ) nw σ)), κ)).2))).2))).2)) G) hw9) hP
  clear hw9
  have hw9 : (goF n pl nw (((sgF nw ns (((leF nw ((boF (windOf σ) nw (bdF (windOf σ) nw σ)), κ)).1), ((leF nw ((boF (windOf σ) nw (bdF (windOf σ) nw σ)), κ)).2))).1), ((sgF nw ns (((leF nw ((boF (windOf σ) nw (bdF (windOf σ) nw σ)), κ)).1), ((leF nw ((boF (windOf σ) nw (bdF (windOf σ) nw σ)), κ)).2))).2))).2 = (tsF n pl nw ns (σ, κ)).2 := rfl
  have hP : va_P D vwCl (wP cI cZ a n pl nw ns ((tsF n pl nw ns (σ, κ)).1) ((tsF n pl nw ns (σ, κ)).2)) G := Eq.mp (congrArg (fun z9 => va_P D vwCl (wP cI cZ a n pl nw ns ((tsF n pl nw ns (σ, κ)).1) z9) G) hw9) hP
  clear hw9
  exact hEnd 54 ls G locs dX0_takeStep_54 hP hS
set_option maxHeartbeats 4000000 in
set_option maxRecDepth 100000 in
theorem c_X0_takeSteps (l : Launch) (D : va_G) (cI cZ cL cO : ClassId) (a : Nat → Nat) (n pl nw ns : Nat) (σ κ : Nat → Nat → Int32) (H : Heap) (m9 : Nat) (A : Nat → Prop) (hA : okP A a 24) (hB : n ≤ 10 ∧ pl ≤ 200 ∧ nw ≤ 20 ∧ ns ≤ 6) (t : Nat) (hok : okS nw t σ) (ht : t + m9 < 2 ^ 31) : Met l yX0_takeSteps wsX0_takeSteps ({ frames := 5, cells := 0, slots := 0, locals := 113 } : Room) (ro_P D (T4 cI cZ cL cO) (wP cI cZ a n pl nw ns σ κ) H [.ref (a 0), .int (nI m9)]) (mu_Q D (wP cI cZ a n pl nw ns ((tsN n pl nw ns m9 (σ, κ)).1) ((tsN n pl nw ns m9 (σ, κ)).2)) A) 0 0 A := by
  refine mu_of (cc := cX0_takeSteps) (maxL := 3) (by decide) rfl (Nat.le_of_ble_eq_true rfl) ?_
  intro p e s m args below meth c Q ls locs hx hb hml hown hts hK hE hP hl hS hEnd
  have hl : lv_has ls 3 [(0, .ref (a 0)), (1, .int (nI m9))] := hl
  refine lv_iconst (v := nI 0) hx hb dX0_takeSteps_0 rfl ?_
  refine lv_istore_n (lv' := [(2, .int (nI 0)), (0, .ref (a 0)), (1, .int (nI m9))]) hx hb dX0_takeSteps_1 rfl hl (by decide) rfl (fun ls hl => ?_)
  have L2_1 : ∀ (fuel : Nat) (k : Nat), (m9 - k) < fuel → (k ≤ m9) → ∀ (G : Heap) (locs : List Loc), va_P D vwCl (wP cI cZ a n pl nw ns ((tsN n pl nw ns k (σ, κ)).1) ((tsN n pl nw ns k (σ, κ)).2)) G → va_S A H G locs → ∀ (ls : Array Slot), lv_has ls 3 [(2, .int (nI k)), (0, .ref (a 0)), (1, .int (nI m9))] → W p l e ({ frames := 5, cells := 0, slots := 0, locals := 113 } : Room) s m args below meth c G locs 0 0 Q (F0 m 2 ls []) := by
    intro fuel
    induction fuel with
    | zero =>
      intro k hfuel
      exact absurd hfuel (Nat.not_lt_zero _)
    | succ fuel ih2 =>
      intro k hfuel2 hk G locs hP hS ls hl
      refine lv_iload_n hx hb dX0_takeSteps_2 rfl (lv_at hl 0 rfl) ?_
      refine lv_iload_n hx hb dX0_takeSteps_3 rfl (lv_at hl 2 rfl) ?_
      refine li_ge (tgt := 17) hx hb dX0_takeSteps_4 (by decide) (by omega) (by omega) (fun c2 => ?_) (fun c2 => ?_)
      · skip
        have hw9 : (tsN n pl nw ns k (σ, κ)).1 = (tsN n pl nw ns m9 (σ, κ)).1 := by rw [show k = m9 by omega]
        have hP : va_P D vwCl (wP cI cZ a n pl nw ns ((tsN n pl nw ns m9 (σ, κ)).1) ((tsN n pl nw ns k (σ, κ)).2)) G := Eq.mp (congrArg (fun z9 => va_P D vwCl (wP cI cZ a n pl nw ns z9 ((tsN n pl nw ns k (σ, κ)).2)) G) hw9) hP
        clear hw9
        have hw9 : (tsN n pl nw ns k (σ, κ)).2 = (tsN n pl nw ns m9 (σ, κ)).2 := by rw [show k = m9 by omega]
        have hP : va_P D vwCl (wP cI cZ a n pl nw ns ((tsN n pl nw ns m9 (σ, κ)).1) ((tsN n pl nw ns m9 (σ, κ)).2)) G := Eq.mp (congrArg (fun z9 => va_P D vwCl (wP cI cZ a n pl nw ns ((tsN n pl nw ns m9 (σ, κ)).1) z9) G) hw9) hP
        clear hw9
        exact hEnd 17 ls G locs dX0_takeSteps_17 hP hS
      · skip
        refine lv_aload_n hx hb dX0_takeSteps_7 rfl (lv_at hl 1 rfl) ?_
        refine muV (As := []) (q0 := 0) (ci := 0) hx hb hml hown hts (c_X0_takeStep l D cI cZ cL cO a n pl nw ns ((tsN n pl nw ns k (σ, κ)).1) ((tsN n pl nw ns k (σ, κ)).2) G A hA (hB) (t + k) (tsN_ok hok k) (by omega)) (cwV 0 hts gX0_takeSteps_X0_takeStep rfl rfl rfl (by decide +kernel) ⟨by decide, by decide⟩) hK hE hP rfl rfl rfl rfl hl.1 rfl (Nat.le_of_ble_eq_true rfl) hS (fun _ h => h) dX0_takeSteps_8 ⟨Nat.zero_le _, Nat.zero_le _⟩ (fun G locs hP _ _ hS => ?_)
        refine lv_iinc (v := nI (k + 1)) (lv' := [(2, .int (nI (k + 1))), (0, .ref (a 0)), (1, .int (nI m9))]) hx hb dX0_takeSteps_11 hl (k := 0) rfl (nI_inc _ _) (by decide) rfl (fun ls hl => ?_)
        refine lv_goto (tgt := 2) hx hb dX0_takeSteps_14 (by decide) ?_
        have hw9 : (tsF n pl nw ns (((tsN n pl nw ns k (σ, κ)).1), ((tsN n pl nw ns k (σ, κ)).2))).1 = (tsN n pl nw ns (k + 1) (σ, κ)).1 := rfl
        have hP : va_P D vwCl (wP cI cZ a n pl nw ns ((tsN n pl nw ns (k + 1) (σ, κ)).1) ((tsF n pl nw ns (((tsN n pl nw ns k (σ, κ)).1), ((tsN n pl nw ns k (σ, κ)).2))).2)) G := Eq.mp (congrArg (fun z9 => va_P D vwCl (wP cI cZ a n pl nw ns z9 ((tsF n pl nw ns (((tsN n pl nw ns k (σ, κ)).1), ((tsN n pl nw ns k (σ, κ)).2))).2)) G) hw9) hP
        clear hw9
        have hw9 : (tsF n pl nw ns (((tsN n pl nw ns k (σ, κ)).1), ((tsN n pl nw ns k (σ, κ)).2))).2 = (tsN n pl nw ns (k + 1) (σ, κ)).2 := rfl
        have hP : va_P D vwCl (wP cI cZ a n pl nw ns ((tsN n pl nw ns (k + 1) (σ, κ)).1) ((tsN n pl nw ns (k + 1) (σ, κ)).2)) G := Eq.mp (congrArg (fun z9 => va_P D vwCl (wP cI cZ a n pl nw ns ((tsN n pl nw ns (k + 1) (σ, κ)).1) z9) G) hw9) hP
        clear hw9
        have hl9 : lv_has ls 3 [(2, .int (nI (k + 1))), (0, .ref (a 0)), (1, .int (nI m9))] := lv_sub hl [0, 1, 2] rfl
        exact ih2 (k + 1) (by omega) (by omega) G locs hP hS ls hl9
  have hw9 : σ = (tsN n pl nw ns 0 (σ, κ)).1 := rfl
  have hP : va_P D vwCl (wP cI cZ a n pl nw ns ((tsN n pl nw ns 0 (σ, κ)).1) κ) H := Eq.mp (congrArg (fun z9 => va_P D vwCl (wP cI cZ a n pl nw ns z9 κ) H) hw9) hP
  clear hw9
  have hw9 : κ = (tsN n pl nw ns 0 (σ, κ)).2 := rfl
  have hP : va_P D vwCl (wP cI cZ a n pl nw ns ((tsN n pl nw ns 0 (σ, κ)).1) ((tsN n pl nw ns 0 (σ, κ)).2)) H := Eq.mp (congrArg (fun z9 => va_P D vwCl (wP cI cZ a n pl nw ns ((tsN n pl nw ns 0 (σ, κ)).1) z9) H) hw9) hP
  clear hw9
  have hl9 : lv_has ls 3 [(2, .int (nI 0)), (0, .ref (a 0)), (1, .int (nI m9))] := lv_sub hl [0, 1, 2] rfl
  exact L2_1 ((m9 - 0) + 1) 0 (Nat.lt_succ_self _) (by omega) H locs hP hS ls hl9
