/-! the model: going -/
set_option maxHeartbeats 4000000 in
set_option maxRecDepth 100000 in
theorem c_X3_go (l : Launch) (D : va_G) (cI cZ cL cO : ClassId) (a : Nat → Nat) (th : Int32) (n nw ns : Nat) (σ η : Sg) (H : Heap) (w : Nat) (A : Nat → Prop) (hA : okP A a 13) (hB : n ≤ 10 ∧ nw ≤ 20 ∧ ns ≤ 6) (pl : Nat) (κ : Sg) (hpl : pl ≤ 200) (hw : w < nw) (hη : η 2 = thr σ κ) (hRF : RF n pl σ) (hPB : PB pl nw σ) (hz : bz σ) (hpc : σ 4 w = nI (nN (σ 4 w)) ∧ 1 ≤ nN (σ 4 w) ∧ nN (σ 4 w) ≤ 3) (hTH : TH n σ κ) (hwk : σ 12 w = nI 1) : Met l yX3_go wsX3_go ({ frames := 3, cells := 0, slots := 0, locals := 66 } : Room) (ro_P D (T4 cI cZ cL cO) (wM cI cZ a th n nw ns σ η) H [.ref (a 0), .int (nI w)]) (mu_Q D (wM cI cZ a th n nw ns ((wl n pl nw w (wkP w σ) (true, (σ, κ))).2.1) (thE σ η (wl n pl nw w (wkP w σ) (true, (σ, κ))).2.2)) A) 0 0 A := by
  refine mu_of (cc := cX3_go) (maxL := 7) (by decide) rfl (Nat.le_of_ble_eq_true rfl) ?_
  intro p e s m args below meth c Q ls locs hx hb hml hown hts hK hE hP hl hS hEnd
  have hl : lv_has ls 7 [(0, .ref (a 0)), (1, .int (nI w))] := hl
  have hX3 : ∀ w ∈ wsX30, w.before args s = true := fun w h => hts w (List.mem_cons_of_mem _ (List.mem_append_right _ (h)))
  have g0 : (Cond.methodLink RX3 135 Lib.Math.max.name).before args s = true := hts _ (List.mem_of_getElem? (i := 1) rfl)
  have g1 : (Cond.static Lib.Math.max.name).before args s = true := hts _ (List.mem_of_getElem? (i := 2) rfl)
  have g2 : (Cond.initialized "java/lang/Math").before args s = true := hts _ (List.mem_of_getElem? (i := 3) rfl)
  have g3 : (Cond.code Lib.Math.max.name Lib.Math.max.code 2 (some .int)).before args s = true := hts _ (List.mem_of_getElem? (i := 4) rfl)
  have f38 : (Cond.fieldLink RX3 38 "LanternWalkModel" "through" "[I").before args s = true := hts _ (List.mem_of_getElem? (i := 5) rfl)
  have f9 : (Cond.fieldLink RX3 9 "LanternWalkModel" "route" "[I").before args s = true := hts _ (List.mem_of_getElem? (i := 6) rfl)
  have f28 : (Cond.fieldLink RX3 28 "LanternWalkModel" "step" "[I").before args s = true := hts _ (List.mem_of_getElem? (i := 7) rfl)
  refine lv_aload_n hx hb dX3_go_0 rfl (lv_at hl 0 rfl) ?_
  refine lv_iload_n hx hb dX3_go_1 rfl (lv_at hl 1 rfl) ?_
  refine lv_iconst (v := nI 3) hx hb dX3_go_2 rfl ?_
  refine roV (As := [.int (nI w), .int (nI 3)]) (q0 := 0) (ci := 3) hx hb hml hown hts (c_X3_pe l D cI cZ cL cO a th n nw ns σ η H w 3 (hB) (by omega) (by omega)) (cwV 2 hts gX3_go_X3_pe rfl rfl rfl (by decide +kernel) ⟨by decide, by decide⟩) hK hE hP rfl rfl rfl rfl hl.1 rfl (Nat.le_of_ble_eq_true rfl) hS dX3_go_3 ⟨Nat.zero_le _, Nat.zero_le _⟩ (fun locs hS => ?_)
  refine li_topi (show σ (pid 3) w = σ 11 w from rfl) ?_
  refine lv_iconst (v := nI 1) hx hb dX3_go_6 rfl ?_
  refine lv_icmp_ne (tgt := 19) hx hb dX3_go_7 (by decide) (fun c1 => ?_) (fun c1 => ?_)
  · skip
    refine lv_iconst (v := nI 1) hx hb dX3_go_19 rfl ?_
    refine lv_aload_n hx hb dX3_go_20 rfl (lv_at hl 0 rfl) ?_
    refine lv_iload_n hx hb dX3_go_21 rfl (lv_at hl 1 rfl) ?_
    refine lv_iconst (v := nI 0) hx hb dX3_go_22 rfl ?_
    refine roV (As := [.int (nI w), .int (nI 0)]) (q0 := 0) (ci := 3) hx hb hml hown hts (c_X3_pe l D cI cZ cL cO a th n nw ns σ η H w 0 (hB) (by omega) (by omega)) (cwV 2 hts gX3_go_X3_pe rfl rfl rfl (by decide +kernel) ⟨by decide, by decide⟩) hK hE hP rfl rfl rfl rfl hl.1 rfl (Nat.le_of_ble_eq_true rfl) hS dX3_go_23 ⟨Nat.zero_le _, Nat.zero_le _⟩ (fun locs hS => ?_)
    refine li_topi (show σ (pid 0) w = σ 4 w from rfl) ?_
    refine li_topi (show σ 4 w = nI (nN (σ 4 w)) from hpc.1) ?_
    refine lv_iconst (v := nI 1) hx hb dX3_go_26 rfl ?_
    refine lv_isub hx hb dX3_go_27 ?_
    refine li_topi (show (nI (nN (σ 4 w))) - (nI 1) = nI (nN (σ 4 w) - 1) from pk_sub hpc.2.1) ?_
    refine va_mmax hx hb (hml.trans hl.1.symm) hown g0 g1 g2 g3 (by decide) (Nat.le_of_ble_eq_true rfl) (Nat.zero_le _) (Nat.zero_le _) dX3_go_28 ?_
    refine li_topi (show (if nI 1 < nI (nN (σ 4 w) - 1) then nI (nN (σ 4 w) - 1) else nI 1) = nI (mxp (nN (σ 4 w))) from mxp_eq hpc.2.1 hpc.2.2) ?_
    refine lv_istore_n (lv' := [(2, .int (nI (mxp (nN (σ 4 w))))), (0, .ref (a 0)), (1, .int (nI w))]) hx hb dX3_go_31 rfl hl (by decide) rfl (fun ls hl => ?_)
    have L32_2 : ∀ (fuel : Nat) (lf : Nat) (s9 : Sg) (k9 : Sg), lf < fuel → (wl n pl nw w lf (decide (s9 12 w = nI 1), (s9, k9)) = wl n pl nw w (wkP w σ) (true, (σ, κ))) → (∀ r, r ≠ 8 → r ≠ 9 → r ≠ 12 → r ≠ 13 → r ≠ 15 → s9 r = σ r) → (PB pl nw s9) → (TH n σ k9) → (lf ≤ 3) → ∀ (G : Heap) (locs : List Loc), va_P D vwCl (wM cI cZ a th n nw ns s9 (thE σ η k9)) G → va_S A H G locs → ∀ (ls : Array Slot), lv_has ls 7 [(2, .int (nI lf)), (0, .ref (a 0)), (1, .int (nI w))] → W p l e ({ frames := 3, cells := 0, slots := 0, locals := 66 } : Room) s m args below meth c G locs 0 0 Q (F0 m 32 ls []) := by
      intro fuel
      induction fuel with
      | zero =>
        intro lf s9 k9 hfuel
        exact absurd hfuel (Nat.not_lt_zero _)
      | succ fuel ih32 =>
        intro lf s9 k9 hfuel32 hW hr hPB9 hTH9 hl3 G locs hP hS ls hl
        refine lv_iload_n hx hb dX3_go_32 rfl (lv_at hl 0 rfl) ?_
        refine li_le0 (tgt := 240) hx hb dX3_go_33 (by decide) (by first | omega | (have := wa_le (σ := s9) (nw := nw) (z := s9 13 w + nI 1); omega)) (fun c3 => ?_) (fun c3 => ?_)
        · skip
          have hF := wl_out hW (by first | exact Or.inl (by assumption) | exact Or.inr (by assumption))
          have hw9 : s9 = (wl n pl nw w (wkP w σ) (true, (σ, κ))).2.1 := by rw [hF]
          have hP : va_P D vwCl (wM cI cZ a th n nw ns ((wl n pl nw w (wkP w σ) (true, (σ, κ))).2.1) (thE σ η k9)) G := Eq.mp (congrArg (fun z9 => va_P D vwCl (wM cI cZ a th n nw ns z9 (thE σ η k9)) G) hw9) hP
          clear hw9
          have hw9 : thE σ η k9 = thE σ η (wl n pl nw w (wkP w σ) (true, (σ, κ))).2.2 := by rw [hF]
          have hP : va_P D vwCl (wM cI cZ a th n nw ns ((wl n pl nw w (wkP w σ) (true, (σ, κ))).2.1) (thE σ η (wl n pl nw w (wkP w σ) (true, (σ, κ))).2.2)) G := Eq.mp (congrArg (fun z9 => va_P D vwCl (wM cI cZ a th n nw ns ((wl n pl nw w (wkP w σ) (true, (σ, κ))).2.1) z9) G) hw9) hP
          clear hw9
          exact hEnd 240 ls G locs dX3_go_240 hP hS
        · skip
          obtain ⟨lg, rfl⟩ : ∃ z, lf = z + 1 := ⟨lf - 1, by omega⟩
          refine lv_aload_n hx hb dX3_go_36 rfl (lv_at hl 1 rfl) ?_
          refine lv_iload_n hx hb dX3_go_37 rfl (lv_at hl 2 rfl) ?_
          refine roV (As := [.int (nI w)]) (q0 := 0) (ci := 3) hx hb hml hown hts (c_X3_walks l D cI cZ cL cO a th n nw ns s9 (thE σ η k9) G w (hB) (by omega)) (cwV 1 hts gX3_go_X3_walks rfl rfl rfl (by decide +kernel) ⟨by decide, by decide⟩) hK hE hP rfl rfl rfl rfl hl.1 rfl (Nat.le_of_ble_eq_true rfl) hS dX3_go_38 ⟨Nat.zero_le _, Nat.zero_le _⟩ (fun locs hS => ?_)
          refine li_zeq (tgt := 240) hx hb dX3_go_41 (by decide) (fun c4 => ?_) (fun c4 => ?_)
          · skip
            replace c4 := of_decide_eq_false c4
            have hF := wl_out hW (by first | exact Or.inl (by assumption) | exact Or.inr (by assumption))
            have hw9 : s9 = (wl n pl nw w (wkP w σ) (true, (σ, κ))).2.1 := by rw [hF]
            have hP : va_P D vwCl (wM cI cZ a th n nw ns ((wl n pl nw w (wkP w σ) (true, (σ, κ))).2.1) (thE σ η k9)) G := Eq.mp (congrArg (fun z9 => va_P D vwCl (wM cI cZ a th n nw ns z9 (thE σ η k9)) G) hw9) hP
            clear hw9
            have hw9 : thE σ η k9 = thE σ η (wl n pl nw w (wkP w σ) (true, (σ, κ))).2.2 := by rw [hF]
            have hP : va_P D vwCl (wM cI cZ a th n nw ns ((wl n pl nw w (wkP w σ) (true, (σ, κ))).2.1) (thE σ η (wl n pl nw w (wkP w σ) (true, (σ, κ))).2.2)) G := Eq.mp (congrArg (fun z9 => va_P D vwCl (wM cI cZ a th n nw ns ((wl n pl nw w (wkP w σ) (true, (σ, κ))).2.1) z9) G) hw9) hP
            clear hw9
            exact hEnd 240 ls G locs dX3_go_240 hP hS
          · skip
            replace c4 := of_decide_eq_true c4
            have hwk9 := c4
            obtain ⟨jz, hjz, hz9⟩ := hPB9 w hw hwk9
            have hRF9 : RF n pl s9 := RF_rows hRF (hr 0 (by omega) (by omega) (by omega) (by omega) (by omega)) (hr 2 (by omega) (by omega) (by omega) (by omega) (by omega))
            obtain ⟨j0, hj0, hso, ha, hb9⟩ := RF_on hRF9 hpl hjz
            rw [← hz9] at hso
            refine lv_aload_n hx hb dX3_go_44 rfl (lv_at hl 1 rfl) ?_
            refine lv_iload_n hx hb dX3_go_45 rfl (lv_at hl 2 rfl) ?_
            refine lv_iconst (v := nI 5) hx hb dX3_go_46 rfl ?_
            refine roV (As := [.int (nI w), .int (nI 5)]) (q0 := 0) (ci := 3) hx hb hml hown hts (c_X3_pe l D cI cZ cL cO a th n nw ns s9 (thE σ η k9) G w 5 (hB) (by omega) (by omega)) (cwV 2 hts gX3_go_X3_pe rfl rfl rfl (by decide +kernel) ⟨by decide, by decide⟩) hK hE hP rfl rfl rfl rfl hl.1 rfl (Nat.le_of_ble_eq_true rfl) hS dX3_go_47 ⟨Nat.zero_le _, Nat.zero_le _⟩ (fun locs hS => ?_)
            refine li_topi (show s9 (pid 5) w = s9 13 w from rfl) ?_
            refine lv_istore_n (lv' := [(3, .int (s9 13 w)), (2, .int (nI (lg + 1))), (0, .ref (a 0)), (1, .int (nI w))]) hx hb dX3_go_50 rfl hl (by decide) rfl (fun ls hl => ?_)
            refine lv_aload_n hx hb dX3_go_51 rfl (lv_at hl 2 rfl) ?_
            refine lv_iload_n hx hb dX3_go_52 rfl (lv_at hl 0 rfl) ?_
            refine roV (As := [.int (s9 13 w)]) (q0 := 0) (ci := 3) hx hb hml hown hts (c_X3_stretchOf l D cI cZ cL cO a th n nw ns s9 (thE σ η k9) G (s9 13 w) (hB) (j0) (by assumption)) (cwV 1 hts gX3_go_X3_stretchOf rfl rfl rfl (by decide +kernel) ⟨by decide, by decide⟩) hK hE hP rfl rfl rfl rfl hl.1 rfl (Nat.le_of_ble_eq_true rfl) hS dX3_go_53 ⟨Nat.zero_le _, Nat.zero_le _⟩ (fun locs hS => ?_)
            refine lv_istore (lv' := [(4, .int (nI j0)), (3, .int (s9 13 w)), (2, .int (nI (lg + 1))), (0, .ref (a 0)), (1, .int (nI w))]) hx hb dX3_go_56 hl (by decide) rfl (fun ls hl => ?_)
            refine lv_iload_n hx hb dX3_go_58 rfl (lv_at hl 1 rfl) ?_
            refine lv_aload_n hx hb dX3_go_59 rfl (lv_at hl 3 rfl) ?_
            refine lv_iload hx hb dX3_go_60 (lv_at hl 0 rfl) ?_
            refine lv_iconst (v := nI 2) hx hb dX3_go_62 rfl ?_
            refine roV (As := [.int (nI j0), .int (nI 2)]) (q0 := 0) (ci := 3) hx hb hml hown hts (c_X3_ro l D cI cZ cL cO a th n nw ns s9 (thE σ η k9) G j0 2 (hB) (by omega) (by omega)) (cwV 2 hts gX3_go_X3_ro rfl rfl rfl (by decide +kernel) ⟨by decide, by decide⟩) hK hE hP rfl rfl rfl rfl hl.1 rfl (Nat.le_of_ble_eq_true rfl) hS dX3_go_63 ⟨Nat.zero_le _, Nat.zero_le _⟩ (fun locs hS => ?_)
            refine li_topi (show s9 (rid 2) j0 = s9 2 j0 from rfl) ?_
            refine lv_aload_n hx hb dX3_go_66 rfl (lv_at hl 3 rfl) ?_
            refine lv_iload hx hb dX3_go_67 (lv_at hl 0 rfl) ?_
            refine lv_iconst (v := nI 0) hx hb dX3_go_69 rfl ?_
            refine roV (As := [.int (nI j0), .int (nI 0)]) (q0 := 0) (ci := 3) hx hb hml hown hts (c_X3_ro l D cI cZ cL cO a th n nw ns s9 (thE σ η k9) G j0 0 (hB) (by omega) (by omega)) (cwV 2 hts gX3_go_X3_ro rfl rfl rfl (by decide +kernel) ⟨by decide, by decide⟩) hK hE hP rfl rfl rfl rfl hl.1 rfl (Nat.le_of_ble_eq_true rfl) hS dX3_go_70 ⟨Nat.zero_le _, Nat.zero_le _⟩ (fun locs hS => ?_)
            refine li_topi (show s9 (rid 0) j0 = s9 0 j0 from rfl) ?_
            refine lv_iadd hx hb dX3_go_73 ?_
            refine lv_iconst (v := nI 1) hx hb dX3_go_74 rfl ?_
            refine lv_isub hx hb dX3_go_75 ?_
            refine lv_icmp_ne (tgt := 83) hx hb dX3_go_76 (by decide) (fun c5 => ?_) (fun c5 => ?_)
            · skip
              have hcor := mt (gm_c hRF9 hj0 hz9 hpl hjz).mpr c5
              have hse := gm_sn hRF9 hj0 hz9 hpl hjz ha hb9 hcor
              refine lv_iconst (v := nI 0) hx hb dX3_go_83 rfl ?_
              refine lv_istore (lv' := [(5, .int (nI 0)), (4, .int (nI j0)), (3, .int (s9 13 w)), (2, .int (nI (lg + 1))), (0, .ref (a 0)), (1, .int (nI w))]) hx hb dX3_go_84 hl (by decide) rfl (fun ls hl => ?_)
              refine lv_iload_n hx hb dX3_go_86 rfl (lv_at hl 2 rfl) ?_
              refine lv_aload_n hx hb dX3_go_87 rfl (lv_at hl 4 rfl) ?_
              refine roV (As := []) (q0 := 0) (ci := 3) hx hb hml hown hts (c_X3_places l D cI cZ cL cO a th n nw ns s9 (thE σ η k9) G (hB)) (cwV 0 hts gX3_go_X3_places rfl rfl rfl (by decide +kernel) ⟨by decide, by decide⟩) hK hE hP rfl rfl rfl rfl hl.1 rfl (Nat.le_of_ble_eq_true rfl) hS dX3_go_88 ⟨Nat.zero_le _, Nat.zero_le _⟩ (fun locs hS => ?_)
              refine lv_iconst (v := nI 1) hx hb dX3_go_91 rfl ?_
              refine lv_isub hx hb dX3_go_92 ?_
              refine lv_icmp_ne (tgt := 100) hx hb dX3_go_93 (by decide) (fun c6 => ?_) (fun c6 => ?_)
              · skip
                have hend := mt (gm_e hRF9 hz9 hpl hjz).mpr c6
                have hlt := (gm_lt (w := w) hz9 hpl hjz).mpr hend
                refine lv_iconst (v := nI 0) hx hb dX3_go_100 rfl ?_
                refine lv_istore (lv' := [(6, .int (nI 0)), (5, .int (nI 0)), (4, .int (nI j0)), (3, .int (s9 13 w)), (2, .int (nI (lg + 1))), (0, .ref (a 0)), (1, .int (nI w))]) hx hb dX3_go_101 hl (by decide) rfl (fun ls hl => ?_)
                refine lv_iload hx hb dX3_go_103 (lv_at hl 0 rfl) ?_
                refine li_ne0 (tgt := 120) hx hb dX3_go_105 (by decide) (by first | omega | (have := wa_le (σ := s9) (nw := nw) (z := s9 13 w + nI 1); omega)) (fun c7 => ?_) (fun c7 => ?_)
                · exact absurd c7 (by decide)
                · skip
                  refine lv_aload_n hx hb dX3_go_108 rfl (lv_at hl 5 rfl) ?_
                  refine lv_iload_n hx hb dX3_go_109 rfl (lv_at hl 3 rfl) ?_
                  refine lv_iconst (v := nI 1) hx hb dX3_go_110 rfl ?_
                  refine lv_iadd hx hb dX3_go_111 ?_
                  refine roV (As := [.int ((s9 13 w) + (nI 1))]) (q0 := 0) (ci := 3) hx hb hml hown hts (c_X3_at l D cI cZ cL cO a th n nw ns s9 (thE σ η k9) G ((s9 13 w) + (nI 1)) (hB)) (cwV 1 hts gX3_go_X3_at rfl rfl rfl (by decide +kernel) ⟨by decide, by decide⟩) hK hE hP rfl rfl rfl rfl hl.1 rfl (Nat.le_of_ble_eq_true rfl) hS dX3_go_112 ⟨Nat.zero_le _, Nat.zero_le _⟩ (fun locs hS => ?_)
                  refine lv_iconst (v := nI 1) hx hb dX3_go_115 rfl ?_
                  refine li_le (tgt := 120) hx hb dX3_go_116 (by decide) (by first | omega | (have := wa_le (σ := s9) (nw := nw) (z := s9 13 w + nI 1); omega)) (by first | omega | (have := wa_le (σ := s9) (nw := nw) (z := s9 13 w + nI 1); omega)) (fun c8 => ?_) (fun c8 => ?_)
                  · skip
                    have hwa : wa s9 nw (s9 13 w + nI 1) < 2 := by omega
                    refine lv_iload hx hb dX3_go_120 (lv_at hl 1 rfl) ?_
                    refine li_eq0 (tgt := 157) hx hb dX3_go_122 (by decide) (by first | omega | (have := wa_le (σ := s9) (nw := nw) (z := s9 13 w + nI 1); omega)) (fun c9 => ?_) (fun c9 => ?_)
                    · skip
                      refine lv_iload hx hb dX3_go_157 (lv_at hl 1 rfl) ?_
                      refine li_eq0 (tgt := 188) hx hb dX3_go_159 (by decide) (by first | omega | (have := wa_le (σ := s9) (nw := nw) (z := s9 13 w + nI 1); omega)) (fun c10 => ?_) (fun c10 => ?_)
                      · skip
                        refine lv_aload_n hx hb dX3_go_188 rfl (lv_at hl 5 rfl) ?_
                        refine lv_iload_n hx hb dX3_go_189 rfl (lv_at hl 6 rfl) ?_
                        refine lv_iconst (v := nI 5) hx hb dX3_go_190 rfl ?_
                        refine lv_iload hx hb dX3_go_191 (lv_at hl 0 rfl) ?_
                        refine li_eq0 (tgt := 200) hx hb dX3_go_193 (by decide) (by first | omega | (have := wa_le (σ := s9) (nw := nw) (z := s9 13 w + nI 1); omega)) (fun c11 => ?_) (fun c11 => ?_)
                        · skip
                          refine lv_iload_n hx hb dX3_go_200 rfl (lv_at hl 3 rfl) ?_
                          refine lv_iconst (v := nI 1) hx hb dX3_go_201 rfl ?_
                          refine lv_iadd hx hb dX3_go_202 ?_
                          refine muV (As := [.int (nI w), .int (nI 5), .int ((s9 13 w) + (nI 1))]) (q0 := 0) (ci := 3) hx hb hml hown hts (c_X3_set l D cI cZ cL cO a th n nw ns s9 (thE σ η k9) G w 5 ((s9 13 w) + (nI 1)) A hA (hB) (by omega) (by omega)) (cwV 3 hts gX3_go_X3_set rfl rfl rfl (by decide +kernel) ⟨by decide, by decide⟩) hK hE hP rfl rfl rfl rfl hl.1 rfl (Nat.le_of_ble_eq_true rfl) hS (fun _ h => h) dX3_go_203 ⟨Nat.zero_le _, Nat.zero_le _⟩ (fun G locs hP _ _ hS => ?_)
                          have hP : va_P D vwCl (wM cI cZ a th n nw ns (up2 s9 13 w ((s9 13 w) + (nI 1))) (thE σ η k9)) G := hP
                          refine lv_iload hx hb dX3_go_206 (lv_at hl 0 rfl) ?_
                          refine li_ne0 (tgt := 214) hx hb dX3_go_208 (by decide) (by first | omega | (have := wa_le (σ := s9) (nw := nw) (z := s9 13 w + nI 1); omega)) (fun c12 => ?_) (fun c12 => ?_)
                          · exact absurd c12 (by decide)
                          · skip
                            refine lv_goto (tgt := 234) hx hb dX3_go_211 (by decide) ?_
                            refine lv_iinc (v := nI lg) (lv' := [(2, .int (nI lg)), (6, .int (nI 0)), (5, .int (nI 0)), (4, .int (nI j0)), (3, .int (s9 13 w)), (0, .ref (a 0)), (1, .int (nI w))]) hx hb dX3_go_234 hl (k := 4) rfl (nI_dec1 _) (by decide) rfl (fun ls hl => ?_)
                            refine lv_goto (tgt := 32) hx hb dX3_go_237 (by decide) ?_
                            have hw9 : up2 s9 13 w ((s9 13 w) + (nI 1)) = (up2 s9 13 w ((s9 13 w) + (nI 1))) := rfl
                            have hP : va_P D vwCl (wM cI cZ a th n nw ns (up2 s9 13 w ((s9 13 w) + (nI 1))) (thE σ η k9)) G := Eq.mp (congrArg (fun z9 => va_P D vwCl (wM cI cZ a th n nw ns z9 (thE σ η k9)) G) hw9) hP
                            clear hw9
                            have hl9 : lv_has ls 7 [(2, .int (nI lg)), (0, .ref (a 0)), (1, .int (nI w))] := lv_sub hl [0, 5, 6] rfl
                            exact ih32 lg (up2 s9 13 w ((s9 13 w) + (nI 1))) k9 (by omega) (by have h9 := wl_next hW hwk9 (gs_d hwa hse hlt); rw [decide_eq_true (show up2 s9 13 w (s9 13 w + nI 1) 12 w = nI 1 from by rw [up2_row _ _ _ _ (by omega)]; exact hwk9)]; exact h9) (fun r a8 a9 a12 a13 a15 => by rw [up2_row _ _ _ _ a13]; exact hr r a8 a9 a12 a13 a15) (PB_walk hPB9 (up2_row _ _ _ _ (by omega)) (fun o ho => by rw [up2_at, if_neg (fun z => ho z.2)]) ⟨jz + 1, by omega, by rw [up2_at, if_pos ⟨rfl, rfl⟩, hz9, nI_add]⟩) (hTH9) (by omega) G locs hP hS ls hl9
                        · exact absurd c11 (by decide)
                      · exact absurd c10 (by decide)
                    · exact absurd c9 (by decide)
                  · skip
                    have hF := wl_end hW hwk9 (g1_a (by omega))
                    have hw9 : s9 = (wl n pl nw w (wkP w σ) (true, (σ, κ))).2.1 := by rw [hF]
                    have hP : va_P D vwCl (wM cI cZ a th n nw ns ((wl n pl nw w (wkP w σ) (true, (σ, κ))).2.1) (thE σ η k9)) G := Eq.mp (congrArg (fun z9 => va_P D vwCl (wM cI cZ a th n nw ns z9 (thE σ η k9)) G) hw9) hP
                    clear hw9
                    have hw9 : thE σ η k9 = thE σ η (wl n pl nw w (wkP w σ) (true, (σ, κ))).2.2 := by rw [hF]
                    have hP : va_P D vwCl (wM cI cZ a th n nw ns ((wl n pl nw w (wkP w σ) (true, (σ, κ))).2.1) (thE σ η (wl n pl nw w (wkP w σ) (true, (σ, κ))).2.2)) G := Eq.mp (congrArg (fun z9 => va_P D vwCl (wM cI cZ a th n nw ns ((wl n pl nw w (wkP w σ) (true, (σ, κ))).2.1) z9) G) hw9) hP
                    clear hw9
                    exact hEnd 119 ls G locs dX3_go_119 hP hS
              · skip
                have hend := (gm_e hRF9 hz9 hpl hjz).mp c6
                exact absurd (gm_ec hRF9 hj0 ha hb9 hend) hcor
            · skip
              have hcor := (gm_c hRF9 hj0 hz9 hpl hjz).mp c5
              have hse := gm_sc hRF9 hj0 hz9 hpl hjz ha hb9 hcor
              refine lv_iconst (v := nI 1) hx hb dX3_go_79 rfl ?_
              refine lv_goto (tgt := 84) hx hb dX3_go_80 (by decide) ?_
              refine lv_istore (lv' := [(5, .int (nI 1)), (4, .int (nI j0)), (3, .int (s9 13 w)), (2, .int (nI (lg + 1))), (0, .ref (a 0)), (1, .int (nI w))]) hx hb dX3_go_84 hl (by decide) rfl (fun ls hl => ?_)
              refine lv_iload_n hx hb dX3_go_86 rfl (lv_at hl 2 rfl) ?_
              refine lv_aload_n hx hb dX3_go_87 rfl (lv_at hl 4 rfl) ?_
              refine roV (As := []) (q0 := 0) (ci := 3) hx hb hml hown hts (c_X3_places l D cI cZ cL cO a th n nw ns s9 (thE σ η k9) G (hB)) (cwV 0 hts gX3_go_X3_places rfl rfl rfl (by decide +kernel) ⟨by decide, by decide⟩) hK hE hP rfl rfl rfl rfl hl.1 rfl (Nat.le_of_ble_eq_true rfl) hS dX3_go_88 ⟨Nat.zero_le _, Nat.zero_le _⟩ (fun locs hS => ?_)
              refine lv_iconst (v := nI 1) hx hb dX3_go_91 rfl ?_
              refine lv_isub hx hb dX3_go_92 ?_
              refine lv_icmp_ne (tgt := 100) hx hb dX3_go_93 (by decide) (fun c13 => ?_) (fun c13 => ?_)
              · skip
                have hend := mt (gm_e hRF9 hz9 hpl hjz).mpr c13
                have hlt := (gm_lt (w := w) hz9 hpl hjz).mpr hend
                refine lv_iconst (v := nI 0) hx hb dX3_go_100 rfl ?_
                refine lv_istore (lv' := [(6, .int (nI 0)), (5, .int (nI 1)), (4, .int (nI j0)), (3, .int (s9 13 w)), (2, .int (nI (lg + 1))), (0, .ref (a 0)), (1, .int (nI w))]) hx hb dX3_go_101 hl (by decide) rfl (fun ls hl => ?_)
                refine lv_iload hx hb dX3_go_103 (lv_at hl 0 rfl) ?_
                refine li_ne0 (tgt := 120) hx hb dX3_go_105 (by decide) (by first | omega | (have := wa_le (σ := s9) (nw := nw) (z := s9 13 w + nI 1); omega)) (fun c14 => ?_) (fun c14 => ?_)
                · exact absurd c14 (by decide)
                · skip
                  refine lv_aload_n hx hb dX3_go_108 rfl (lv_at hl 5 rfl) ?_
                  refine lv_iload_n hx hb dX3_go_109 rfl (lv_at hl 3 rfl) ?_
                  refine lv_iconst (v := nI 1) hx hb dX3_go_110 rfl ?_
                  refine lv_iadd hx hb dX3_go_111 ?_
                  refine roV (As := [.int ((s9 13 w) + (nI 1))]) (q0 := 0) (ci := 3) hx hb hml hown hts (c_X3_at l D cI cZ cL cO a th n nw ns s9 (thE σ η k9) G ((s9 13 w) + (nI 1)) (hB)) (cwV 1 hts gX3_go_X3_at rfl rfl rfl (by decide +kernel) ⟨by decide, by decide⟩) hK hE hP rfl rfl rfl rfl hl.1 rfl (Nat.le_of_ble_eq_true rfl) hS dX3_go_112 ⟨Nat.zero_le _, Nat.zero_le _⟩ (fun locs hS => ?_)
                  refine lv_iconst (v := nI 1) hx hb dX3_go_115 rfl ?_
                  refine li_le (tgt := 120) hx hb dX3_go_116 (by decide) (by first | omega | (have := wa_le (σ := s9) (nw := nw) (z := s9 13 w + nI 1); omega)) (by first | omega | (have := wa_le (σ := s9) (nw := nw) (z := s9 13 w + nI 1); omega)) (fun c15 => ?_) (fun c15 => ?_)
                  · skip
                    have hwa : wa s9 nw (s9 13 w + nI 1) < 2 := by omega
                    refine lv_iload hx hb dX3_go_120 (lv_at hl 1 rfl) ?_
                    refine li_eq0 (tgt := 157) hx hb dX3_go_122 (by decide) (by first | omega | (have := wa_le (σ := s9) (nw := nw) (z := s9 13 w + nI 1); omega)) (fun c16 => ?_) (fun c16 => ?_)
                    · exact absurd c16 (by decide)
                    · skip
                      refine lv_aload_n hx hb dX3_go_125 rfl (lv_at hl 5 rfl) ?_
                      refine li_gf3 hx hb hX3 hown hK hP 0 rfl 13 (by decide) f38 rfl dX3_go_126 ?_
                      refine lv_iload hx hb dX3_go_129 (lv_at hl 2 rfl) ?_
                      refine li_ild hx hb hK hP 10 0 rfl rfl (by omega) (by decide) dX3_go_131 ?_
                      refine li_topi (show (thE σ η k9) 2 j0 = thr σ k9 j0 from rfl) ?_
                      refine lv_aload_n hx hb dX3_go_132 rfl (lv_at hl 5 rfl) ?_
                      refine lv_iload hx hb dX3_go_133 (lv_at hl 2 rfl) ?_
                      refine roV (As := [.int (nI j0)]) (q0 := 0) (ci := 3) hx hb hml hown hts (c_X3_lets l D cI cZ cL cO a th n nw ns s9 (thE σ η k9) G j0 (hB) (by omega)) (cwV 1 hts gX3_go_X3_lets rfl rfl rfl (by decide +kernel) ⟨by decide, by decide⟩) hK hE hP rfl rfl rfl rfl hl.1 rfl (Nat.le_of_ble_eq_true rfl) hS dX3_go_135 ⟨Nat.zero_le _, Nat.zero_le _⟩ (fun locs hS => ?_)
                      refine li_topi (show lt_ s9 j0 2 = lt_ σ j0 2 from lt_rows (hr 1 (by omega) (by omega) (by omega) (by omega) (by omega)) (hr 7 (by omega) (by omega) (by omega) (by omega) (by omega)) j0 2) ?_
                      refine lv_icmp_ne (tgt := 157) hx hb dX3_go_138 (by decide) (fun c17 => ?_) (fun c17 => ?_)
                      · skip
                        have hp1 : 0 < k9 3 j0 := Decidable.byContradiction (fun q => c17 ((TH_eq hTH9 hj0).mpr q))
                        refine lv_iload hx hb dX3_go_157 (lv_at hl 1 rfl) ?_
                        refine li_eq0 (tgt := 188) hx hb dX3_go_159 (by decide) (by first | omega | (have := wa_le (σ := s9) (nw := nw) (z := s9 13 w + nI 1); omega)) (fun c18 => ?_) (fun c18 => ?_)
                        · exact absurd c18 (by decide)
                        · skip
                          refine lv_aload_n hx hb dX3_go_162 rfl (lv_at hl 5 rfl) ?_
                          refine li_gf3 hx hb hX3 hown hK hP 0 rfl 13 (by decide) f38 rfl dX3_go_163 ?_
                          refine lv_iload hx hb dX3_go_166 (lv_at hl 2 rfl) ?_
                          refine lv_dup2_11 hx hb dX3_go_168 rfl rfl ?_
                          refine li_ild hx hb hK hP 10 0 rfl rfl (by omega) (by decide) dX3_go_169 ?_
                          refine lv_iconst (v := nI 1) hx hb dX3_go_170 rfl ?_
                          refine lv_iadd hx hb dX3_go_171 ?_
                          refine li_ist hx hb hK hP hA.DM hS 10 0 rfl rfl (by omega) (by decide) stE_2 dX3_go_172 (fun G locs hP hS => ?_)
                          refine lv_aload_n hx hb dX3_go_173 rfl (lv_at hl 5 rfl) ?_
                          refine li_gf3 hx hb hX3 hown hK hP 0 rfl 2 (by decide) f9 rfl dX3_go_174 ?_
                          refine lv_iconst (v := nI 5) hx hb dX3_go_177 rfl ?_
                          refine lv_iload hx hb dX3_go_178 (lv_at hl 2 rfl) ?_
                          refine lv_imul hx hb dX3_go_180 ?_
                          refine li_topi (pk_mul _ _) ?_
                          refine lv_iconst (v := nI 3) hx hb dX3_go_181 rfl ?_
                          refine lv_iadd hx hb dX3_go_182 ?_
                          refine li_topi (nI_add _ _) ?_
                          refine lv_dup2_11 hx hb dX3_go_183 rfl rfl ?_
                          refine li_ild hx hb hK hP 1 0 rfl rfl (by omega) (by decide) dX3_go_184 ?_
                          refine li_topi (show encR s9 (5 * j0 + 3) = s9 8 j0 from encR_at (by omega)) ?_
                          refine lv_iconst (v := nI 1) hx hb dX3_go_185 rfl ?_
                          refine lv_iadd hx hb dX3_go_186 ?_
                          refine li_ist hx hb hK hP hA.DM hS 1 0 rfl rfl (by omega) (by decide) (stM_R (by omega)) dX3_go_187 (fun G locs hP hS => ?_)
                          refine lv_aload_n hx hb dX3_go_188 rfl (lv_at hl 5 rfl) ?_
                          refine lv_iload_n hx hb dX3_go_189 rfl (lv_at hl 6 rfl) ?_
                          refine lv_iconst (v := nI 5) hx hb dX3_go_190 rfl ?_
                          refine lv_iload hx hb dX3_go_191 (lv_at hl 0 rfl) ?_
                          refine li_eq0 (tgt := 200) hx hb dX3_go_193 (by decide) (by first | omega | (have := wa_le (σ := s9) (nw := nw) (z := s9 13 w + nI 1); omega)) (fun c19 => ?_) (fun c19 => ?_)
                          · skip
                            refine lv_iload_n hx hb dX3_go_200 rfl (lv_at hl 3 rfl) ?_
                            refine lv_iconst (v := nI 1) hx hb dX3_go_201 rfl ?_
                            refine lv_iadd hx hb dX3_go_202 ?_
                            refine muV (As := [.int (nI w), .int (nI 5), .int ((s9 13 w) + (nI 1))]) (q0 := 0) (ci := 3) hx hb hml hown hts (c_X3_set l D cI cZ cL cO a th n nw ns (up2 s9 8 j0 ((s9 8 j0) + (nI 1))) (up2 (thE σ η k9) 2 j0 (((thE σ η k9) 2 j0) + (nI 1))) G w 5 ((s9 13 w) + (nI 1)) A hA (hB) (by omega) (by omega)) (cwV 3 hts gX3_go_X3_set rfl rfl rfl (by decide +kernel) ⟨by decide, by decide⟩) hK hE hP rfl rfl rfl rfl hl.1 rfl (Nat.le_of_ble_eq_true rfl) hS (fun _ h => h) dX3_go_203 ⟨Nat.zero_le _, Nat.zero_le _⟩ (fun G locs hP _ _ hS => ?_)
                            have hP : va_P D vwCl (wM cI cZ a th n nw ns (up2 (up2 s9 8 j0 ((s9 8 j0) + (nI 1))) 13 w ((s9 13 w) + (nI 1))) (up2 (thE σ η k9) 2 j0 (((thE σ η k9) 2 j0) + (nI 1)))) G := hP
                            refine lv_iload hx hb dX3_go_206 (lv_at hl 0 rfl) ?_
                            refine li_ne0 (tgt := 214) hx hb dX3_go_208 (by decide) (by first | omega | (have := wa_le (σ := s9) (nw := nw) (z := s9 13 w + nI 1); omega)) (fun c20 => ?_) (fun c20 => ?_)
                            · exact absurd c20 (by decide)
                            · skip
                              refine lv_goto (tgt := 234) hx hb dX3_go_211 (by decide) ?_
                              refine lv_iinc (v := nI lg) (lv' := [(2, .int (nI lg)), (6, .int (nI 0)), (5, .int (nI 1)), (4, .int (nI j0)), (3, .int (s9 13 w)), (0, .ref (a 0)), (1, .int (nI w))]) hx hb dX3_go_234 hl (k := 4) rfl (nI_dec1 _) (by decide) rfl (fun ls hl => ?_)
                              refine lv_goto (tgt := 32) hx hb dX3_go_237 (by decide) ?_
                              have hw9 : up2 (up2 s9 8 j0 ((s9 8 j0) + (nI 1))) 13 w ((s9 13 w) + (nI 1)) = (up2 (up2 s9 8 j0 ((s9 8 j0) + (nI 1))) 13 w ((s9 13 w) + (nI 1))) := rfl
                              have hP : va_P D vwCl (wM cI cZ a th n nw ns (up2 (up2 s9 8 j0 ((s9 8 j0) + (nI 1))) 13 w ((s9 13 w) + (nI 1))) (up2 (thE σ η k9) 2 j0 (((thE σ η k9) 2 j0) + (nI 1)))) G := Eq.mp (congrArg (fun z9 => va_P D vwCl (wM cI cZ a th n nw ns z9 (up2 (thE σ η k9) 2 j0 (((thE σ η k9) 2 j0) + (nI 1)))) G) hw9) hP
                              clear hw9
                              have hw9 : up2 (thE σ η k9) 2 j0 (((thE σ η k9) 2 j0) + (nI 1)) = thE σ η (up2 k9 3 j0 (k9 3 j0 - nI 1)) := thE_up
                              have hP : va_P D vwCl (wM cI cZ a th n nw ns (up2 (up2 s9 8 j0 ((s9 8 j0) + (nI 1))) 13 w ((s9 13 w) + (nI 1))) (thE σ η (up2 k9 3 j0 (k9 3 j0 - nI 1)))) G := Eq.mp (congrArg (fun z9 => va_P D vwCl (wM cI cZ a th n nw ns (up2 (up2 s9 8 j0 ((s9 8 j0) + (nI 1))) 13 w ((s9 13 w) + (nI 1))) z9) G) hw9) hP
                              clear hw9
                              have hl9 : lv_has ls 7 [(2, .int (nI lg)), (0, .ref (a 0)), (1, .int (nI w))] := lv_sub hl [0, 5, 6] rfl
                              exact ih32 lg (up2 (up2 s9 8 j0 ((s9 8 j0) + (nI 1))) 13 w ((s9 13 w) + (nI 1))) (up2 k9 3 j0 (k9 3 j0 - nI 1)) (by omega) (by have h9 := wl_next hW hwk9 (gs_f hwa hse hp1 hlt); rw [decide_eq_true (show up2 (up2 s9 8 j0 (s9 8 j0 + nI 1)) 13 w (s9 13 w + nI 1) 12 w = nI 1 from by rw [up2_row _ _ _ _ (by omega), up2_row _ _ _ _ (by omega)]; exact hwk9)]; exact h9) (fun r a8 a9 a12 a13 a15 => by rw [up2_row _ _ _ _ a13, up2_row _ _ _ _ a8]; exact hr r a8 a9 a12 a13 a15) (PB_walk hPB9 (by rw [up2_row _ _ _ _ (by omega), up2_row _ _ _ _ (by omega)]) (fun o ho => by rw [up2_at, if_neg (fun z => ho z.2), up2_row _ _ _ _ (by omega)]) ⟨jz + 1, by omega, by rw [up2_at, if_pos ⟨rfl, rfl⟩, hz9, nI_add]⟩) (TH_up hTH9 hj0 hp1) (by omega) G locs hP hS ls hl9
                          · exact absurd c19 (by decide)
                      · skip
                        have hp0 : ¬ 0 < k9 3 j0 := (TH_eq hTH9 hj0).mp c17
                        refine lv_aload_n hx hb dX3_go_141 rfl (lv_at hl 5 rfl) ?_
                        refine li_gf3 hx hb hX3 hown hK hP 0 rfl 2 (by decide) f9 rfl dX3_go_142 ?_
                        refine lv_iconst (v := nI 5) hx hb dX3_go_145 rfl ?_
                        refine lv_iload hx hb dX3_go_146 (lv_at hl 2 rfl) ?_
                        refine lv_imul hx hb dX3_go_148 ?_
                        refine li_topi (pk_mul _ _) ?_
                        refine lv_iconst (v := nI 4) hx hb dX3_go_149 rfl ?_
                        refine lv_iadd hx hb dX3_go_150 ?_
                        refine li_topi (nI_add _ _) ?_
                        refine lv_dup2_11 hx hb dX3_go_151 rfl rfl ?_
                        refine li_ild hx hb hK hP 1 0 rfl rfl (by omega) (by decide) dX3_go_152 ?_
                        refine li_topi (show encR s9 (5 * j0 + 4) = s9 9 j0 from encR_at (by omega)) ?_
                        refine lv_iconst (v := nI 1) hx hb dX3_go_153 rfl ?_
                        refine lv_iadd hx hb dX3_go_154 ?_
                        refine li_ist hx hb hK hP hA.DM hS 1 0 rfl rfl (by omega) (by decide) (stM_R (by omega)) dX3_go_155 (fun G locs hP hS => ?_)
                        have hF := wl_end hW hwk9 (gs_b hwa hse hp0)
                        have hw9 : up2 s9 9 j0 ((s9 9 j0) + (nI 1)) = (wl n pl nw w (wkP w σ) (true, (σ, κ))).2.1 := by rw [hF]
                        have hP : va_P D vwCl (wM cI cZ a th n nw ns ((wl n pl nw w (wkP w σ) (true, (σ, κ))).2.1) (thE σ η k9)) G := Eq.mp (congrArg (fun z9 => va_P D vwCl (wM cI cZ a th n nw ns z9 (thE σ η k9)) G) hw9) hP
                        clear hw9
                        have hw9 : thE σ η k9 = thE σ η (wl n pl nw w (wkP w σ) (true, (σ, κ))).2.2 := by rw [hF]
                        have hP : va_P D vwCl (wM cI cZ a th n nw ns ((wl n pl nw w (wkP w σ) (true, (σ, κ))).2.1) (thE σ η (wl n pl nw w (wkP w σ) (true, (σ, κ))).2.2)) G := Eq.mp (congrArg (fun z9 => va_P D vwCl (wM cI cZ a th n nw ns ((wl n pl nw w (wkP w σ) (true, (σ, κ))).2.1) z9) G) hw9) hP
                        clear hw9
                        exact hEnd 156 ls G locs dX3_go_156 hP hS
                  · skip
                    have hF := wl_end hW hwk9 (g1_a (by omega))
                    have hw9 : s9 = (wl n pl nw w (wkP w σ) (true, (σ, κ))).2.1 := by rw [hF]
                    have hP : va_P D vwCl (wM cI cZ a th n nw ns ((wl n pl nw w (wkP w σ) (true, (σ, κ))).2.1) (thE σ η k9)) G := Eq.mp (congrArg (fun z9 => va_P D vwCl (wM cI cZ a th n nw ns z9 (thE σ η k9)) G) hw9) hP
                    clear hw9
                    have hw9 : thE σ η k9 = thE σ η (wl n pl nw w (wkP w σ) (true, (σ, κ))).2.2 := by rw [hF]
                    have hP : va_P D vwCl (wM cI cZ a th n nw ns ((wl n pl nw w (wkP w σ) (true, (σ, κ))).2.1) (thE σ η (wl n pl nw w (wkP w σ) (true, (σ, κ))).2.2)) G := Eq.mp (congrArg (fun z9 => va_P D vwCl (wM cI cZ a th n nw ns ((wl n pl nw w (wkP w σ) (true, (σ, κ))).2.1) z9) G) hw9) hP
                    clear hw9
                    exact hEnd 119 ls G locs dX3_go_119 hP hS
              · skip
                have hend := (gm_e hRF9 hz9 hpl hjz).mp c13
                have hwa := gm_wa hPB9 hz9 hpl hend
                have hlt := mt (gm_lt (w := w) hz9 hpl hjz).mp (fun q => q hend)
                refine lv_iconst (v := nI 1) hx hb dX3_go_96 rfl ?_
                refine lv_goto (tgt := 101) hx hb dX3_go_97 (by decide) ?_
                refine lv_istore (lv' := [(6, .int (nI 1)), (5, .int (nI 1)), (4, .int (nI j0)), (3, .int (s9 13 w)), (2, .int (nI (lg + 1))), (0, .ref (a 0)), (1, .int (nI w))]) hx hb dX3_go_101 hl (by decide) rfl (fun ls hl => ?_)
                refine lv_iload hx hb dX3_go_103 (lv_at hl 0 rfl) ?_
                refine li_ne0 (tgt := 120) hx hb dX3_go_105 (by decide) (by first | omega | (have := wa_le (σ := s9) (nw := nw) (z := s9 13 w + nI 1); omega)) (fun c21 => ?_) (fun c21 => ?_)
                · skip
                  refine lv_iload hx hb dX3_go_120 (lv_at hl 1 rfl) ?_
                  refine li_eq0 (tgt := 157) hx hb dX3_go_122 (by decide) (by first | omega | (have := wa_le (σ := s9) (nw := nw) (z := s9 13 w + nI 1); omega)) (fun c22 => ?_) (fun c22 => ?_)
                  · exact absurd c22 (by decide)
                  · skip
                    refine lv_aload_n hx hb dX3_go_125 rfl (lv_at hl 5 rfl) ?_
                    refine li_gf3 hx hb hX3 hown hK hP 0 rfl 13 (by decide) f38 rfl dX3_go_126 ?_
                    refine lv_iload hx hb dX3_go_129 (lv_at hl 2 rfl) ?_
                    refine li_ild hx hb hK hP 10 0 rfl rfl (by omega) (by decide) dX3_go_131 ?_
                    refine li_topi (show (thE σ η k9) 2 j0 = thr σ k9 j0 from rfl) ?_
                    refine lv_aload_n hx hb dX3_go_132 rfl (lv_at hl 5 rfl) ?_
                    refine lv_iload hx hb dX3_go_133 (lv_at hl 2 rfl) ?_
                    refine roV (As := [.int (nI j0)]) (q0 := 0) (ci := 3) hx hb hml hown hts (c_X3_lets l D cI cZ cL cO a th n nw ns s9 (thE σ η k9) G j0 (hB) (by omega)) (cwV 1 hts gX3_go_X3_lets rfl rfl rfl (by decide +kernel) ⟨by decide, by decide⟩) hK hE hP rfl rfl rfl rfl hl.1 rfl (Nat.le_of_ble_eq_true rfl) hS dX3_go_135 ⟨Nat.zero_le _, Nat.zero_le _⟩ (fun locs hS => ?_)
                    refine li_topi (show lt_ s9 j0 2 = lt_ σ j0 2 from lt_rows (hr 1 (by omega) (by omega) (by omega) (by omega) (by omega)) (hr 7 (by omega) (by omega) (by omega) (by omega) (by omega)) j0 2) ?_
                    refine lv_icmp_ne (tgt := 157) hx hb dX3_go_138 (by decide) (fun c23 => ?_) (fun c23 => ?_)
                    · skip
                      have hp1 : 0 < k9 3 j0 := Decidable.byContradiction (fun q => c23 ((TH_eq hTH9 hj0).mpr q))
                      refine lv_iload hx hb dX3_go_157 (lv_at hl 1 rfl) ?_
                      refine li_eq0 (tgt := 188) hx hb dX3_go_159 (by decide) (by first | omega | (have := wa_le (σ := s9) (nw := nw) (z := s9 13 w + nI 1); omega)) (fun c24 => ?_) (fun c24 => ?_)
                      · exact absurd c24 (by decide)
                      · skip
                        refine lv_aload_n hx hb dX3_go_162 rfl (lv_at hl 5 rfl) ?_
                        refine li_gf3 hx hb hX3 hown hK hP 0 rfl 13 (by decide) f38 rfl dX3_go_163 ?_
                        refine lv_iload hx hb dX3_go_166 (lv_at hl 2 rfl) ?_
                        refine lv_dup2_11 hx hb dX3_go_168 rfl rfl ?_
                        refine li_ild hx hb hK hP 10 0 rfl rfl (by omega) (by decide) dX3_go_169 ?_
                        refine lv_iconst (v := nI 1) hx hb dX3_go_170 rfl ?_
                        refine lv_iadd hx hb dX3_go_171 ?_
                        refine li_ist hx hb hK hP hA.DM hS 10 0 rfl rfl (by omega) (by decide) stE_2 dX3_go_172 (fun G locs hP hS => ?_)
                        refine lv_aload_n hx hb dX3_go_173 rfl (lv_at hl 5 rfl) ?_
                        refine li_gf3 hx hb hX3 hown hK hP 0 rfl 2 (by decide) f9 rfl dX3_go_174 ?_
                        refine lv_iconst (v := nI 5) hx hb dX3_go_177 rfl ?_
                        refine lv_iload hx hb dX3_go_178 (lv_at hl 2 rfl) ?_
                        refine lv_imul hx hb dX3_go_180 ?_
                        refine li_topi (pk_mul _ _) ?_
                        refine lv_iconst (v := nI 3) hx hb dX3_go_181 rfl ?_
                        refine lv_iadd hx hb dX3_go_182 ?_
                        refine li_topi (nI_add _ _) ?_
                        refine lv_dup2_11 hx hb dX3_go_183 rfl rfl ?_
                        refine li_ild hx hb hK hP 1 0 rfl rfl (by omega) (by decide) dX3_go_184 ?_
                        refine li_topi (show encR s9 (5 * j0 + 3) = s9 8 j0 from encR_at (by omega)) ?_
                        refine lv_iconst (v := nI 1) hx hb dX3_go_185 rfl ?_
                        refine lv_iadd hx hb dX3_go_186 ?_
                        refine li_ist hx hb hK hP hA.DM hS 1 0 rfl rfl (by omega) (by decide) (stM_R (by omega)) dX3_go_187 (fun G locs hP hS => ?_)
                        refine lv_aload_n hx hb dX3_go_188 rfl (lv_at hl 5 rfl) ?_
                        refine lv_iload_n hx hb dX3_go_189 rfl (lv_at hl 6 rfl) ?_
                        refine lv_iconst (v := nI 5) hx hb dX3_go_190 rfl ?_
                        refine lv_iload hx hb dX3_go_191 (lv_at hl 0 rfl) ?_
                        refine li_eq0 (tgt := 200) hx hb dX3_go_193 (by decide) (by first | omega | (have := wa_le (σ := s9) (nw := nw) (z := s9 13 w + nI 1); omega)) (fun c25 => ?_) (fun c25 => ?_)
                        · exact absurd c25 (by decide)
                        · skip
                          refine lv_iconst (v := (-1)) hx hb dX3_go_196 rfl ?_
                          refine lv_goto (tgt := 203) hx hb dX3_go_197 (by decide) ?_
                          refine muV (As := [.int (nI w), .int (nI 5), .int (-1)]) (q0 := 0) (ci := 3) hx hb hml hown hts (c_X3_set l D cI cZ cL cO a th n nw ns (up2 s9 8 j0 ((s9 8 j0) + (nI 1))) (up2 (thE σ η k9) 2 j0 (((thE σ η k9) 2 j0) + (nI 1))) G w 5 (-1) A hA (hB) (by omega) (by omega)) (cwV 3 hts gX3_go_X3_set rfl rfl rfl (by decide +kernel) ⟨by decide, by decide⟩) hK hE hP rfl rfl rfl rfl hl.1 rfl (Nat.le_of_ble_eq_true rfl) hS (fun _ h => h) dX3_go_203 ⟨Nat.zero_le _, Nat.zero_le _⟩ (fun G locs hP _ _ hS => ?_)
                          have hP : va_P D vwCl (wM cI cZ a th n nw ns (up2 (up2 s9 8 j0 ((s9 8 j0) + (nI 1))) 13 w (-1)) (up2 (thE σ η k9) 2 j0 (((thE σ η k9) 2 j0) + (nI 1)))) G := hP
                          refine lv_iload hx hb dX3_go_206 (lv_at hl 0 rfl) ?_
                          refine li_ne0 (tgt := 214) hx hb dX3_go_208 (by decide) (by first | omega | (have := wa_le (σ := s9) (nw := nw) (z := s9 13 w + nI 1); omega)) (fun c26 => ?_) (fun c26 => ?_)
                          · skip
                            refine lv_aload_n hx hb dX3_go_214 rfl (lv_at hl 5 rfl) ?_
                            refine lv_iload_n hx hb dX3_go_215 rfl (lv_at hl 6 rfl) ?_
                            refine lv_iconst (v := nI 4) hx hb dX3_go_216 rfl ?_
                            refine lv_iconst (v := nI 2) hx hb dX3_go_217 rfl ?_
                            refine muV (As := [.int (nI w), .int (nI 4), .int (nI 2)]) (q0 := 0) (ci := 3) hx hb hml hown hts (c_X3_set l D cI cZ cL cO a th n nw ns (up2 (up2 s9 8 j0 ((s9 8 j0) + (nI 1))) 13 w (-1)) (up2 (thE σ η k9) 2 j0 (((thE σ η k9) 2 j0) + (nI 1))) G w 4 (nI 2) A hA (hB) (by omega) (by omega)) (cwV 3 hts gX3_go_X3_set rfl rfl rfl (by decide +kernel) ⟨by decide, by decide⟩) hK hE hP rfl rfl rfl rfl hl.1 rfl (Nat.le_of_ble_eq_true rfl) hS (fun _ h => h) dX3_go_218 ⟨Nat.zero_le _, Nat.zero_le _⟩ (fun G locs hP _ _ hS => ?_)
                            have hP : va_P D vwCl (wM cI cZ a th n nw ns (up2 (up2 (up2 s9 8 j0 ((s9 8 j0) + (nI 1))) 13 w (-1)) 12 w (nI 2)) (up2 (thE σ η k9) 2 j0 (((thE σ η k9) 2 j0) + (nI 1)))) G := hP
                            refine lv_aload_n hx hb dX3_go_221 rfl (lv_at hl 5 rfl) ?_
                            refine lv_iload_n hx hb dX3_go_222 rfl (lv_at hl 6 rfl) ?_
                            refine lv_bipush (v := nI 7) hx hb dX3_go_223 rfl ?_
                            refine lv_aload_n hx hb dX3_go_225 rfl (lv_at hl 5 rfl) ?_
                            refine li_gf3 hx hb hX3 hown hK hP 0 rfl 10 (by decide) f28 rfl dX3_go_226 ?_
                            refine lv_iconst (v := nI 0) hx hb dX3_go_229 rfl ?_
                            refine li_ild hx hb hK hP 7 0 rfl rfl (by omega) (by decide) dX3_go_230 ?_
                            refine li_topi (show (up2 (up2 (up2 s9 8 j0 ((s9 8 j0) + (nI 1))) 13 w (-1)) 12 w (nI 2)) 17 0 = (up2 s9 8 j0 (s9 8 j0 + nI 1)) 17 0 from rfl) ?_
                            refine muV (As := [.int (nI w), .int (nI 7), .int ((up2 s9 8 j0 (s9 8 j0 + nI 1)) 17 0)]) (q0 := 0) (ci := 3) hx hb hml hown hts (c_X3_set l D cI cZ cL cO a th n nw ns (up2 (up2 (up2 s9 8 j0 ((s9 8 j0) + (nI 1))) 13 w (-1)) 12 w (nI 2)) (up2 (thE σ η k9) 2 j0 (((thE σ η k9) 2 j0) + (nI 1))) G w 7 ((up2 s9 8 j0 (s9 8 j0 + nI 1)) 17 0) A hA (hB) (by omega) (by omega)) (cwV 3 hts gX3_go_X3_set rfl rfl rfl (by decide +kernel) ⟨by decide, by decide⟩) hK hE hP rfl rfl rfl rfl hl.1 rfl (Nat.le_of_ble_eq_true rfl) hS (fun _ h => h) dX3_go_231 ⟨Nat.zero_le _, Nat.zero_le _⟩ (fun G locs hP _ _ hS => ?_)
                            have hP : va_P D vwCl (wM cI cZ a th n nw ns (up2 (up2 (up2 (up2 s9 8 j0 ((s9 8 j0) + (nI 1))) 13 w (-1)) 12 w (nI 2)) 15 w ((up2 s9 8 j0 (s9 8 j0 + nI 1)) 17 0)) (up2 (thE σ η k9) 2 j0 (((thE σ η k9) 2 j0) + (nI 1)))) G := hP
                            refine lv_iinc (v := nI lg) (lv' := [(2, .int (nI lg)), (6, .int (nI 1)), (5, .int (nI 1)), (4, .int (nI j0)), (3, .int (s9 13 w)), (0, .ref (a 0)), (1, .int (nI w))]) hx hb dX3_go_234 hl (k := 4) rfl (nI_dec1 _) (by decide) rfl (fun ls hl => ?_)
                            refine lv_goto (tgt := 32) hx hb dX3_go_237 (by decide) ?_
                            have hw9 : up2 (up2 (up2 (up2 s9 8 j0 ((s9 8 j0) + (nI 1))) 13 w (-1)) 12 w (nI 2)) 15 w ((up2 s9 8 j0 (s9 8 j0 + nI 1)) 17 0) = (up2 (up2 (up2 (up2 s9 8 j0 ((s9 8 j0) + (nI 1))) 13 w (-1)) 12 w (nI 2)) 15 w ((up2 s9 8 j0 (s9 8 j0 + nI 1)) 17 0)) := rfl
                            have hP : va_P D vwCl (wM cI cZ a th n nw ns (up2 (up2 (up2 (up2 s9 8 j0 ((s9 8 j0) + (nI 1))) 13 w (-1)) 12 w (nI 2)) 15 w ((up2 s9 8 j0 (s9 8 j0 + nI 1)) 17 0)) (up2 (thE σ η k9) 2 j0 (((thE σ η k9) 2 j0) + (nI 1)))) G := Eq.mp (congrArg (fun z9 => va_P D vwCl (wM cI cZ a th n nw ns z9 (up2 (thE σ η k9) 2 j0 (((thE σ η k9) 2 j0) + (nI 1)))) G) hw9) hP
                            clear hw9
                            have hw9 : up2 (thE σ η k9) 2 j0 (((thE σ η k9) 2 j0) + (nI 1)) = thE σ η (up2 k9 3 j0 (k9 3 j0 - nI 1)) := thE_up
                            have hP : va_P D vwCl (wM cI cZ a th n nw ns (up2 (up2 (up2 (up2 s9 8 j0 ((s9 8 j0) + (nI 1))) 13 w (-1)) 12 w (nI 2)) 15 w ((up2 s9 8 j0 (s9 8 j0 + nI 1)) 17 0)) (thE σ η (up2 k9 3 j0 (k9 3 j0 - nI 1)))) G := Eq.mp (congrArg (fun z9 => va_P D vwCl (wM cI cZ a th n nw ns (up2 (up2 (up2 (up2 s9 8 j0 ((s9 8 j0) + (nI 1))) 13 w (-1)) 12 w (nI 2)) 15 w ((up2 s9 8 j0 (s9 8 j0 + nI 1)) 17 0)) z9) G) hw9) hP
                            clear hw9
                            have hl9 : lv_has ls 7 [(2, .int (nI lg)), (0, .ref (a 0)), (1, .int (nI w))] := lv_sub hl [0, 5, 6] rfl
                            exact ih32 lg (up2 (up2 (up2 (up2 s9 8 j0 ((s9 8 j0) + (nI 1))) 13 w (-1)) 12 w (nI 2)) 15 w ((up2 s9 8 j0 (s9 8 j0 + nI 1)) 17 0)) (up2 k9 3 j0 (k9 3 j0 - nI 1)) (by omega) (by have h9 := wl_next hW hwk9 (gs_e hwa hse hp1 hlt); rw [decide_eq_false (fun q => by rw [up2_row _ _ _ _ (by omega), up2_at, if_pos ⟨rfl, rfl⟩] at q; exact absurd q (by decide))]; exact h9) (fun r a8 a9 a12 a13 a15 => by rw [up2_row _ _ _ _ a15, up2_row _ _ _ _ a12, up2_row _ _ _ _ a13, up2_row _ _ _ _ a8]; exact hr r a8 a9 a12 a13 a15) (PB_home (w := w) hPB9 (by rw [up2_row _ _ _ _ (by omega), up2_at, if_pos ⟨rfl, rfl⟩]) (fun o ho => by rw [up2_row _ _ _ _ (by omega), up2_at, if_neg (fun z => ho z.2), up2_row _ _ _ _ (by omega), up2_row _ _ _ _ (by omega)]) (fun o ho => by rw [up2_row _ _ _ _ (by omega), up2_row _ _ _ _ (by omega), up2_at, if_neg (fun z => ho z.2), up2_row _ _ _ _ (by omega)])) (TH_up hTH9 hj0 hp1) (by omega) G locs hP hS ls hl9
                          · exact absurd c26 (by decide)
                    · skip
                      have hp0 : ¬ 0 < k9 3 j0 := (TH_eq hTH9 hj0).mp c23
                      refine lv_aload_n hx hb dX3_go_141 rfl (lv_at hl 5 rfl) ?_
                      refine li_gf3 hx hb hX3 hown hK hP 0 rfl 2 (by decide) f9 rfl dX3_go_142 ?_
                      refine lv_iconst (v := nI 5) hx hb dX3_go_145 rfl ?_
                      refine lv_iload hx hb dX3_go_146 (lv_at hl 2 rfl) ?_
                      refine lv_imul hx hb dX3_go_148 ?_
                      refine li_topi (pk_mul _ _) ?_
                      refine lv_iconst (v := nI 4) hx hb dX3_go_149 rfl ?_
                      refine lv_iadd hx hb dX3_go_150 ?_
                      refine li_topi (nI_add _ _) ?_
                      refine lv_dup2_11 hx hb dX3_go_151 rfl rfl ?_
                      refine li_ild hx hb hK hP 1 0 rfl rfl (by omega) (by decide) dX3_go_152 ?_
                      refine li_topi (show encR s9 (5 * j0 + 4) = s9 9 j0 from encR_at (by omega)) ?_
                      refine lv_iconst (v := nI 1) hx hb dX3_go_153 rfl ?_
                      refine lv_iadd hx hb dX3_go_154 ?_
                      refine li_ist hx hb hK hP hA.DM hS 1 0 rfl rfl (by omega) (by decide) (stM_R (by omega)) dX3_go_155 (fun G locs hP hS => ?_)
                      have hF := wl_end hW hwk9 (gs_b hwa hse hp0)
                      have hw9 : up2 s9 9 j0 ((s9 9 j0) + (nI 1)) = (wl n pl nw w (wkP w σ) (true, (σ, κ))).2.1 := by rw [hF]
                      have hP : va_P D vwCl (wM cI cZ a th n nw ns ((wl n pl nw w (wkP w σ) (true, (σ, κ))).2.1) (thE σ η k9)) G := Eq.mp (congrArg (fun z9 => va_P D vwCl (wM cI cZ a th n nw ns z9 (thE σ η k9)) G) hw9) hP
                      clear hw9
                      have hw9 : thE σ η k9 = thE σ η (wl n pl nw w (wkP w σ) (true, (σ, κ))).2.2 := by rw [hF]
                      have hP : va_P D vwCl (wM cI cZ a th n nw ns ((wl n pl nw w (wkP w σ) (true, (σ, κ))).2.1) (thE σ η (wl n pl nw w (wkP w σ) (true, (σ, κ))).2.2)) G := Eq.mp (congrArg (fun z9 => va_P D vwCl (wM cI cZ a th n nw ns ((wl n pl nw w (wkP w σ) (true, (σ, κ))).2.1) z9) G) hw9) hP
                      clear hw9
                      exact hEnd 156 ls G locs dX3_go_156 hP hS
                · exact absurd c21 (by decide)
    have hw9 : η = thE σ η κ := (thE_id hη).symm
    have hP : va_P D vwCl (wM cI cZ a th n nw ns σ (thE σ η κ)) H := Eq.mp (congrArg (fun z9 => va_P D vwCl (wM cI cZ a th n nw ns σ z9) H) hw9) hP
    clear hw9
    have hl9 : lv_has ls 7 [(2, .int (nI (mxp (nN (σ 4 w))))), (0, .ref (a 0)), (1, .int (nI w))] := lv_sub hl [0, 1, 2] rfl
    exact L32_2 ((mxp (nN (σ 4 w))) + 1) (mxp (nN (σ 4 w))) σ κ (Nat.lt_succ_self _) (by rw [decide_eq_true hwk]; unfold wkP; first | rw [if_neg (show ¬ σ 11 w = 0 from by rw [show σ 11 w = nI 1 by assumption]; decide)] | rw [if_pos (show σ 11 w = 0 from by rcases hz w with q | q; exact q; exact absurd q (by assumption))]) (fun _ _ _ _ _ _ => rfl) (hPB) (hTH) (by first | omega | exact hpc.2.2 | exact mxp_le hpc.2.2) H locs hP hS ls hl9
  · skip
    refine lv_aload_n hx hb dX3_go_10 rfl (lv_at hl 0 rfl) ?_
    refine lv_iload_n hx hb dX3_go_11 rfl (lv_at hl 1 rfl) ?_
    refine lv_iconst (v := nI 0) hx hb dX3_go_12 rfl ?_
    refine roV (As := [.int (nI w), .int (nI 0)]) (q0 := 0) (ci := 3) hx hb hml hown hts (c_X3_pe l D cI cZ cL cO a th n nw ns σ η H w 0 (hB) (by omega) (by omega)) (cwV 2 hts gX3_go_X3_pe rfl rfl rfl (by decide +kernel) ⟨by decide, by decide⟩) hK hE hP rfl rfl rfl rfl hl.1 rfl (Nat.le_of_ble_eq_true rfl) hS dX3_go_13 ⟨Nat.zero_le _, Nat.zero_le _⟩ (fun locs hS => ?_)
    refine li_topi (show σ (pid 0) w = σ 4 w from rfl) ?_
    refine li_topi (show σ 4 w = nI (nN (σ 4 w)) from hpc.1) ?_
    refine lv_goto (tgt := 31) hx hb dX3_go_16 (by decide) ?_
    refine lv_istore_n (lv' := [(2, .int (nI (nN (σ 4 w)))), (0, .ref (a 0)), (1, .int (nI w))]) hx hb dX3_go_31 rfl hl (by decide) rfl (fun ls hl => ?_)
    have L32_27 : ∀ (fuel : Nat) (lf : Nat) (s9 : Sg) (k9 : Sg), lf < fuel → (wl n pl nw w lf (decide (s9 12 w = nI 1), (s9, k9)) = wl n pl nw w (wkP w σ) (true, (σ, κ))) → (∀ r, r ≠ 8 → r ≠ 9 → r ≠ 12 → r ≠ 13 → r ≠ 15 → s9 r = σ r) → (PB pl nw s9) → (TH n σ k9) → (lf ≤ 3) → ∀ (G : Heap) (locs : List Loc), va_P D vwCl (wM cI cZ a th n nw ns s9 (thE σ η k9)) G → va_S A H G locs → ∀ (ls : Array Slot), lv_has ls 7 [(2, .int (nI lf)), (0, .ref (a 0)), (1, .int (nI w))] → W p l e ({ frames := 3, cells := 0, slots := 0, locals := 66 } : Room) s m args below meth c G locs 0 0 Q (F0 m 32 ls []) := by
      intro fuel
      induction fuel with
      | zero =>
        intro lf s9 k9 hfuel
        exact absurd hfuel (Nat.not_lt_zero _)
      | succ fuel ih32 =>
        intro lf s9 k9 hfuel32 hW hr hPB9 hTH9 hl3 G locs hP hS ls hl
        refine lv_iload_n hx hb dX3_go_32 rfl (lv_at hl 0 rfl) ?_
        refine li_le0 (tgt := 240) hx hb dX3_go_33 (by decide) (by first | omega | (have := wa_le (σ := s9) (nw := nw) (z := s9 13 w + nI 1); omega)) (fun c28 => ?_) (fun c28 => ?_)
        · skip
          have hF := wl_out hW (by first | exact Or.inl (by assumption) | exact Or.inr (by assumption))
          have hw9 : s9 = (wl n pl nw w (wkP w σ) (true, (σ, κ))).2.1 := by rw [hF]
          have hP : va_P D vwCl (wM cI cZ a th n nw ns ((wl n pl nw w (wkP w σ) (true, (σ, κ))).2.1) (thE σ η k9)) G := Eq.mp (congrArg (fun z9 => va_P D vwCl (wM cI cZ a th n nw ns z9 (thE σ η k9)) G) hw9) hP
          clear hw9
          have hw9 : thE σ η k9 = thE σ η (wl n pl nw w (wkP w σ) (true, (σ, κ))).2.2 := by rw [hF]
          have hP : va_P D vwCl (wM cI cZ a th n nw ns ((wl n pl nw w (wkP w σ) (true, (σ, κ))).2.1) (thE σ η (wl n pl nw w (wkP w σ) (true, (σ, κ))).2.2)) G := Eq.mp (congrArg (fun z9 => va_P D vwCl (wM cI cZ a th n nw ns ((wl n pl nw w (wkP w σ) (true, (σ, κ))).2.1) z9) G) hw9) hP
          clear hw9
          exact hEnd 240 ls G locs dX3_go_240 hP hS
        · skip
          obtain ⟨lg, rfl⟩ : ∃ z, lf = z + 1 := ⟨lf - 1, by omega⟩
          refine lv_aload_n hx hb dX3_go_36 rfl (lv_at hl 1 rfl) ?_
          refine lv_iload_n hx hb dX3_go_37 rfl (lv_at hl 2 rfl) ?_
          refine roV (As := [.int (nI w)]) (q0 := 0) (ci := 3) hx hb hml hown hts (c_X3_walks l D cI cZ cL cO a th n nw ns s9 (thE σ η k9) G w (hB) (by omega)) (cwV 1 hts gX3_go_X3_walks rfl rfl rfl (by decide +kernel) ⟨by decide, by decide⟩) hK hE hP rfl rfl rfl rfl hl.1 rfl (Nat.le_of_ble_eq_true rfl) hS dX3_go_38 ⟨Nat.zero_le _, Nat.zero_le _⟩ (fun locs hS => ?_)
          refine li_zeq (tgt := 240) hx hb dX3_go_41 (by decide) (fun c29 => ?_) (fun c29 => ?_)
          · skip
            replace c29 := of_decide_eq_false c29
            have hF := wl_out hW (by first | exact Or.inl (by assumption) | exact Or.inr (by assumption))
            have hw9 : s9 = (wl n pl nw w (wkP w σ) (true, (σ, κ))).2.1 := by rw [hF]
            have hP : va_P D vwCl (wM cI cZ a th n nw ns ((wl n pl nw w (wkP w σ) (true, (σ, κ))).2.1) (thE σ η k9)) G := Eq.mp (congrArg (fun z9 => va_P D vwCl (wM cI cZ a th n nw ns z9 (thE σ η k9)) G) hw9) hP
            clear hw9
            have hw9 : thE σ η k9 = thE σ η (wl n pl nw w (wkP w σ) (true, (σ, κ))).2.2 := by rw [hF]
            have hP : va_P D vwCl (wM cI cZ a th n nw ns ((wl n pl nw w (wkP w σ) (true, (σ, κ))).2.1) (thE σ η (wl n pl nw w (wkP w σ) (true, (σ, κ))).2.2)) G := Eq.mp (congrArg (fun z9 => va_P D vwCl (wM cI cZ a th n nw ns ((wl n pl nw w (wkP w σ) (true, (σ, κ))).2.1) z9) G) hw9) hP
            clear hw9
            exact hEnd 240 ls G locs dX3_go_240 hP hS
          · skip
            replace c29 := of_decide_eq_true c29
            have hwk9 := c29
            obtain ⟨jz, hjz, hz9⟩ := hPB9 w hw hwk9
            have hRF9 : RF n pl s9 := RF_rows hRF (hr 0 (by omega) (by omega) (by omega) (by omega) (by omega)) (hr 2 (by omega) (by omega) (by omega) (by omega) (by omega))
            obtain ⟨j0, hj0, hso, ha, hb9⟩ := RF_on hRF9 hpl hjz
            rw [← hz9] at hso
            refine lv_aload_n hx hb dX3_go_44 rfl (lv_at hl 1 rfl) ?_
            refine lv_iload_n hx hb dX3_go_45 rfl (lv_at hl 2 rfl) ?_
            refine lv_iconst (v := nI 5) hx hb dX3_go_46 rfl ?_
            refine roV (As := [.int (nI w), .int (nI 5)]) (q0 := 0) (ci := 3) hx hb hml hown hts (c_X3_pe l D cI cZ cL cO a th n nw ns s9 (thE σ η k9) G w 5 (hB) (by omega) (by omega)) (cwV 2 hts gX3_go_X3_pe rfl rfl rfl (by decide +kernel) ⟨by decide, by decide⟩) hK hE hP rfl rfl rfl rfl hl.1 rfl (Nat.le_of_ble_eq_true rfl) hS dX3_go_47 ⟨Nat.zero_le _, Nat.zero_le _⟩ (fun locs hS => ?_)
            refine li_topi (show s9 (pid 5) w = s9 13 w from rfl) ?_
            refine lv_istore_n (lv' := [(3, .int (s9 13 w)), (2, .int (nI (lg + 1))), (0, .ref (a 0)), (1, .int (nI w))]) hx hb dX3_go_50 rfl hl (by decide) rfl (fun ls hl => ?_)
            refine lv_aload_n hx hb dX3_go_51 rfl (lv_at hl 2 rfl) ?_
            refine lv_iload_n hx hb dX3_go_52 rfl (lv_at hl 0 rfl) ?_
            refine roV (As := [.int (s9 13 w)]) (q0 := 0) (ci := 3) hx hb hml hown hts (c_X3_stretchOf l D cI cZ cL cO a th n nw ns s9 (thE σ η k9) G (s9 13 w) (hB) (j0) (by assumption)) (cwV 1 hts gX3_go_X3_stretchOf rfl rfl rfl (by decide +kernel) ⟨by decide, by decide⟩) hK hE hP rfl rfl rfl rfl hl.1 rfl (Nat.le_of_ble_eq_true rfl) hS dX3_go_53 ⟨Nat.zero_le _, Nat.zero_le _⟩ (fun locs hS => ?_)
            refine lv_istore (lv' := [(4, .int (nI j0)), (3, .int (s9 13 w)), (2, .int (nI (lg + 1))), (0, .ref (a 0)), (1, .int (nI w))]) hx hb dX3_go_56 hl (by decide) rfl (fun ls hl => ?_)
            refine lv_iload_n hx hb dX3_go_58 rfl (lv_at hl 1 rfl) ?_
            refine lv_aload_n hx hb dX3_go_59 rfl (lv_at hl 3 rfl) ?_
            refine lv_iload hx hb dX3_go_60 (lv_at hl 0 rfl) ?_
            refine lv_iconst (v := nI 2) hx hb dX3_go_62 rfl ?_
            refine roV (As := [.int (nI j0), .int (nI 2)]) (q0 := 0) (ci := 3) hx hb hml hown hts (c_X3_ro l D cI cZ cL cO a th n nw ns s9 (thE σ η k9) G j0 2 (hB) (by omega) (by omega)) (cwV 2 hts gX3_go_X3_ro rfl rfl rfl (by decide +kernel) ⟨by decide, by decide⟩) hK hE hP rfl rfl rfl rfl hl.1 rfl (Nat.le_of_ble_eq_true rfl) hS dX3_go_63 ⟨Nat.zero_le _, Nat.zero_le _⟩ (fun locs hS => ?_)
            refine li_topi (show s9 (rid 2) j0 = s9 2 j0 from rfl) ?_
            refine lv_aload_n hx hb dX3_go_66 rfl (lv_at hl 3 rfl) ?_
            refine lv_iload hx hb dX3_go_67 (lv_at hl 0 rfl) ?_
            refine lv_iconst (v := nI 0) hx hb dX3_go_69 rfl ?_
            refine roV (As := [.int (nI j0), .int (nI 0)]) (q0 := 0) (ci := 3) hx hb hml hown hts (c_X3_ro l D cI cZ cL cO a th n nw ns s9 (thE σ η k9) G j0 0 (hB) (by omega) (by omega)) (cwV 2 hts gX3_go_X3_ro rfl rfl rfl (by decide +kernel) ⟨by decide, by decide⟩) hK hE hP rfl rfl rfl rfl hl.1 rfl (Nat.le_of_ble_eq_true rfl) hS dX3_go_70 ⟨Nat.zero_le _, Nat.zero_le _⟩ (fun locs hS => ?_)
            refine li_topi (show s9 (rid 0) j0 = s9 0 j0 from rfl) ?_
            refine lv_iadd hx hb dX3_go_73 ?_
            refine lv_iconst (v := nI 1) hx hb dX3_go_74 rfl ?_
            refine lv_isub hx hb dX3_go_75 ?_
            refine lv_icmp_ne (tgt := 83) hx hb dX3_go_76 (by decide) (fun c30 => ?_) (fun c30 => ?_)
            · skip
              have hcor := mt (gm_c hRF9 hj0 hz9 hpl hjz).mpr c30
              have hse := gm_sn hRF9 hj0 hz9 hpl hjz ha hb9 hcor
              refine lv_iconst (v := nI 0) hx hb dX3_go_83 rfl ?_
              refine lv_istore (lv' := [(5, .int (nI 0)), (4, .int (nI j0)), (3, .int (s9 13 w)), (2, .int (nI (lg + 1))), (0, .ref (a 0)), (1, .int (nI w))]) hx hb dX3_go_84 hl (by decide) rfl (fun ls hl => ?_)
              refine lv_iload_n hx hb dX3_go_86 rfl (lv_at hl 2 rfl) ?_
              refine lv_aload_n hx hb dX3_go_87 rfl (lv_at hl 4 rfl) ?_
              refine roV (As := []) (q0 := 0) (ci := 3) hx hb hml hown hts (c_X3_places l D cI cZ cL cO a th n nw ns s9 (thE σ η k9) G (hB)) (cwV 0 hts gX3_go_X3_places rfl rfl rfl (by decide +kernel) ⟨by decide, by decide⟩) hK hE hP rfl rfl rfl rfl hl.1 rfl (Nat.le_of_ble_eq_true rfl) hS dX3_go_88 ⟨Nat.zero_le _, Nat.zero_le _⟩ (fun locs hS => ?_)
              refine lv_iconst (v := nI 1) hx hb dX3_go_91 rfl ?_
              refine lv_isub hx hb dX3_go_92 ?_
              refine lv_icmp_ne (tgt := 100) hx hb dX3_go_93 (by decide) (fun c31 => ?_) (fun c31 => ?_)
              · skip
                have hend := mt (gm_e hRF9 hz9 hpl hjz).mpr c31
                have hlt := (gm_lt (w := w) hz9 hpl hjz).mpr hend
                refine lv_iconst (v := nI 0) hx hb dX3_go_100 rfl ?_
                refine lv_istore (lv' := [(6, .int (nI 0)), (5, .int (nI 0)), (4, .int (nI j0)), (3, .int (s9 13 w)), (2, .int (nI (lg + 1))), (0, .ref (a 0)), (1, .int (nI w))]) hx hb dX3_go_101 hl (by decide) rfl (fun ls hl => ?_)
                refine lv_iload hx hb dX3_go_103 (lv_at hl 0 rfl) ?_
                refine li_ne0 (tgt := 120) hx hb dX3_go_105 (by decide) (by first | omega | (have := wa_le (σ := s9) (nw := nw) (z := s9 13 w + nI 1); omega)) (fun c32 => ?_) (fun c32 => ?_)
                · exact absurd c32 (by decide)
                · skip
                  refine lv_aload_n hx hb dX3_go_108 rfl (lv_at hl 5 rfl) ?_
                  refine lv_iload_n hx hb dX3_go_109 rfl (lv_at hl 3 rfl) ?_
                  refine lv_iconst (v := nI 1) hx hb dX3_go_110 rfl ?_
                  refine lv_iadd hx hb dX3_go_111 ?_
                  refine roV (As := [.int ((s9 13 w) + (nI 1))]) (q0 := 0) (ci := 3) hx hb hml hown hts (c_X3_at l D cI cZ cL cO a th n nw ns s9 (thE σ η k9) G ((s9 13 w) + (nI 1)) (hB)) (cwV 1 hts gX3_go_X3_at rfl rfl rfl (by decide +kernel) ⟨by decide, by decide⟩) hK hE hP rfl rfl rfl rfl hl.1 rfl (Nat.le_of_ble_eq_true rfl) hS dX3_go_112 ⟨Nat.zero_le _, Nat.zero_le _⟩ (fun locs hS => ?_)
                  refine lv_iconst (v := nI 1) hx hb dX3_go_115 rfl ?_
                  refine li_le (tgt := 120) hx hb dX3_go_116 (by decide) (by first | omega | (have := wa_le (σ := s9) (nw := nw) (z := s9 13 w + nI 1); omega)) (by first | omega | (have := wa_le (σ := s9) (nw := nw) (z := s9 13 w + nI 1); omega)) (fun c33 => ?_) (fun c33 => ?_)
                  · skip
                    have hwa : wa s9 nw (s9 13 w + nI 1) < 2 := by omega
                    refine lv_iload hx hb dX3_go_120 (lv_at hl 1 rfl) ?_
                    refine li_eq0 (tgt := 157) hx hb dX3_go_122 (by decide) (by first | omega | (have := wa_le (σ := s9) (nw := nw) (z := s9 13 w + nI 1); omega)) (fun c34 => ?_) (fun c34 => ?_)
                    · skip
                      refine lv_iload hx hb dX3_go_157 (lv_at hl 1 rfl) ?_
                      refine li_eq0 (tgt := 188) hx hb dX3_go_159 (by decide) (by first | omega | (have := wa_le (σ := s9) (nw := nw) (z := s9 13 w + nI 1); omega)) (fun c35 => ?_) (fun c35 => ?_)
                      · skip
                        refine lv_aload_n hx hb dX3_go_188 rfl (lv_at hl 5 rfl) ?_
                        refine lv_iload_n hx hb dX3_go_189 rfl (lv_at hl 6 rfl) ?_
                        refine lv_iconst (v := nI 5) hx hb dX3_go_190 rfl ?_
                        refine lv_iload hx hb dX3_go_191 (lv_at hl 0 rfl) ?_
                        refine li_eq0 (tgt := 200) hx hb dX3_go_193 (by decide) (by first | omega | (have := wa_le (σ := s9) (nw := nw) (z := s9 13 w + nI 1); omega)) (fun c36 => ?_) (fun c36 => ?_)
                        · skip
                          refine lv_iload_n hx hb dX3_go_200 rfl (lv_at hl 3 rfl) ?_
                          refine lv_iconst (v := nI 1) hx hb dX3_go_201 rfl ?_
                          refine lv_iadd hx hb dX3_go_202 ?_
                          refine muV (As := [.int (nI w), .int (nI 5), .int ((s9 13 w) + (nI 1))]) (q0 := 0) (ci := 3) hx hb hml hown hts (c_X3_set l D cI cZ cL cO a th n nw ns s9 (thE σ η k9) G w 5 ((s9 13 w) + (nI 1)) A hA (hB) (by omega) (by omega)) (cwV 3 hts gX3_go_X3_set rfl rfl rfl (by decide +kernel) ⟨by decide, by decide⟩) hK hE hP rfl rfl rfl rfl hl.1 rfl (Nat.le_of_ble_eq_true rfl) hS (fun _ h => h) dX3_go_203 ⟨Nat.zero_le _, Nat.zero_le _⟩ (fun G locs hP _ _ hS => ?_)
                          have hP : va_P D vwCl (wM cI cZ a th n nw ns (up2 s9 13 w ((s9 13 w) + (nI 1))) (thE σ η k9)) G := hP
                          refine lv_iload hx hb dX3_go_206 (lv_at hl 0 rfl) ?_
                          refine li_ne0 (tgt := 214) hx hb dX3_go_208 (by decide) (by first | omega | (have := wa_le (σ := s9) (nw := nw) (z := s9 13 w + nI 1); omega)) (fun c37 => ?_) (fun c37 => ?_)
                          · exact absurd c37 (by decide)
                          · skip
                            refine lv_goto (tgt := 234) hx hb dX3_go_211 (by decide) ?_
                            refine lv_iinc (v := nI lg) (lv' := [(2, .int (nI lg)), (6, .int (nI 0)), (5, .int (nI 0)), (4, .int (nI j0)), (3, .int (s9 13 w)), (0, .ref (a 0)), (1, .int (nI w))]) hx hb dX3_go_234 hl (k := 4) rfl (nI_dec1 _) (by decide) rfl (fun ls hl => ?_)
                            refine lv_goto (tgt := 32) hx hb dX3_go_237 (by decide) ?_
                            have hw9 : up2 s9 13 w ((s9 13 w) + (nI 1)) = (up2 s9 13 w ((s9 13 w) + (nI 1))) := rfl
                            have hP : va_P D vwCl (wM cI cZ a th n nw ns (up2 s9 13 w ((s9 13 w) + (nI 1))) (thE σ η k9)) G := Eq.mp (congrArg (fun z9 => va_P D vwCl (wM cI cZ a th n nw ns z9 (thE σ η k9)) G) hw9) hP
                            clear hw9
                            have hl9 : lv_has ls 7 [(2, .int (nI lg)), (0, .ref (a 0)), (1, .int (nI w))] := lv_sub hl [0, 5, 6] rfl
                            exact ih32 lg (up2 s9 13 w ((s9 13 w) + (nI 1))) k9 (by omega) (by have h9 := wl_next hW hwk9 (gs_d hwa hse hlt); rw [decide_eq_true (show up2 s9 13 w (s9 13 w + nI 1) 12 w = nI 1 from by rw [up2_row _ _ _ _ (by omega)]; exact hwk9)]; exact h9) (fun r a8 a9 a12 a13 a15 => by rw [up2_row _ _ _ _ a13]; exact hr r a8 a9 a12 a13 a15) (PB_walk hPB9 (up2_row _ _ _ _ (by omega)) (fun o ho => by rw [up2_at, if_neg (fun z => ho z.2)]) ⟨jz + 1, by omega, by rw [up2_at, if_pos ⟨rfl, rfl⟩, hz9, nI_add]⟩) (hTH9) (by omega) G locs hP hS ls hl9
                        · exact absurd c36 (by decide)
                      · exact absurd c35 (by decide)
                    · exact absurd c34 (by decide)
                  · skip
                    have hF := wl_end hW hwk9 (g1_a (by omega))
                    have hw9 : s9 = (wl n pl nw w (wkP w σ) (true, (σ, κ))).2.1 := by rw [hF]
                    have hP : va_P D vwCl (wM cI cZ a th n nw ns ((wl n pl nw w (wkP w σ) (true, (σ, κ))).2.1) (thE σ η k9)) G := Eq.mp (congrArg (fun z9 => va_P D vwCl (wM cI cZ a th n nw ns z9 (thE σ η k9)) G) hw9) hP
                    clear hw9
                    have hw9 : thE σ η k9 = thE σ η (wl n pl nw w (wkP w σ) (true, (σ, κ))).2.2 := by rw [hF]
                    have hP : va_P D vwCl (wM cI cZ a th n nw ns ((wl n pl nw w (wkP w σ) (true, (σ, κ))).2.1) (thE σ η (wl n pl nw w (wkP w σ) (true, (σ, κ))).2.2)) G := Eq.mp (congrArg (fun z9 => va_P D vwCl (wM cI cZ a th n nw ns ((wl n pl nw w (wkP w σ) (true, (σ, κ))).2.1) z9) G) hw9) hP
                    clear hw9
                    exact hEnd 119 ls G locs dX3_go_119 hP hS
              · skip
                have hend := (gm_e hRF9 hz9 hpl hjz).mp c31
                exact absurd (gm_ec hRF9 hj0 ha hb9 hend) hcor
            · skip
              have hcor := (gm_c hRF9 hj0 hz9 hpl hjz).mp c30
              have hse := gm_sc hRF9 hj0 hz9 hpl hjz ha hb9 hcor
              refine lv_iconst (v := nI 1) hx hb dX3_go_79 rfl ?_
              refine lv_goto (tgt := 84) hx hb dX3_go_80 (by decide) ?_
              refine lv_istore (lv' := [(5, .int (nI 1)), (4, .int (nI j0)), (3, .int (s9 13 w)), (2, .int (nI (lg + 1))), (0, .ref (a 0)), (1, .int (nI w))]) hx hb dX3_go_84 hl (by decide) rfl (fun ls hl => ?_)
              refine lv_iload_n hx hb dX3_go_86 rfl (lv_at hl 2 rfl) ?_
              refine lv_aload_n hx hb dX3_go_87 rfl (lv_at hl 4 rfl) ?_
              refine roV (As := []) (q0 := 0) (ci := 3) hx hb hml hown hts (c_X3_places l D cI cZ cL cO a th n nw ns s9 (thE σ η k9) G (hB)) (cwV 0 hts gX3_go_X3_places rfl rfl rfl (by decide +kernel) ⟨by decide, by decide⟩) hK hE hP rfl rfl rfl rfl hl.1 rfl (Nat.le_of_ble_eq_true rfl) hS dX3_go_88 ⟨Nat.zero_le _, Nat.zero_le _⟩ (fun locs hS => ?_)
              refine lv_iconst (v := nI 1) hx hb dX3_go_91 rfl ?_
              refine lv_isub hx hb dX3_go_92 ?_
              refine lv_icmp_ne (tgt := 100) hx hb dX3_go_93 (by decide) (fun c38 => ?_) (fun c38 => ?_)
              · skip
                have hend := mt (gm_e hRF9 hz9 hpl hjz).mpr c38
                have hlt := (gm_lt (w := w) hz9 hpl hjz).mpr hend
                refine lv_iconst (v := nI 0) hx hb dX3_go_100 rfl ?_
                refine lv_istore (lv' := [(6, .int (nI 0)), (5, .int (nI 1)), (4, .int (nI j0)), (3, .int (s9 13 w)), (2, .int (nI (lg + 1))), (0, .ref (a 0)), (1, .int (nI w))]) hx hb dX3_go_101 hl (by decide) rfl (fun ls hl => ?_)
                refine lv_iload hx hb dX3_go_103 (lv_at hl 0 rfl) ?_
                refine li_ne0 (tgt := 120) hx hb dX3_go_105 (by decide) (by first | omega | (have := wa_le (σ := s9) (nw := nw) (z := s9 13 w + nI 1); omega)) (fun c39 => ?_) (fun c39 => ?_)
                · exact absurd c39 (by decide)
                · skip
                  refine lv_aload_n hx hb dX3_go_108 rfl (lv_at hl 5 rfl) ?_
                  refine lv_iload_n hx hb dX3_go_109 rfl (lv_at hl 3 rfl) ?_
                  refine lv_iconst (v := nI 1) hx hb dX3_go_110 rfl ?_
                  refine lv_iadd hx hb dX3_go_111 ?_
                  refine roV (As := [.int ((s9 13 w) + (nI 1))]) (q0 := 0) (ci := 3) hx hb hml hown hts (c_X3_at l D cI cZ cL cO a th n nw ns s9 (thE σ η k9) G ((s9 13 w) + (nI 1)) (hB)) (cwV 1 hts gX3_go_X3_at rfl rfl rfl (by decide +kernel) ⟨by decide, by decide⟩) hK hE hP rfl rfl rfl rfl hl.1 rfl (Nat.le_of_ble_eq_true rfl) hS dX3_go_112 ⟨Nat.zero_le _, Nat.zero_le _⟩ (fun locs hS => ?_)
                  refine lv_iconst (v := nI 1) hx hb dX3_go_115 rfl ?_
                  refine li_le (tgt := 120) hx hb dX3_go_116 (by decide) (by first | omega | (have := wa_le (σ := s9) (nw := nw) (z := s9 13 w + nI 1); omega)) (by first | omega | (have := wa_le (σ := s9) (nw := nw) (z := s9 13 w + nI 1); omega)) (fun c40 => ?_) (fun c40 => ?_)
                  · skip
                    have hwa : wa s9 nw (s9 13 w + nI 1) < 2 := by omega
                    refine lv_iload hx hb dX3_go_120 (lv_at hl 1 rfl) ?_
                    refine li_eq0 (tgt := 157) hx hb dX3_go_122 (by decide) (by first | omega | (have := wa_le (σ := s9) (nw := nw) (z := s9 13 w + nI 1); omega)) (fun c41 => ?_) (fun c41 => ?_)
                    · exact absurd c41 (by decide)
                    · skip
                      refine lv_aload_n hx hb dX3_go_125 rfl (lv_at hl 5 rfl) ?_
                      refine li_gf3 hx hb hX3 hown hK hP 0 rfl 13 (by decide) f38 rfl dX3_go_126 ?_
                      refine lv_iload hx hb dX3_go_129 (lv_at hl 2 rfl) ?_
                      refine li_ild hx hb hK hP 10 0 rfl rfl (by omega) (by decide) dX3_go_131 ?_
                      refine li_topi (show (thE σ η k9) 2 j0 = thr σ k9 j0 from rfl) ?_
                      refine lv_aload_n hx hb dX3_go_132 rfl (lv_at hl 5 rfl) ?_
                      refine lv_iload hx hb dX3_go_133 (lv_at hl 2 rfl) ?_
                      refine roV (As := [.int (nI j0)]) (q0 := 0) (ci := 3) hx hb hml hown hts (c_X3_lets l D cI cZ cL cO a th n nw ns s9 (thE σ η k9) G j0 (hB) (by omega)) (cwV 1 hts gX3_go_X3_lets rfl rfl rfl (by decide +kernel) ⟨by decide, by decide⟩) hK hE hP rfl rfl rfl rfl hl.1 rfl (Nat.le_of_ble_eq_true rfl) hS dX3_go_135 ⟨Nat.zero_le _, Nat.zero_le _⟩ (fun locs hS => ?_)
                      refine li_topi (show lt_ s9 j0 2 = lt_ σ j0 2 from lt_rows (hr 1 (by omega) (by omega) (by omega) (by omega) (by omega)) (hr 7 (by omega) (by omega) (by omega) (by omega) (by omega)) j0 2) ?_
                      refine lv_icmp_ne (tgt := 157) hx hb dX3_go_138 (by decide) (fun c42 => ?_) (fun c42 => ?_)
                      · skip
                        have hp1 : 0 < k9 3 j0 := Decidable.byContradiction (fun q => c42 ((TH_eq hTH9 hj0).mpr q))
                        refine lv_iload hx hb dX3_go_157 (lv_at hl 1 rfl) ?_
                        refine li_eq0 (tgt := 188) hx hb dX3_go_159 (by decide) (by first | omega | (have := wa_le (σ := s9) (nw := nw) (z := s9 13 w + nI 1); omega)) (fun c43 => ?_) (fun c43 => ?_)
                        · exact absurd c43 (by decide)
                        · skip
                          refine lv_aload_n hx hb dX3_go_162 rfl (lv_at hl 5 rfl) ?_
                          refine li_gf3 hx hb hX3 hown hK hP 0 rfl 13 (by decide) f38 rfl dX3_go_163 ?_
                          refine lv_iload hx hb dX3_go_166 (lv_at hl 2 rfl) ?_
                          refine lv_dup2_11 hx hb dX3_go_168 rfl rfl ?_
                          refine li_ild hx hb hK hP 10 0 rfl rfl (by omega) (by decide) dX3_go_169 ?_
                          refine lv_iconst (v := nI 1) hx hb dX3_go_170 rfl ?_
                          refine lv_iadd hx hb dX3_go_171 ?_
                          refine li_ist hx hb hK hP hA.DM hS 10 0 rfl rfl (by omega) (by decide) stE_2 dX3_go_172 (fun G locs hP hS => ?_)
                          refine lv_aload_n hx hb dX3_go_173 rfl (lv_at hl 5 rfl) ?_
                          refine li_gf3 hx hb hX3 hown hK hP 0 rfl 2 (by decide) f9 rfl dX3_go_174 ?_
                          refine lv_iconst (v := nI 5) hx hb dX3_go_177 rfl ?_
                          refine lv_iload hx hb dX3_go_178 (lv_at hl 2 rfl) ?_
                          refine lv_imul hx hb dX3_go_180 ?_
                          refine li_topi (pk_mul _ _) ?_
                          refine lv_iconst (v := nI 3) hx hb dX3_go_181 rfl ?_
                          refine lv_iadd hx hb dX3_go_182 ?_
                          refine li_topi (nI_add _ _) ?_
                          refine lv_dup2_11 hx hb dX3_go_183 rfl rfl ?_
                          refine li_ild hx hb hK hP 1 0 rfl rfl (by omega) (by decide) dX3_go_184 ?_
                          refine li_topi (show encR s9 (5 * j0 + 3) = s9 8 j0 from encR_at (by omega)) ?_
                          refine lv_iconst (v := nI 1) hx hb dX3_go_185 rfl ?_
                          refine lv_iadd hx hb dX3_go_186 ?_
                          refine li_ist hx hb hK hP hA.DM hS 1 0 rfl rfl (by omega) (by decide) (stM_R (by omega)) dX3_go_187 (fun G locs hP hS => ?_)
                          refine lv_aload_n hx hb dX3_go_188 rfl (lv_at hl 5 rfl) ?_
                          refine lv_iload_n hx hb dX3_go_189 rfl (lv_at hl 6 rfl) ?_
                          refine lv_iconst (v := nI 5) hx hb dX3_go_190 rfl ?_
                          refine lv_iload hx hb dX3_go_191 (lv_at hl 0 rfl) ?_
                          refine li_eq0 (tgt := 200) hx hb dX3_go_193 (by decide) (by first | omega | (have := wa_le (σ := s9) (nw := nw) (z := s9 13 w + nI 1); omega)) (fun c44 => ?_) (fun c44 => ?_)
                          · skip
                            refine lv_iload_n hx hb dX3_go_200 rfl (lv_at hl 3 rfl) ?_
                            refine lv_iconst (v := nI 1) hx hb dX3_go_201 rfl ?_
                            refine lv_iadd hx hb dX3_go_202 ?_
                            refine muV (As := [.int (nI w), .int (nI 5), .int ((s9 13 w) + (nI 1))]) (q0 := 0) (ci := 3) hx hb hml hown hts (c_X3_set l D cI cZ cL cO a th n nw ns (up2 s9 8 j0 ((s9 8 j0) + (nI 1))) (up2 (thE σ η k9) 2 j0 (((thE σ η k9) 2 j0) + (nI 1))) G w 5 ((s9 13 w) + (nI 1)) A hA (hB) (by omega) (by omega)) (cwV 3 hts gX3_go_X3_set rfl rfl rfl (by decide +kernel) ⟨by decide, by decide⟩) hK hE hP rfl rfl rfl rfl hl.1 rfl (Nat.le_of_ble_eq_true rfl) hS (fun _ h => h) dX3_go_203 ⟨Nat.zero_le _, Nat.zero_le _⟩ (fun G locs hP _ _ hS => ?_)
                            have hP : va_P D vwCl (wM cI cZ a th n nw ns (up2 (up2 s9 8 j0 ((s9 8 j0) + (nI 1))) 13 w ((s9 13 w) + (nI 1))) (up2 (thE σ η k9) 2 j0 (((thE σ η k9) 2 j0) + (nI 1)))) G := hP
                            refine lv_iload hx hb dX3_go_206 (lv_at hl 0 rfl) ?_
                            refine li_ne0 (tgt := 214) hx hb dX3_go_208 (by decide) (by first | omega | (have := wa_le (σ := s9) (nw := nw) (z := s9 13 w + nI 1); omega)) (fun c45 => ?_) (fun c45 => ?_)
                            · exact absurd c45 (by decide)
                            · skip
                              refine lv_goto (tgt := 234) hx hb dX3_go_211 (by decide) ?_
                              refine lv_iinc (v := nI lg) (lv' := [(2, .int (nI lg)), (6, .int (nI 0)), (5, .int (nI 1)), (4, .int (nI j0)), (3, .int (s9 13 w)), (0, .ref (a 0)), (1, .int (nI w))]) hx hb dX3_go_234 hl (k := 4) rfl (nI_dec1 _) (by decide) rfl (fun ls hl => ?_)
                              refine lv_goto (tgt := 32) hx hb dX3_go_237 (by decide) ?_
                              have hw9 : up2 (up2 s9 8 j0 ((s9 8 j0) + (nI 1))) 13 w ((s9 13 w) + (nI 1)) = (up2 (up2 s9 8 j0 ((s9 8 j0) + (nI 1))) 13 w ((s9 13 w) + (nI 1))) := rfl
                              have hP : va_P D vwCl (wM cI cZ a th n nw ns (up2 (up2 s9 8 j0 ((s9 8 j0) + (nI 1))) 13 w ((s9 13 w) + (nI 1))) (up2 (thE σ η k9) 2 j0 (((thE σ η k9) 2 j0) + (nI 1)))) G := Eq.mp (congrArg (fun z9 => va_P D vwCl (wM cI cZ a th n nw ns z9 (up2 (thE σ η k9) 2 j0 (((thE σ η k9) 2 j0) + (nI 1)))) G) hw9) hP
                              clear hw9
                              have hw9 : up2 (thE σ η k9) 2 j0 (((thE σ η k9) 2 j0) + (nI 1)) = thE σ η (up2 k9 3 j0 (k9 3 j0 - nI 1)) := thE_up
                              have hP : va_P D vwCl (wM cI cZ a th n nw ns (up2 (up2 s9 8 j0 ((s9 8 j0) + (nI 1))) 13 w ((s9 13 w) + (nI 1))) (thE σ η (up2 k9 3 j0 (k9 3 j0 - nI 1)))) G := Eq.mp (congrArg (fun z9 => va_P D vwCl (wM cI cZ a th n nw ns (up2 (up2 s9 8 j0 ((s9 8 j0) + (nI 1))) 13 w ((s9 13 w) + (nI 1))) z9) G) hw9) hP
                              clear hw9
                              have hl9 : lv_has ls 7 [(2, .int (nI lg)), (0, .ref (a 0)), (1, .int (nI w))] := lv_sub hl [0, 5, 6] rfl
                              exact ih32 lg (up2 (up2 s9 8 j0 ((s9 8 j0) + (nI 1))) 13 w ((s9 13 w) + (nI 1))) (up2 k9 3 j0 (k9 3 j0 - nI 1)) (by omega) (by have h9 := wl_next hW hwk9 (gs_f hwa hse hp1 hlt); rw [decide_eq_true (show up2 (up2 s9 8 j0 (s9 8 j0 + nI 1)) 13 w (s9 13 w + nI 1) 12 w = nI 1 from by rw [up2_row _ _ _ _ (by omega), up2_row _ _ _ _ (by omega)]; exact hwk9)]; exact h9) (fun r a8 a9 a12 a13 a15 => by rw [up2_row _ _ _ _ a13, up2_row _ _ _ _ a8]; exact hr r a8 a9 a12 a13 a15) (PB_walk hPB9 (by rw [up2_row _ _ _ _ (by omega), up2_row _ _ _ _ (by omega)]) (fun o ho => by rw [up2_at, if_neg (fun z => ho z.2), up2_row _ _ _ _ (by omega)]) ⟨jz + 1, by omega, by rw [up2_at, if_pos ⟨rfl, rfl⟩, hz9, nI_add]⟩) (TH_up hTH9 hj0 hp1) (by omega) G locs hP hS ls hl9
                          · exact absurd c44 (by decide)
                      · skip
                        have hp0 : ¬ 0 < k9 3 j0 := (TH_eq hTH9 hj0).mp c42
                        refine lv_aload_n hx hb dX3_go_141 rfl (lv_at hl 5 rfl) ?_
                        refine li_gf3 hx hb hX3 hown hK hP 0 rfl 2 (by decide) f9 rfl dX3_go_142 ?_
                        refine lv_iconst (v := nI 5) hx hb dX3_go_145 rfl ?_
                        refine lv_iload hx hb dX3_go_146 (lv_at hl 2 rfl) ?_
                        refine lv_imul hx hb dX3_go_148 ?_
                        refine li_topi (pk_mul _ _) ?_
                        refine lv_iconst (v := nI 4) hx hb dX3_go_149 rfl ?_
                        refine lv_iadd hx hb dX3_go_150 ?_
                        refine li_topi (nI_add _ _) ?_
                        refine lv_dup2_11 hx hb dX3_go_151 rfl rfl ?_
                        refine li_ild hx hb hK hP 1 0 rfl rfl (by omega) (by decide) dX3_go_152 ?_
                        refine li_topi (show encR s9 (5 * j0 + 4) = s9 9 j0 from encR_at (by omega)) ?_
                        refine lv_iconst (v := nI 1) hx hb dX3_go_153 rfl ?_
                        refine lv_iadd hx hb dX3_go_154 ?_
                        refine li_ist hx hb hK hP hA.DM hS 1 0 rfl rfl (by omega) (by decide) (stM_R (by omega)) dX3_go_155 (fun G locs hP hS => ?_)
                        have hF := wl_end hW hwk9 (gs_b hwa hse hp0)
                        have hw9 : up2 s9 9 j0 ((s9 9 j0) + (nI 1)) = (wl n pl nw w (wkP w σ) (true, (σ, κ))).2.1 := by rw [hF]
                        have hP : va_P D vwCl (wM cI cZ a th n nw ns ((wl n pl nw w (wkP w σ) (true, (σ, κ))).2.1) (thE σ η k9)) G := Eq.mp (congrArg (fun z9 => va_P D vwCl (wM cI cZ a th n nw ns z9 (thE σ η k9)) G) hw9) hP
                        clear hw9
                        have hw9 : thE σ η k9 = thE σ η (wl n pl nw w (wkP w σ) (true, (σ, κ))).2.2 := by rw [hF]
                        have hP : va_P D vwCl (wM cI cZ a th n nw ns ((wl n pl nw w (wkP w σ) (true, (σ, κ))).2.1) (thE σ η (wl n pl nw w (wkP w σ) (true, (σ, κ))).2.2)) G := Eq.mp (congrArg (fun z9 => va_P D vwCl (wM cI cZ a th n nw ns ((wl n pl nw w (wkP w σ) (true, (σ, κ))).2.1) z9) G) hw9) hP
                        clear hw9
                        exact hEnd 156 ls G locs dX3_go_156 hP hS
                  · skip
                    have hF := wl_end hW hwk9 (g1_a (by omega))
                    have hw9 : s9 = (wl n pl nw w (wkP w σ) (true, (σ, κ))).2.1 := by rw [hF]
                    have hP : va_P D vwCl (wM cI cZ a th n nw ns ((wl n pl nw w (wkP w σ) (true, (σ, κ))).2.1) (thE σ η k9)) G := Eq.mp (congrArg (fun z9 => va_P D vwCl (wM cI cZ a th n nw ns z9 (thE σ η k9)) G) hw9) hP
                    clear hw9
                    have hw9 : thE σ η k9 = thE σ η (wl n pl nw w (wkP w σ) (true, (σ, κ))).2.2 := by rw [hF]
                    have hP : va_P D vwCl (wM cI cZ a th n nw ns ((wl n pl nw w (wkP w σ) (true, (σ, κ))).2.1) (thE σ η (wl n pl nw w (wkP w σ) (true, (σ, κ))).2.2)) G := Eq.mp (congrArg (fun z9 => va_P D vwCl (wM cI cZ a th n nw ns ((wl n pl nw w (wkP w σ) (true, (σ, κ))).2.1) z9) G) hw9) hP
                    clear hw9
                    exact hEnd 119 ls G locs dX3_go_119 hP hS
              · skip
                have hend := (gm_e hRF9 hz9 hpl hjz).mp c38
                have hwa := gm_wa hPB9 hz9 hpl hend
                have hlt := mt (gm_lt (w := w) hz9 hpl hjz).mp (fun q => q hend)
                refine lv_iconst (v := nI 1) hx hb dX3_go_96 rfl ?_
                refine lv_goto (tgt := 101) hx hb dX3_go_97 (by decide) ?_
                refine lv_istore (lv' := [(6, .int (nI 1)), (5, .int (nI 1)), (4, .int (nI j0)), (3, .int (s9 13 w)), (2, .int (nI (lg + 1))), (0, .ref (a 0)), (1, .int (nI w))]) hx hb dX3_go_101 hl (by decide) rfl (fun ls hl => ?_)
                refine lv_iload hx hb dX3_go_103 (lv_at hl 0 rfl) ?_
                refine li_ne0 (tgt := 120) hx hb dX3_go_105 (by decide) (by first | omega | (have := wa_le (σ := s9) (nw := nw) (z := s9 13 w + nI 1); omega)) (fun c46 => ?_) (fun c46 => ?_)
                · skip
                  refine lv_iload hx hb dX3_go_120 (lv_at hl 1 rfl) ?_
                  refine li_eq0 (tgt := 157) hx hb dX3_go_122 (by decide) (by first | omega | (have := wa_le (σ := s9) (nw := nw) (z := s9 13 w + nI 1); omega)) (fun c47 => ?_) (fun c47 => ?_)
                  · exact absurd c47 (by decide)
                  · skip
                    refine lv_aload_n hx hb dX3_go_125 rfl (lv_at hl 5 rfl) ?_
                    refine li_gf3 hx hb hX3 hown hK hP 0 rfl 13 (by decide) f38 rfl dX3_go_126 ?_
                    refine lv_iload hx hb dX3_go_129 (lv_at hl 2 rfl) ?_
                    refine li_ild hx hb hK hP 10 0 rfl rfl (by omega) (by decide) dX3_go_131 ?_
                    refine li_topi (show (thE σ η k9) 2 j0 = thr σ k9 j0 from rfl) ?_
                    refine lv_aload_n hx hb dX3_go_132 rfl (lv_at hl 5 rfl) ?_
                    refine lv_iload hx hb dX3_go_133 (lv_at hl 2 rfl) ?_
                    refine roV (As := [.int (nI j0)]) (q0 := 0) (ci := 3) hx hb hml hown hts (c_X3_lets l D cI cZ cL cO a th n nw ns s9 (thE σ η k9) G j0 (hB) (by omega)) (cwV 1 hts gX3_go_X3_lets rfl rfl rfl (by decide +kernel) ⟨by decide, by decide⟩) hK hE hP rfl rfl rfl rfl hl.1 rfl (Nat.le_of_ble_eq_true rfl) hS dX3_go_135 ⟨Nat.zero_le _, Nat.zero_le _⟩ (fun locs hS => ?_)
                    refine li_topi (show lt_ s9 j0 2 = lt_ σ j0 2 from lt_rows (hr 1 (by omega) (by omega) (by omega) (by omega) (by omega)) (hr 7 (by omega) (by omega) (by omega) (by omega) (by omega)) j0 2) ?_
                    refine lv_icmp_ne (tgt := 157) hx hb dX3_go_138 (by decide) (fun c48 => ?_) (fun c48 => ?_)
                    · skip
                      have hp1 : 0 < k9 3 j0 := Decidable.byContradiction (fun q => c48 ((TH_eq hTH9 hj0).mpr q))
                      refine lv_iload hx hb dX3_go_157 (lv_at hl 1 rfl) ?_
                      refine li_eq0 (tgt := 188) hx hb dX3_go_159 (by decide) (by first | omega | (have := wa_le (σ := s9) (nw := nw) (z := s9 13 w + nI 1); omega)) (fun c49 => ?_) (fun c49 => ?_)
                      · exact absurd c49 (by decide)
                      · skip
                        refine lv_aload_n hx hb dX3_go_162 rfl (lv_at hl 5 rfl) ?_
                        refine li_gf3 hx hb hX3 hown hK hP 0 rfl 13 (by decide) f38 rfl dX3_go_163 ?_
                        refine lv_iload hx hb dX3_go_166 (lv_at hl 2 rfl) ?_
                        refine lv_dup2_11 hx hb dX3_go_168 rfl rfl ?_
                        refine li_ild hx hb hK hP 10 0 rfl rfl (by omega) (by decide) dX3_go_169 ?_
                        refine lv_iconst (v := nI 1) hx hb dX3_go_170 rfl ?_
                        refine lv_iadd hx hb dX3_go_171 ?_
                        refine li_ist hx hb hK hP hA.DM hS 10 0 rfl rfl (by omega) (by decide) stE_2 dX3_go_172 (fun G locs hP hS => ?_)
                        refine lv_aload_n hx hb dX3_go_173 rfl (lv_at hl 5 rfl) ?_
                        refine li_gf3 hx hb hX3 hown hK hP 0 rfl 2 (by decide) f9 rfl dX3_go_174 ?_
                        refine lv_iconst (v := nI 5) hx hb dX3_go_177 rfl ?_
                        refine lv_iload hx hb dX3_go_178 (lv_at hl 2 rfl) ?_
                        refine lv_imul hx hb dX3_go_180 ?_
                        refine li_topi (pk_mul _ _) ?_
                        refine lv_iconst (v := nI 3) hx hb dX3_go_181 rfl ?_
                        refine lv_iadd hx hb dX3_go_182 ?_
                        refine li_topi (nI_add _ _) ?_
                        refine lv_dup2_11 hx hb dX3_go_183 rfl rfl ?_
                        refine li_ild hx hb hK hP 1 0 rfl rfl (by omega) (by decide) dX3_go_184 ?_
                        refine li_topi (show encR s9 (5 * j0 + 3) = s9 8 j0 from encR_at (by omega)) ?_
                        refine lv_iconst (v := nI 1) hx hb dX3_go_185 rfl ?_
                        refine lv_iadd hx hb dX3_go_186 ?_
                        refine li_ist hx hb hK hP hA.DM hS 1 0 rfl rfl (by omega) (by decide) (stM_R (by omega)) dX3_go_187 (fun G locs hP hS => ?_)
                        refine lv_aload_n hx hb dX3_go_188 rfl (lv_at hl 5 rfl) ?_
                        refine lv_iload_n hx hb dX3_go_189 rfl (lv_at hl 6 rfl) ?_
                        refine lv_iconst (v := nI 5) hx hb dX3_go_190 rfl ?_
                        refine lv_iload hx hb dX3_go_191 (lv_at hl 0 rfl) ?_
                        refine li_eq0 (tgt := 200) hx hb dX3_go_193 (by decide) (by first | omega | (have := wa_le (σ := s9) (nw := nw) (z := s9 13 w + nI 1); omega)) (fun c50 => ?_) (fun c50 => ?_)
                        · exact absurd c50 (by decide)
                        · skip
                          refine lv_iconst (v := (-1)) hx hb dX3_go_196 rfl ?_
                          refine lv_goto (tgt := 203) hx hb dX3_go_197 (by decide) ?_
                          refine muV (As := [.int (nI w), .int (nI 5), .int (-1)]) (q0 := 0) (ci := 3) hx hb hml hown hts (c_X3_set l D cI cZ cL cO a th n nw ns (up2 s9 8 j0 ((s9 8 j0) + (nI 1))) (up2 (thE σ η k9) 2 j0 (((thE σ η k9) 2 j0) + (nI 1))) G w 5 (-1) A hA (hB) (by omega) (by omega)) (cwV 3 hts gX3_go_X3_set rfl rfl rfl (by decide +kernel) ⟨by decide, by decide⟩) hK hE hP rfl rfl rfl rfl hl.1 rfl (Nat.le_of_ble_eq_true rfl) hS (fun _ h => h) dX3_go_203 ⟨Nat.zero_le _, Nat.zero_le _⟩ (fun G locs hP _ _ hS => ?_)
                          have hP : va_P D vwCl (wM cI cZ a th n nw ns (up2 (up2 s9 8 j0 ((s9 8 j0) + (nI 1))) 13 w (-1)) (up2 (thE σ η k9) 2 j0 (((thE σ η k9) 2 j0) + (nI 1)))) G := hP
                          refine lv_iload hx hb dX3_go_206 (lv_at hl 0 rfl) ?_
                          refine li_ne0 (tgt := 214) hx hb dX3_go_208 (by decide) (by first | omega | (have := wa_le (σ := s9) (nw := nw) (z := s9 13 w + nI 1); omega)) (fun c51 => ?_) (fun c51 => ?_)
                          · skip
                            refine lv_aload_n hx hb dX3_go_214 rfl (lv_at hl 5 rfl) ?_
                            refine lv_iload_n hx hb dX3_go_215 rfl (lv_at hl 6 rfl) ?_
                            refine lv_iconst (v := nI 4) hx hb dX3_go_216 rfl ?_
                            refine lv_iconst (v := nI 2) hx hb dX3_go_217 rfl ?_
                            refine muV (As := [.int (nI w), .int (nI 4), .int (nI 2)]) (q0 := 0) (ci := 3) hx hb hml hown hts (c_X3_set l D cI cZ cL cO a th n nw ns (up2 (up2 s9 8 j0 ((s9 8 j0) + (nI 1))) 13 w (-1)) (up2 (thE σ η k9) 2 j0 (((thE σ η k9) 2 j0) + (nI 1))) G w 4 (nI 2) A hA (hB) (by omega) (by omega)) (cwV 3 hts gX3_go_X3_set rfl rfl rfl (by decide +kernel) ⟨by decide, by decide⟩) hK hE hP rfl rfl rfl rfl hl.1 rfl (Nat.le_of_ble_eq_true rfl) hS (fun _ h => h) dX3_go_218 ⟨Nat.zero_le _, Nat.zero_le _⟩ (fun G locs hP _ _ hS => ?_)
                            have hP : va_P D vwCl (wM cI cZ a th n nw ns (up2 (up2 (up2 s9 8 j0 ((s9 8 j0) + (nI 1))) 13 w (-1)) 12 w (nI 2)) (up2 (thE σ η k9) 2 j0 (((thE σ η k9) 2 j0) + (nI 1)))) G := hP
                            refine lv_aload_n hx hb dX3_go_221 rfl (lv_at hl 5 rfl) ?_
                            refine lv_iload_n hx hb dX3_go_222 rfl (lv_at hl 6 rfl) ?_
                            refine lv_bipush (v := nI 7) hx hb dX3_go_223 rfl ?_
                            refine lv_aload_n hx hb dX3_go_225 rfl (lv_at hl 5 rfl) ?_
                            refine li_gf3 hx hb hX3 hown hK hP 0 rfl 10 (by decide) f28 rfl dX3_go_226 ?_
                            refine lv_iconst (v := nI 0) hx hb dX3_go_229 rfl ?_
                            refine li_ild hx hb hK hP 7 0 rfl rfl (by omega) (by decide) dX3_go_230 ?_
                            refine li_topi (show (up2 (up2 (up2 s9 8 j0 ((s9 8 j0) + (nI 1))) 13 w (-1)) 12 w (nI 2)) 17 0 = (up2 s9 8 j0 (s9 8 j0 + nI 1)) 17 0 from rfl) ?_
                            refine muV (As := [.int (nI w), .int (nI 7), .int ((up2 s9 8 j0 (s9 8 j0 + nI 1)) 17 0)]) (q0 := 0) (ci := 3) hx hb hml hown hts (c_X3_set l D cI cZ cL cO a th n nw ns (up2 (up2 (up2 s9 8 j0 ((s9 8 j0) + (nI 1))) 13 w (-1)) 12 w (nI 2)) (up2 (thE σ η k9) 2 j0 (((thE σ η k9) 2 j0) + (nI 1))) G w 7 ((up2 s9 8 j0 (s9 8 j0 + nI 1)) 17 0) A hA (hB) (by omega) (by omega)) (cwV 3 hts gX3_go_X3_set rfl rfl rfl (by decide +kernel) ⟨by decide, by decide⟩) hK hE hP rfl rfl rfl rfl hl.1 rfl (Nat.le_of_ble_eq_true rfl) hS (fun _ h => h) dX3_go_231 ⟨Nat.zero_le _, Nat.zero_le _⟩ (fun G locs hP _ _ hS => ?_)
                            have hP : va_P D vwCl (wM cI cZ a th n nw ns (up2 (up2 (up2 (up2 s9 8 j0 ((s9 8 j0) + (nI 1))) 13 w (-1)) 12 w (nI 2)) 15 w ((up2 s9 8 j0 (s9 8 j0 + nI 1)) 17 0)) (up2 (thE σ η k9) 2 j0 (((thE σ η k9) 2 j0) + (nI 1)))) G := hP
                            refine lv_iinc (v := nI lg) (lv' := [(2, .int (nI lg)), (6, .int (nI 1)), (5, .int (nI 1)), (4, .int (nI j0)), (3, .int (s9 13 w)), (0, .ref (a 0)), (1, .int (nI w))]) hx hb dX3_go_234 hl (k := 4) rfl (nI_dec1 _) (by decide) rfl (fun ls hl => ?_)
                            refine lv_goto (tgt := 32) hx hb dX3_go_237 (by decide) ?_
                            have hw9 : up2 (up2 (up2 (up2 s9 8 j0 ((s9 8 j0) + (nI 1))) 13 w (-1)) 12 w (nI 2)) 15 w ((up2 s9 8 j0 (s9 8 j0 + nI 1)) 17 0) = (up2 (up2 (up2 (up2 s9 8 j0 ((s9 8 j0) + (nI 1))) 13 w (-1)) 12 w (nI 2)) 15 w ((up2 s9 8 j0 (s9 8 j0 + nI 1)) 17 0)) := rfl
                            have hP : va_P D vwCl (wM cI cZ a th n nw ns (up2 (up2 (up2 (up2 s9 8 j0 ((s9 8 j0) + (nI 1))) 13 w (-1)) 12 w (nI 2)) 15 w ((up2 s9 8 j0 (s9 8 j0 + nI 1)) 17 0)) (up2 (thE σ η k9) 2 j0 (((thE σ η k9) 2 j0) + (nI 1)))) G := Eq.mp (congrArg (fun z9 => va_P D vwCl (wM cI cZ a th n nw ns z9 (up2 (thE σ η k9) 2 j0 (((thE σ η k9) 2 j0) + (nI 1)))) G) hw9) hP
                            clear hw9
                            have hw9 : up2 (thE σ η k9) 2 j0 (((thE σ η k9) 2 j0) + (nI 1)) = thE σ η (up2 k9 3 j0 (k9 3 j0 - nI 1)) := thE_up
                            have hP : va_P D vwCl (wM cI cZ a th n nw ns (up2 (up2 (up2 (up2 s9 8 j0 ((s9 8 j0) + (nI 1))) 13 w (-1)) 12 w (nI 2)) 15 w ((up2 s9 8 j0 (s9 8 j0 + nI 1)) 17 0)) (thE σ η (up2 k9 3 j0 (k9 3 j0 - nI 1)))) G := Eq.mp (congrArg (fun z9 => va_P D vwCl (wM cI cZ a th n nw ns (up2 (up2 (up2 (up2 s9 8 j0 ((s9 8 j0) + (nI 1))) 13 w (-1)) 12 w (nI 2)) 15 w ((up2 s9 8 j0 (s9 8 j0 + nI 1)) 17 0)) z9) G) hw9) hP
                            clear hw9
                            have hl9 : lv_has ls 7 [(2, .int (nI lg)), (0, .ref (a 0)), (1, .int (nI w))] := lv_sub hl [0, 5, 6] rfl
                            exact ih32 lg (up2 (up2 (up2 (up2 s9 8 j0 ((s9 8 j0) + (nI 1))) 13 w (-1)) 12 w (nI 2)) 15 w ((up2 s9 8 j0 (s9 8 j0 + nI 1)) 17 0)) (up2 k9 3 j0 (k9 3 j0 - nI 1)) (by omega) (by have h9 := wl_next hW hwk9 (gs_e hwa hse hp1 hlt); rw [decide_eq_false (fun q => by rw [up2_row _ _ _ _ (by omega), up2_at, if_pos ⟨rfl, rfl⟩] at q; exact absurd q (by decide))]; exact h9) (fun r a8 a9 a12 a13 a15 => by rw [up2_row _ _ _ _ a15, up2_row _ _ _ _ a12, up2_row _ _ _ _ a13, up2_row _ _ _ _ a8]; exact hr r a8 a9 a12 a13 a15) (PB_home (w := w) hPB9 (by rw [up2_row _ _ _ _ (by omega), up2_at, if_pos ⟨rfl, rfl⟩]) (fun o ho => by rw [up2_row _ _ _ _ (by omega), up2_at, if_neg (fun z => ho z.2), up2_row _ _ _ _ (by omega), up2_row _ _ _ _ (by omega)]) (fun o ho => by rw [up2_row _ _ _ _ (by omega), up2_row _ _ _ _ (by omega), up2_at, if_neg (fun z => ho z.2), up2_row _ _ _ _ (by omega)])) (TH_up hTH9 hj0 hp1) (by omega) G locs hP hS ls hl9
                          · exact absurd c51 (by decide)
                    · skip
                      have hp0 : ¬ 0 < k9 3 j0 := (TH_eq hTH9 hj0).mp c48
                      refine lv_aload_n hx hb dX3_go_141 rfl (lv_at hl 5 rfl) ?_
                      refine li_gf3 hx hb hX3 hown hK hP 0 rfl 2 (by decide) f9 rfl dX3_go_142 ?_
                      refine lv_iconst (v := nI 5) hx hb dX3_go_145 rfl ?_
                      refine lv_iload hx hb dX3_go_146 (lv_at hl 2 rfl) ?_
                      refine lv_imul hx hb dX3_go_148 ?_
                      refine li_topi (pk_mul _ _) ?_
                      refine lv_iconst (v := nI 4) hx hb dX3_go_149 rfl ?_
                      refine lv_iadd hx hb dX3_go_150 ?_
                      refine li_topi (nI_add _ _) ?_
                      refine lv_dup2_11 hx hb dX3_go_151 rfl rfl ?_
                      refine li_ild hx hb hK hP 1 0 rfl rfl (by omega) (by decide) dX3_go_152 ?_
                      refine li_topi (show encR s9 (5 * j0 + 4) = s9 9 j0 from encR_at (by omega)) ?_
                      refine lv_iconst (v := nI 1) hx hb dX3_go_153 rfl ?_
                      refine lv_iadd hx hb dX3_go_154 ?_
                      refine li_ist hx hb hK hP hA.DM hS 1 0 rfl rfl (by omega) (by decide) (stM_R (by omega)) dX3_go_155 (fun G locs hP hS => ?_)
                      have hF := wl_end hW hwk9 (gs_b hwa hse hp0)
                      have hw9 : up2 s9 9 j0 ((s9 9 j0) + (nI 1)) = (wl n pl nw w (wkP w σ) (true, (σ, κ))).2.1 := by rw [hF]
                      have hP : va_P D vwCl (wM cI cZ a th n nw ns ((wl n pl nw w (wkP w σ) (true, (σ, κ))).2.1) (thE σ η k9)) G := Eq.mp (congrArg (fun z9 => va_P D vwCl (wM cI cZ a th n nw ns z9 (thE σ η k9)) G) hw9) hP
                      clear hw9
                      have hw9 : thE σ η k9 = thE σ η (wl n pl nw w (wkP w σ) (true, (σ, κ))).2.2 := by rw [hF]
                      have hP : va_P D vwCl (wM cI cZ a th n nw ns ((wl n pl nw w (wkP w σ) (true, (σ, κ))).2.1) (thE σ η (wl n pl nw w (wkP w σ) (true, (σ, κ))).2.2)) G := Eq.mp (congrArg (fun z9 => va_P D vwCl (wM cI cZ a th n nw ns ((wl n pl nw w (wkP w σ) (true, (σ, κ))).2.1) z9) G) hw9) hP
                      clear hw9
                      exact hEnd 156 ls G locs dX3_go_156 hP hS
                · exact absurd c46 (by decide)
    have hw9 : η = thE σ η κ := (thE_id hη).symm
    have hP : va_P D vwCl (wM cI cZ a th n nw ns σ (thE σ η κ)) H := Eq.mp (congrArg (fun z9 => va_P D vwCl (wM cI cZ a th n nw ns σ z9) H) hw9) hP
    clear hw9
    have hl9 : lv_has ls 7 [(2, .int (nI (nN (σ 4 w)))), (0, .ref (a 0)), (1, .int (nI w))] := lv_sub hl [0, 1, 2] rfl
    exact L32_27 ((nN (σ 4 w)) + 1) (nN (σ 4 w)) σ κ (Nat.lt_succ_self _) (by rw [decide_eq_true hwk]; unfold wkP; first | rw [if_neg (show ¬ σ 11 w = 0 from by rw [show σ 11 w = nI 1 by assumption]; decide)] | rw [if_pos (show σ 11 w = 0 from by rcases hz w with q | q; exact q; exact absurd q (by assumption))]) (fun _ _ _ _ _ _ => rfl) (hPB) (hTH) (by first | omega | exact hpc.2.2 | exact mxp_le hpc.2.2) H locs hP hS ls hl9
