/-! the simulation: going -/
set_option maxHeartbeats 4000000 in
set_option maxRecDepth 100000 in
theorem c_X3_go (l : Launch) (D : va_G) (cI cZ cW cO : ClassId) (X : Nat → va_E) (a : Ka) (n nw ns : Nat) (σ η : Sg) (T : Ke) (H : Heap) (w : Nat) (A : Nat → Prop) (hO : kO A (MS n nw) a) (hB : n ≤ 10 ∧ nw ≤ 20 ∧ ns ≤ 6) (pl : Nat) (κ : Sg) (hpl : pl ≤ 200) (hw : w < nw) (hη : η 2 = thr σ κ) (hRF : RF n pl σ) (hPB : PB pl nw σ) (hn0 : 0 < n) (hpc : σ 4 w = nI (nN (σ 4 w)) ∧ 1 ≤ nN (σ 4 w) ∧ nN (σ 4 w) ≤ 3) (hTH : TH n σ κ) (hAT : AT pl nw σ) (hwk : σ 12 w = nI 1) : Met l yX3_go wsX3_go ({ frames := 1, cells := 0, slots := 0, locals := 26 } : Room) (ro_P D (T4 cI cZ cW cO) (wK (MS n nw) a (eL cI cZ cW cO X a n nw ns σ η T)) H [.ref (a 1 0), .ref (a 3 w)]) (mu_Q D (wK (MS n nw) a (eL cI cZ cW cO X a n nw ns ((wl n pl nw w (wkP w σ) (true, (σ, κ))).2.1) (thE σ η (wl n pl nw w (wkP w σ) (true, (σ, κ))).2.2) T)) A) 0 0 A := by
  refine mu_of (cc := cX3_go) (maxL := 6) (by decide) rfl (Nat.le_of_ble_eq_true rfl) ?_
  intro p e s m args below meth c Q ls locs hx hb hml hown hts hK hE hP hl hS hEnd
  have hP : kP D (MS n nw) a (eL cI cZ cW cO X a n nw ns σ η T) H := kP.of hP
  have hl : lv_has ls 6 [(0, .ref (a 1 0)), (1, .ref (a 3 w))] := hl
  have hX3 : ∀ w ∈ wsX30, w.before args s = true := fun w h => hts w (List.mem_cons_of_mem _ (List.mem_append_right _ (h)))
  have hX4 : ∀ w ∈ wsX40, w.before args s = true := fun w h => hts w (List.mem_cons_of_mem _ (List.mem_append_left _ (List.mem_append_right _ (h))))
  have f66 : (Cond.fieldLink RX3 66 "LanternWalkLaw$Walker" "burns" "Z").before args s = true := hts _ (List.mem_of_getElem? (i := 1) rfl)
  have f57 : (Cond.fieldLink RX3 57 "LanternWalkLaw$Walker" "pace" "I").before args s = true := hts _ (List.mem_of_getElem? (i := 2) rfl)
  have f77 : (Cond.fieldLink RX3 77 "LanternWalkLaw$Walker" "place" "I").before args s = true := hts _ (List.mem_of_getElem? (i := 3) rfl)
  have f9 : (Cond.fieldLink RX3 9 "LanternWalkLaw$Sim" "route" "[[I").before args s = true := hts _ (List.mem_of_getElem? (i := 4) rfl)
  have f37 : (Cond.fieldLink RX3 37 "LanternWalkLaw$Sim" "through" "[I").before args s = true := hts _ (List.mem_of_getElem? (i := 5) rfl)
  have f74 : (Cond.fieldLink RX3 74 "LanternWalkLaw$Walker" "state" "I").before args s = true := hts _ (List.mem_of_getElem? (i := 6) rfl)
  have f52 : (Cond.fieldLink RX3 52 "LanternWalkLaw$Sim" "step" "I").before args s = true := hts _ (List.mem_of_getElem? (i := 7) rfl)
  have f90 : (Cond.fieldLink RX3 90 "LanternWalkLaw$Walker" "came" "I").before args s = true := hts _ (List.mem_of_getElem? (i := 8) rfl)
  refine lv_aload_n hx hb dX3_go_0 rfl (lv_at hl 1 rfl) ?_
  refine lk_gf4 hx hb hX4 hown hK hP 3 w (show w < nw by omega) rfl 3 (by decide) f66 rfl dX3_go_1 ?_
  refine lv_if_ne (tgt := 15) hx hb dX3_go_4 (by decide) (fun c1 => ?_) (fun c1 => ?_)
  · skip
    refine lv_aload_n hx hb dX3_go_15 rfl (lv_at hl 1 rfl) ?_
    refine lk_gf4 hx hb hX4 hown hK hP 3 w (show w < nw by omega) rfl 0 (by decide) f57 rfl dX3_go_16 ?_
    refine li_topi (show σ 4 w = nI (nN (σ 4 w)) from hpc.1) ?_
    refine lv_goto (tgt := 28) hx hb dX3_go_19 (by decide) ?_
    refine lv_istore_n (lv' := [(2, .int (nI (nN (σ 4 w)))), (0, .ref (a 1 0)), (1, .ref (a 3 w))]) hx hb dX3_go_28 rfl hl (by decide) rfl (fun ls hl => ?_)
    refine lv_iconst (v := nI 0) hx hb dX3_go_29 rfl ?_
    refine lv_istore_n (lv' := [(3, .int (nI 0)), (2, .int (nI (nN (σ 4 w)))), (0, .ref (a 1 0)), (1, .ref (a 3 w))]) hx hb dX3_go_30 rfl hl (by decide) rfl (fun ls hl => ?_)
    have L31_2 : ∀ (fuel : Nat) (k : Nat) (P : Nat) (s9 : Sg) (k9 : Sg), (P - k) < fuel → (k ≤ P) → (wl n pl nw w (P - k) (true, (s9, k9)) = wl n pl nw w (wkP w σ) (true, (σ, κ))) → (∀ r, goK r → s9 r = σ r) → (PB pl nw s9) → (TH n σ k9) → (AT pl nw s9) → (P ≤ 3) → (s9 12 w = nI 1) → ∀ (G : Heap) (locs : List Loc), kP D (MS n nw) a (eL cI cZ cW cO X a n nw ns s9 (thE σ η k9) T) G → va_S A H G locs → ∀ (ls : Array Slot), lv_has ls 6 [(3, .int (nI k)), (2, .int (nI P)), (0, .ref (a 1 0)), (1, .ref (a 3 w))] → W p l e ({ frames := 1, cells := 0, slots := 0, locals := 26 } : Room) s m args below meth c G locs 0 0 Q (F0 m 31 ls []) := by
      intro fuel
      induction fuel with
      | zero =>
        intro k P s9 k9 hfuel
        exact absurd hfuel (Nat.not_lt_zero _)
      | succ fuel ih31 =>
        intro k P s9 k9 hfuel31 hk hW hr hPB9 hTH9 hAT9 hP3 hwk9 G locs hP hS ls hl
        refine lv_iload_n hx hb dX3_go_31 rfl (lv_at hl 0 rfl) ?_
        refine lv_iload_n hx hb dX3_go_32 rfl (lv_at hl 1 rfl) ?_
        refine li_ge (tgt := 187) hx hb dX3_go_33 (by decide) (by first | omega | (have := wa_le (σ := s9) (nw := nw) (z := s9 13 w + nI 1); omega)) (by first | omega | (have := wa_le (σ := s9) (nw := nw) (z := s9 13 w + nI 1); omega)) (fun c3 => ?_) (fun c3 => ?_)
        · skip
          have hF : (wl n pl nw w (wkP w σ) (true, (σ, κ))).2 = (s9, k9) := by rw [← hW, show P - k = 0 by omega]; rfl
          have hw9 : s9 = (wl n pl nw w (wkP w σ) (true, (σ, κ))).2.1 := by first | (rw [hF]; done) | (rw [hF]; show _ = up2 (up2 (up2 (up2 s9 8 j0 (s9 8 j0 + nI 1)) 13 w (-1)) 12 w (nI 2)) 15 w _; rw [up2_up2])
          have hP : kP D (MS n nw) a (eL cI cZ cW cO X a n nw ns ((wl n pl nw w (wkP w σ) (true, (σ, κ))).2.1) (thE σ η k9) T) G := Eq.mp (congrArg (fun z9 => kP D (MS n nw) a (eL cI cZ cW cO X a n nw ns z9 (thE σ η k9) T) G) hw9) hP
          clear hw9
          have hw9 : thE σ η k9 = thE σ η (wl n pl nw w (wkP w σ) (true, (σ, κ))).2.2 := by first | (rw [hF]; done) | (rw [hF]; exact thE_up)
          have hP : kP D (MS n nw) a (eL cI cZ cW cO X a n nw ns ((wl n pl nw w (wkP w σ) (true, (σ, κ))).2.1) (thE σ η (wl n pl nw w (wkP w σ) (true, (σ, κ))).2.2) T) G := Eq.mp (congrArg (fun z9 => kP D (MS n nw) a (eL cI cZ cW cO X a n nw ns ((wl n pl nw w (wkP w σ) (true, (σ, κ))).2.1) z9 T) G) hw9) hP
          clear hw9
          exact hEnd 187 ls G locs dX3_go_187 hP.w hS
        · skip
          refine lv_aload_n hx hb dX3_go_36 rfl (lv_at hl 2 rfl) ?_
          refine lv_aload_n hx hb dX3_go_37 rfl (lv_at hl 3 rfl) ?_
          refine lk_gf4 hx hb hX4 hown hK hP 3 w (show w < nw by omega) rfl 5 (by decide) f77 rfl dX3_go_38 ?_
          obtain ⟨q9, hq9, -⟩ := wK_at (M := MS n nw) (a := a) (e := eL cI cZ cW cO X a n nw ns s9 (thE σ η k9) T) (c := 1) (i := 0) (show 0 < 10 by decide)
          refine roV (As := [.int (s9 13 w)]) (q0 := q9) (ci := 3) hx hb hml hown hts (c_X3_corner l D cI cZ cW cO X a n nw ns s9 (thE σ η k9) T G (s9 13 w) A hO hB) (cwV 1 hts gX3_go_X3_corner rfl rfl rfl (by decide +kernel) ⟨by decide, by decide⟩) hK hE hP.w rfl rfl hq9 rfl hl.1 rfl (Nat.le_of_ble_eq_true rfl) hS dX3_go_41 ⟨Nat.zero_le _, Nat.zero_le _⟩ (fun locs hS => ?_)
          obtain ⟨jz, hjz, hz9⟩ := hPB9 w hw hwk9
          have hRF9 : RF n pl s9 := RF_rows hRF (hr 0 (by unfold goK; omega)) (hr 2 (by unfold goK; omega))
          obtain ⟨j0, hj0, -, ha, hb9⟩ := RF_on hRF9 hpl hjz
          by_cases hcor : jz + 1 = nN (s9 2 j0) + nN (s9 0 j0)
          · have hse := gm_sc hRF9 hj0 hz9 hpl hjz ha hb9 hcor
            refine li_topi (show oI (se s9 n (s9 13 w)) = nI j0 from by rw [hse]; rfl) ?_
            refine lv_istore (lv' := [(4, .int (nI j0)), (3, .int (nI k)), (2, .int (nI P)), (0, .ref (a 1 0)), (1, .ref (a 3 w))]) hx hb dX3_go_44 hl (by decide) rfl (fun ls hl => ?_)
            refine lv_iload hx hb dX3_go_46 (lv_at hl 0 rfl) ?_
            refine lv_aload_n hx hb dX3_go_48 rfl (lv_at hl 3 rfl) ?_
            refine lk_gf3 hx hb hX3 hown hK hP 1 0 (show 0 < 10 by decide) rfl 0 (by decide) f9 rfl dX3_go_49 ?_
            refine lk_alen hx hb hK hP 1 1 (show 1 < 10 by decide) 3 rfl rfl dX3_go_52 ?_
            refine lv_iconst (v := nI 1) hx hb dX3_go_53 rfl ?_
            refine lv_isub hx hb dX3_go_54 ?_
            refine li_topi (show (nI n) - (nI 1) = nI (n - 1) from pk_sub (by omega)) ?_
            refine li_ne (tgt := 62) hx hb dX3_go_55 (by decide) (by first | omega | (have := wa_le (σ := s9) (nw := nw) (z := s9 13 w + nI 1); omega)) (by first | omega | (have := wa_le (σ := s9) (nw := nw) (z := s9 13 w + nI 1); omega)) (fun c4 => ?_) (fun c4 => ?_)
            · skip
              have hne9 : ¬ jz + 1 = pl := fun z => by have h9 := RF_mono hRF9 (s := j0) (t := n - 1) (by omega) (by omega); have h8 := hRF9.2.2.2.1 (by omega); have h7 := (hRF9.1 (n - 1) (by omega)).2.2.1; omega
              have hlt := (gm_lt (w := w) hz9 hpl hjz).mpr hne9
              refine lv_iconst (v := nI 0) hx hb dX3_go_62 rfl ?_
              refine lv_istore (lv' := [(5, .int (nI 0)), (4, .int (nI j0)), (3, .int (nI k)), (2, .int (nI P)), (0, .ref (a 1 0)), (1, .ref (a 3 w))]) hx hb dX3_go_63 hl (by decide) rfl (fun ls hl => ?_)
              refine lv_iload hx hb dX3_go_65 (lv_at hl 0 rfl) ?_
              refine li_ne0 (tgt := 85) hx hb dX3_go_67 (by decide) (by first | omega | (have := wa_le (σ := s9) (nw := nw) (z := s9 13 w + nI 1); omega)) (fun c5 => ?_) (fun c5 => ?_)
              · exact absurd c5 (by decide)
              · skip
                refine lv_aload_n hx hb dX3_go_70 rfl (lv_at hl 4 rfl) ?_
                refine lv_aload_n hx hb dX3_go_71 rfl (lv_at hl 5 rfl) ?_
                refine lk_gf4 hx hb hX4 hown hK hP 3 w (show w < nw by omega) rfl 5 (by decide) f77 rfl dX3_go_72 ?_
                refine lv_iconst (v := nI 1) hx hb dX3_go_75 rfl ?_
                refine lv_iadd hx hb dX3_go_76 ?_
                obtain ⟨q9, hq9, -⟩ := wK_at (M := MS n nw) (a := a) (e := eL cI cZ cW cO X a n nw ns s9 (thE σ η k9) T) (c := 1) (i := 0) (show 0 < 10 by decide)
                refine roV (As := [.int ((s9 13 w) + (nI 1))]) (q0 := q9) (ci := 3) hx hb hml hown hts (c_X3_on l D cI cZ cW cO X a n nw ns s9 (thE σ η k9) T G ((s9 13 w) + (nI 1)) A hO hB) (cwV 1 hts gX3_go_X3_on rfl rfl rfl (by decide +kernel) ⟨by decide, by decide⟩) hK hE hP.w rfl rfl hq9 rfl hl.1 rfl (Nat.le_of_ble_eq_true rfl) hS dX3_go_77 ⟨Nat.zero_le _, Nat.zero_le _⟩ (fun locs hS => ?_)
                refine lv_iconst (v := nI 2) hx hb dX3_go_80 rfl ?_
                refine li_ne (tgt := 85) hx hb dX3_go_81 (by decide) (by first | omega | (have := wa_le (σ := s9) (nw := nw) (z := s9 13 w + nI 1); omega)) (by first | omega | (have := wa_le (σ := s9) (nw := nw) (z := s9 13 w + nI 1); omega)) (fun c6 => ?_) (fun c6 => ?_)
                · skip
                  have hwa : wa s9 nw (s9 13 w + nI 1) < 2 := by have h9 := AT_le hAT9 hPB9 hpl (j := jz + 1) (by omega); rw [← nI_add, ← hz9] at h9; omega
                  refine lv_iload hx hb dX3_go_85 (lv_at hl 1 rfl) ?_
                  refine li_lt0 (tgt := 144) hx hb dX3_go_87 (by decide) (by first | omega | (have := wa_le (σ := s9) (nw := nw) (z := s9 13 w + nI 1); omega)) (fun c7 => ?_) (fun c7 => ?_)
                  · skip
                    exact c7.elim
                  · skip
                    refine lv_aload_n hx hb dX3_go_90 rfl (lv_at hl 4 rfl) ?_
                    refine lk_gf3 hx hb hX3 hown hK hP 1 0 (show 0 < 10 by decide) rfl 8 (by decide) f37 rfl dX3_go_91 ?_
                    refine lv_iload hx hb dX3_go_94 (lv_at hl 1 rfl) ?_
                    refine lk_ild hx hb hK hP 1 8 (show 8 < 10 by decide) rfl (by omega) (by decide) dX3_go_96 ?_
                    refine li_topi (show (thE σ η k9) 2 j0 = thr σ k9 j0 from rfl) ?_
                    refine lv_aload_n hx hb dX3_go_97 rfl (lv_at hl 4 rfl) ?_
                    refine lv_iload hx hb dX3_go_98 (lv_at hl 1 rfl) ?_
                    obtain ⟨q9, hq9, -⟩ := wK_at (M := MS n nw) (a := a) (e := eL cI cZ cW cO X a n nw ns s9 (thE σ η k9) T) (c := 1) (i := 0) (show 0 < 10 by decide)
                    refine roV (As := [.int (nI j0)]) (q0 := q9) (ci := 3) hx hb hml hown hts (c_X3_lets l D cI cZ cW cO X a n nw ns s9 (thE σ η k9) T G j0 A hO hB (by omega)) (cwV 1 hts gX3_go_X3_lets rfl rfl rfl (by decide +kernel) ⟨by decide, by decide⟩) hK hE hP.w rfl rfl hq9 rfl hl.1 rfl (Nat.le_of_ble_eq_true rfl) hS dX3_go_100 ⟨Nat.zero_le _, Nat.zero_le _⟩ (fun locs hS => ?_)
                    refine li_topi (show lt_ s9 j0 2 = lt_ σ j0 2 from lt_rows (hr 1 (by unfold goK; omega)) (hr 7 (by unfold goK; omega)) j0 2) ?_
                    refine lv_icmp_lt (tgt := 120) hx hb dX3_go_103 (by decide) (fun c8 => ?_) (fun c8 => ?_)
                    · skip
                      have hp1 : 0 < k9 3 j0 := (TH_lt hTH9 hj0).mp c8
                      refine lv_aload_n hx hb dX3_go_120 rfl (lv_at hl 4 rfl) ?_
                      refine lk_gf3 hx hb hX3 hown hK hP 1 0 (show 0 < 10 by decide) rfl 8 (by decide) f37 rfl dX3_go_121 ?_
                      refine lv_iload hx hb dX3_go_124 (lv_at hl 1 rfl) ?_
                      refine lv_dup2_11 hx hb dX3_go_126 rfl rfl ?_
                      refine lk_ild hx hb hK hP 1 8 (show 8 < 10 by decide) rfl (by omega) (by decide) dX3_go_127 ?_
                      refine lv_iconst (v := nI 1) hx hb dX3_go_128 rfl ?_
                      refine lv_iadd hx hb dX3_go_129 ?_
                      refine lk_ist hx hb hK hP hO hS 1 8 (show 8 < 10 by decide) rfl (by omega) (by decide) stE_2 dX3_go_130 (fun G locs hP hS => ?_)
                      refine lv_aload_n hx hb dX3_go_131 rfl (lv_at hl 4 rfl) ?_
                      refine lk_gf3 hx hb hX3 hown hK hP 1 0 (show 0 < 10 by decide) rfl 0 (by decide) f9 rfl dX3_go_132 ?_
                      refine lv_iload hx hb dX3_go_135 (lv_at hl 1 rfl) ?_
                      refine lk_aldO hx hb hK hP 1 1 (show 1 < 10 by decide) rfl (by omega) (by omega) (rfs_at (by omega)) dX3_go_137 ?_
                      refine lv_iconst (v := nI 3) hx hb dX3_go_138 rfl ?_
                      refine lv_dup2_11 hx hb dX3_go_139 rfl rfl ?_
                      refine lk_ild hx hb hK hP 2 j0 (show j0 < n by omega) rfl (by omega) (by decide) dX3_go_140 ?_
                      refine li_topi (x' := s9 8 j0) rfl ?_
                      refine lv_iconst (v := nI 1) hx hb dX3_go_141 rfl ?_
                      refine lv_iadd hx hb dX3_go_142 ?_
                      refine lk_ist hx hb hK hP hO hS 2 j0 (show j0 < n by omega) rfl (by omega) (by decide) stS_8 dX3_go_143 (fun G locs hP hS => ?_)
                      refine lv_aload_n hx hb dX3_go_144 rfl (lv_at hl 5 rfl) ?_
                      refine lv_dup hx hb dX3_go_145 rfl ?_
                      refine lk_gf4 hx hb hX4 hown hK hP 3 w (show w < nw by omega) rfl 5 (by decide) f77 rfl dX3_go_146 ?_
                      refine li_topi (show (up2 s9 8 j0 ((s9 8 j0) + (nI 1))) 13 w = s9 13 w from by first | rfl | exact congrFun (up2_r (by decide)) _) ?_
                      refine lv_iconst (v := nI 1) hx hb dX3_go_149 rfl ?_
                      refine lv_iadd hx hb dX3_go_150 ?_
                      refine lk_pf4 hx hb hX4 hown hK hP hO hS 3 w (show w < nw by omega) rfl 5 (by decide) f77 rfl rfl rfl (Nat.le_of_ble_eq_true rfl) stS_13 dX3_go_151 (fun G locs hP hS => ?_)
                      refine lv_iload hx hb dX3_go_154 (lv_at hl 0 rfl) ?_
                      refine li_ne0 (tgt := 162) hx hb dX3_go_156 (by decide) (by first | omega | (have := wa_le (σ := s9) (nw := nw) (z := s9 13 w + nI 1); omega)) (fun c9 => ?_) (fun c9 => ?_)
                      · exact absurd c9 (by decide)
                      · skip
                        refine lv_goto (tgt := 181) hx hb dX3_go_159 (by decide) ?_
                        refine lv_iinc (v := nI (k + 1)) (lv' := [(3, .int (nI (k + 1))), (5, .int (nI 0)), (4, .int (nI j0)), (2, .int (nI P)), (0, .ref (a 1 0)), (1, .ref (a 3 w))]) hx hb dX3_go_181 hl (k := 2) rfl (nI_inc _ _) (by decide) rfl (fun ls hl => ?_)
                        refine lv_goto (tgt := 31) hx hb dX3_go_184 (by decide) ?_
                        have hw9 : up2 (up2 s9 8 j0 ((s9 8 j0) + (nI 1))) 13 w ((s9 13 w) + (nI 1)) = (up2 (up2 s9 8 j0 ((s9 8 j0) + (nI 1))) 13 w ((s9 13 w) + (nI 1))) := rfl
                        have hP : kP D (MS n nw) a (eL cI cZ cW cO X a n nw ns (up2 (up2 s9 8 j0 ((s9 8 j0) + (nI 1))) 13 w ((s9 13 w) + (nI 1))) (up2 (thE σ η k9) 2 j0 (((thE σ η k9) 2 j0) + (nI 1))) T) G := Eq.mp (congrArg (fun z9 => kP D (MS n nw) a (eL cI cZ cW cO X a n nw ns z9 (up2 (thE σ η k9) 2 j0 (((thE σ η k9) 2 j0) + (nI 1))) T) G) hw9) hP
                        clear hw9
                        have hw9 : up2 (thE σ η k9) 2 j0 (((thE σ η k9) 2 j0) + (nI 1)) = thE σ η (up2 k9 3 j0 (k9 3 j0 - nI 1)) := thE_up
                        have hP : kP D (MS n nw) a (eL cI cZ cW cO X a n nw ns (up2 (up2 s9 8 j0 ((s9 8 j0) + (nI 1))) 13 w ((s9 13 w) + (nI 1))) (thE σ η (up2 k9 3 j0 (k9 3 j0 - nI 1))) T) G := Eq.mp (congrArg (fun z9 => kP D (MS n nw) a (eL cI cZ cW cO X a n nw ns (up2 (up2 s9 8 j0 ((s9 8 j0) + (nI 1))) 13 w ((s9 13 w) + (nI 1))) z9 T) G) hw9) hP
                        clear hw9
                        have hl9 : lv_has ls 6 [(3, .int (nI (k + 1))), (2, .int (nI P)), (0, .ref (a 1 0)), (1, .ref (a 3 w))] := lv_sub hl [0, 3, 4, 5] rfl
                        have hg := gs_f (n := n) (pl := pl) (nw := nw) hwa hse hp1 hlt
                        have hkp := g1_keep (n := n) (pl := pl) (nw := nw) (w := w) (a := s9) (b := k9) hpl hw hPB9 hTH9 hwk9
                        have hat := g1_AT (n := n) (pl := pl) (nw := nw) (w := w) (q := (s9, k9)) hAT9
                        have hrk := fun r (h : goK r) => g1_rowK (n := n) (pl := pl) (nw := nw) (w := w) (q := (s9, k9)) (k := r) h
                        rw [hg] at hkp hat
                        simp only [hg] at hrk
                        exact ih31 (k + 1) P (up2 (up2 s9 8 j0 ((s9 8 j0) + (nI 1))) 13 w ((s9 13 w) + (nI 1))) (up2 k9 3 j0 (k9 3 j0 - nI 1)) (by omega) (by omega) (by rw [show P - k = (P - (k + 1)) + 1 by omega] at hW; exact wl_nT hW hg) (fun r h => (hrk r h).trans (hr r h)) (hkp.1) (hkp.2.1) (hat) (by omega) (hkp.2.2.2 rfl) G locs hP hS ls hl9
                    · skip
                      have hp0 : ¬ 0 < k9 3 j0 := fun z => c8 ((TH_lt hTH9 hj0).mpr z)
                      refine lv_aload_n hx hb dX3_go_106 rfl (lv_at hl 4 rfl) ?_
                      refine lk_gf3 hx hb hX3 hown hK hP 1 0 (show 0 < 10 by decide) rfl 0 (by decide) f9 rfl dX3_go_107 ?_
                      refine lv_iload hx hb dX3_go_110 (lv_at hl 1 rfl) ?_
                      refine lk_aldO hx hb hK hP 1 1 (show 1 < 10 by decide) rfl (by omega) (by omega) (rfs_at (by omega)) dX3_go_112 ?_
                      refine lv_iconst (v := nI 4) hx hb dX3_go_113 rfl ?_
                      refine lv_dup2_11 hx hb dX3_go_114 rfl rfl ?_
                      refine lk_ild hx hb hK hP 2 j0 (show j0 < n by omega) rfl (by omega) (by decide) dX3_go_115 ?_
                      refine li_topi (x' := s9 9 j0) rfl ?_
                      refine lv_iconst (v := nI 1) hx hb dX3_go_116 rfl ?_
                      refine lv_iadd hx hb dX3_go_117 ?_
                      refine lk_ist hx hb hK hP hO hS 2 j0 (show j0 < n by omega) rfl (by omega) (by decide) stS_9 dX3_go_118 (fun G locs hP hS => ?_)
                      have hF := wl_eT (m := P - (k + 1)) (F := wl n pl nw w (wkP w σ) (true, (σ, κ))) (by rw [← show P - k = (P - (k + 1)) + 1 by omega]; exact hW) (gs_b hwa hse hp0)
                      have hw9 : up2 s9 9 j0 ((s9 9 j0) + (nI 1)) = (wl n pl nw w (wkP w σ) (true, (σ, κ))).2.1 := by first | (rw [hF]; done) | (rw [hF]; show _ = up2 (up2 (up2 (up2 s9 8 j0 (s9 8 j0 + nI 1)) 13 w (-1)) 12 w (nI 2)) 15 w _; rw [up2_up2])
                      have hP : kP D (MS n nw) a (eL cI cZ cW cO X a n nw ns ((wl n pl nw w (wkP w σ) (true, (σ, κ))).2.1) (thE σ η k9) T) G := Eq.mp (congrArg (fun z9 => kP D (MS n nw) a (eL cI cZ cW cO X a n nw ns z9 (thE σ η k9) T) G) hw9) hP
                      clear hw9
                      have hw9 : thE σ η k9 = thE σ η (wl n pl nw w (wkP w σ) (true, (σ, κ))).2.2 := by first | (rw [hF]; done) | (rw [hF]; exact thE_up)
                      have hP : kP D (MS n nw) a (eL cI cZ cW cO X a n nw ns ((wl n pl nw w (wkP w σ) (true, (σ, κ))).2.1) (thE σ η (wl n pl nw w (wkP w σ) (true, (σ, κ))).2.2) T) G := Eq.mp (congrArg (fun z9 => kP D (MS n nw) a (eL cI cZ cW cO X a n nw ns ((wl n pl nw w (wkP w σ) (true, (σ, κ))).2.1) z9 T) G) hw9) hP
                      clear hw9
                      exact hEnd 119 ls G locs dX3_go_119 hP.w hS
                · skip
                  have hF := wl_eT (m := P - (k + 1)) (F := wl n pl nw w (wkP w σ) (true, (σ, κ))) (by rw [← show P - k = (P - (k + 1)) + 1 by omega]; exact hW) (g1_a (κ := k9) (n := n) (pl := pl) (by omega))
                  have hw9 : s9 = (wl n pl nw w (wkP w σ) (true, (σ, κ))).2.1 := by first | (rw [hF]; done) | (rw [hF]; show _ = up2 (up2 (up2 (up2 s9 8 j0 (s9 8 j0 + nI 1)) 13 w (-1)) 12 w (nI 2)) 15 w _; rw [up2_up2])
                  have hP : kP D (MS n nw) a (eL cI cZ cW cO X a n nw ns ((wl n pl nw w (wkP w σ) (true, (σ, κ))).2.1) (thE σ η k9) T) G := Eq.mp (congrArg (fun z9 => kP D (MS n nw) a (eL cI cZ cW cO X a n nw ns z9 (thE σ η k9) T) G) hw9) hP
                  clear hw9
                  have hw9 : thE σ η k9 = thE σ η (wl n pl nw w (wkP w σ) (true, (σ, κ))).2.2 := by first | (rw [hF]; done) | (rw [hF]; exact thE_up)
                  have hP : kP D (MS n nw) a (eL cI cZ cW cO X a n nw ns ((wl n pl nw w (wkP w σ) (true, (σ, κ))).2.1) (thE σ η (wl n pl nw w (wkP w σ) (true, (σ, κ))).2.2) T) G := Eq.mp (congrArg (fun z9 => kP D (MS n nw) a (eL cI cZ cW cO X a n nw ns ((wl n pl nw w (wkP w σ) (true, (σ, κ))).2.1) z9 T) G) hw9) hP
                  clear hw9
                  exact hEnd 84 ls G locs dX3_go_84 hP.w hS
            · skip
              have hend : jz + 1 = pl := by have h9 := hRF9.2.2.2.1 (by omega); rw [hcor, show j0 = n - 1 by omega]; exact h9.symm
              have hwa := gm_wa hPB9 hz9 hpl hend
              have hlt := mt (gm_lt (w := w) hz9 hpl hjz).mp (fun q => q hend)
              refine lv_iconst (v := nI 1) hx hb dX3_go_58 rfl ?_
              refine lv_goto (tgt := 63) hx hb dX3_go_59 (by decide) ?_
              refine lv_istore (lv' := [(5, .int (nI 1)), (4, .int (nI j0)), (3, .int (nI k)), (2, .int (nI P)), (0, .ref (a 1 0)), (1, .ref (a 3 w))]) hx hb dX3_go_63 hl (by decide) rfl (fun ls hl => ?_)
              refine lv_iload hx hb dX3_go_65 (lv_at hl 0 rfl) ?_
              refine li_ne0 (tgt := 85) hx hb dX3_go_67 (by decide) (by first | omega | (have := wa_le (σ := s9) (nw := nw) (z := s9 13 w + nI 1); omega)) (fun c10 => ?_) (fun c10 => ?_)
              · skip
                refine lv_iload hx hb dX3_go_85 (lv_at hl 1 rfl) ?_
                refine li_lt0 (tgt := 144) hx hb dX3_go_87 (by decide) (by first | omega | (have := wa_le (σ := s9) (nw := nw) (z := s9 13 w + nI 1); omega)) (fun c11 => ?_) (fun c11 => ?_)
                · skip
                  exact c11.elim
                · skip
                  refine lv_aload_n hx hb dX3_go_90 rfl (lv_at hl 4 rfl) ?_
                  refine lk_gf3 hx hb hX3 hown hK hP 1 0 (show 0 < 10 by decide) rfl 8 (by decide) f37 rfl dX3_go_91 ?_
                  refine lv_iload hx hb dX3_go_94 (lv_at hl 1 rfl) ?_
                  refine lk_ild hx hb hK hP 1 8 (show 8 < 10 by decide) rfl (by omega) (by decide) dX3_go_96 ?_
                  refine li_topi (show (thE σ η k9) 2 j0 = thr σ k9 j0 from rfl) ?_
                  refine lv_aload_n hx hb dX3_go_97 rfl (lv_at hl 4 rfl) ?_
                  refine lv_iload hx hb dX3_go_98 (lv_at hl 1 rfl) ?_
                  obtain ⟨q9, hq9, -⟩ := wK_at (M := MS n nw) (a := a) (e := eL cI cZ cW cO X a n nw ns s9 (thE σ η k9) T) (c := 1) (i := 0) (show 0 < 10 by decide)
                  refine roV (As := [.int (nI j0)]) (q0 := q9) (ci := 3) hx hb hml hown hts (c_X3_lets l D cI cZ cW cO X a n nw ns s9 (thE σ η k9) T G j0 A hO hB (by omega)) (cwV 1 hts gX3_go_X3_lets rfl rfl rfl (by decide +kernel) ⟨by decide, by decide⟩) hK hE hP.w rfl rfl hq9 rfl hl.1 rfl (Nat.le_of_ble_eq_true rfl) hS dX3_go_100 ⟨Nat.zero_le _, Nat.zero_le _⟩ (fun locs hS => ?_)
                  refine li_topi (show lt_ s9 j0 2 = lt_ σ j0 2 from lt_rows (hr 1 (by unfold goK; omega)) (hr 7 (by unfold goK; omega)) j0 2) ?_
                  refine lv_icmp_lt (tgt := 120) hx hb dX3_go_103 (by decide) (fun c12 => ?_) (fun c12 => ?_)
                  · skip
                    have hp1 : 0 < k9 3 j0 := (TH_lt hTH9 hj0).mp c12
                    refine lv_aload_n hx hb dX3_go_120 rfl (lv_at hl 4 rfl) ?_
                    refine lk_gf3 hx hb hX3 hown hK hP 1 0 (show 0 < 10 by decide) rfl 8 (by decide) f37 rfl dX3_go_121 ?_
                    refine lv_iload hx hb dX3_go_124 (lv_at hl 1 rfl) ?_
                    refine lv_dup2_11 hx hb dX3_go_126 rfl rfl ?_
                    refine lk_ild hx hb hK hP 1 8 (show 8 < 10 by decide) rfl (by omega) (by decide) dX3_go_127 ?_
                    refine lv_iconst (v := nI 1) hx hb dX3_go_128 rfl ?_
                    refine lv_iadd hx hb dX3_go_129 ?_
                    refine lk_ist hx hb hK hP hO hS 1 8 (show 8 < 10 by decide) rfl (by omega) (by decide) stE_2 dX3_go_130 (fun G locs hP hS => ?_)
                    refine lv_aload_n hx hb dX3_go_131 rfl (lv_at hl 4 rfl) ?_
                    refine lk_gf3 hx hb hX3 hown hK hP 1 0 (show 0 < 10 by decide) rfl 0 (by decide) f9 rfl dX3_go_132 ?_
                    refine lv_iload hx hb dX3_go_135 (lv_at hl 1 rfl) ?_
                    refine lk_aldO hx hb hK hP 1 1 (show 1 < 10 by decide) rfl (by omega) (by omega) (rfs_at (by omega)) dX3_go_137 ?_
                    refine lv_iconst (v := nI 3) hx hb dX3_go_138 rfl ?_
                    refine lv_dup2_11 hx hb dX3_go_139 rfl rfl ?_
                    refine lk_ild hx hb hK hP 2 j0 (show j0 < n by omega) rfl (by omega) (by decide) dX3_go_140 ?_
                    refine li_topi (x' := s9 8 j0) rfl ?_
                    refine lv_iconst (v := nI 1) hx hb dX3_go_141 rfl ?_
                    refine lv_iadd hx hb dX3_go_142 ?_
                    refine lk_ist hx hb hK hP hO hS 2 j0 (show j0 < n by omega) rfl (by omega) (by decide) stS_8 dX3_go_143 (fun G locs hP hS => ?_)
                    refine lv_aload_n hx hb dX3_go_144 rfl (lv_at hl 5 rfl) ?_
                    refine lv_dup hx hb dX3_go_145 rfl ?_
                    refine lk_gf4 hx hb hX4 hown hK hP 3 w (show w < nw by omega) rfl 5 (by decide) f77 rfl dX3_go_146 ?_
                    refine li_topi (show (up2 s9 8 j0 ((s9 8 j0) + (nI 1))) 13 w = s9 13 w from by first | rfl | exact congrFun (up2_r (by decide)) _) ?_
                    refine lv_iconst (v := nI 1) hx hb dX3_go_149 rfl ?_
                    refine lv_iadd hx hb dX3_go_150 ?_
                    refine lk_pf4 hx hb hX4 hown hK hP hO hS 3 w (show w < nw by omega) rfl 5 (by decide) f77 rfl rfl rfl (Nat.le_of_ble_eq_true rfl) stS_13 dX3_go_151 (fun G locs hP hS => ?_)
                    refine lv_iload hx hb dX3_go_154 (lv_at hl 0 rfl) ?_
                    refine li_ne0 (tgt := 162) hx hb dX3_go_156 (by decide) (by first | omega | (have := wa_le (σ := s9) (nw := nw) (z := s9 13 w + nI 1); omega)) (fun c13 => ?_) (fun c13 => ?_)
                    · skip
                      refine lv_aload_n hx hb dX3_go_162 rfl (lv_at hl 5 rfl) ?_
                      refine lv_iconst (v := (-1)) hx hb dX3_go_163 rfl ?_
                      refine lk_pf4 hx hb hX4 hown hK hP hO hS 3 w (show w < nw by omega) rfl 5 (by decide) f77 rfl rfl rfl (Nat.le_of_ble_eq_true rfl) stS_13 dX3_go_164 (fun G locs hP hS => ?_)
                      refine lv_aload_n hx hb dX3_go_167 rfl (lv_at hl 5 rfl) ?_
                      refine lv_iconst (v := nI 2) hx hb dX3_go_168 rfl ?_
                      refine lk_pf4 hx hb hX4 hown hK hP hO hS 3 w (show w < nw by omega) rfl 4 (by decide) f74 rfl rfl rfl (Nat.le_of_ble_eq_true rfl) stS_12 dX3_go_169 (fun G locs hP hS => ?_)
                      refine lv_aload_n hx hb dX3_go_172 rfl (lv_at hl 5 rfl) ?_
                      refine lv_aload_n hx hb dX3_go_173 rfl (lv_at hl 4 rfl) ?_
                      refine lk_gf3 hx hb hX3 hown hK hP 1 0 (show 0 < 10 by decide) rfl 5 (by decide) f52 rfl dX3_go_174 ?_
                      refine li_topi (show (up2 (up2 (up2 (up2 s9 8 j0 ((s9 8 j0) + (nI 1))) 13 w ((s9 13 w) + (nI 1))) 13 w (-1)) 12 w (nI 2)) 17 0 = (up2 s9 8 j0 (s9 8 j0 + nI 1)) 17 0 from by rw [up2_r (by decide), up2_r (by decide), up2_r (by decide)]) ?_
                      refine lk_pf4 hx hb hX4 hown hK hP hO hS 3 w (show w < nw by omega) rfl 7 (by decide) f90 rfl rfl rfl (Nat.le_of_ble_eq_true rfl) stS_15 dX3_go_177 (fun G locs hP hS => ?_)
                      have hF := wl_eT (m := P - (k + 1)) (F := wl n pl nw w (wkP w σ) (true, (σ, κ))) (by rw [← show P - k = (P - (k + 1)) + 1 by omega]; exact hW) (gs_e hwa hse hp1 hlt)
                      have hw9 : up2 (up2 (up2 (up2 (up2 s9 8 j0 ((s9 8 j0) + (nI 1))) 13 w ((s9 13 w) + (nI 1))) 13 w (-1)) 12 w (nI 2)) 15 w ((up2 s9 8 j0 (s9 8 j0 + nI 1)) 17 0) = (wl n pl nw w (wkP w σ) (true, (σ, κ))).2.1 := by first | (rw [hF]; done) | (rw [hF]; show _ = up2 (up2 (up2 (up2 s9 8 j0 (s9 8 j0 + nI 1)) 13 w (-1)) 12 w (nI 2)) 15 w _; rw [up2_up2])
                      have hP : kP D (MS n nw) a (eL cI cZ cW cO X a n nw ns ((wl n pl nw w (wkP w σ) (true, (σ, κ))).2.1) (up2 (thE σ η k9) 2 j0 (((thE σ η k9) 2 j0) + (nI 1))) T) G := Eq.mp (congrArg (fun z9 => kP D (MS n nw) a (eL cI cZ cW cO X a n nw ns z9 (up2 (thE σ η k9) 2 j0 (((thE σ η k9) 2 j0) + (nI 1))) T) G) hw9) hP
                      clear hw9
                      have hw9 : up2 (thE σ η k9) 2 j0 (((thE σ η k9) 2 j0) + (nI 1)) = thE σ η (wl n pl nw w (wkP w σ) (true, (σ, κ))).2.2 := by first | (rw [hF]; done) | (rw [hF]; exact thE_up)
                      have hP : kP D (MS n nw) a (eL cI cZ cW cO X a n nw ns ((wl n pl nw w (wkP w σ) (true, (σ, κ))).2.1) (thE σ η (wl n pl nw w (wkP w σ) (true, (σ, κ))).2.2) T) G := Eq.mp (congrArg (fun z9 => kP D (MS n nw) a (eL cI cZ cW cO X a n nw ns ((wl n pl nw w (wkP w σ) (true, (σ, κ))).2.1) z9 T) G) hw9) hP
                      clear hw9
                      exact hEnd 180 ls G locs dX3_go_180 hP.w hS
                    · exact absurd c13 (by decide)
                  · skip
                    have hp0 : ¬ 0 < k9 3 j0 := fun z => c12 ((TH_lt hTH9 hj0).mpr z)
                    refine lv_aload_n hx hb dX3_go_106 rfl (lv_at hl 4 rfl) ?_
                    refine lk_gf3 hx hb hX3 hown hK hP 1 0 (show 0 < 10 by decide) rfl 0 (by decide) f9 rfl dX3_go_107 ?_
                    refine lv_iload hx hb dX3_go_110 (lv_at hl 1 rfl) ?_
                    refine lk_aldO hx hb hK hP 1 1 (show 1 < 10 by decide) rfl (by omega) (by omega) (rfs_at (by omega)) dX3_go_112 ?_
                    refine lv_iconst (v := nI 4) hx hb dX3_go_113 rfl ?_
                    refine lv_dup2_11 hx hb dX3_go_114 rfl rfl ?_
                    refine lk_ild hx hb hK hP 2 j0 (show j0 < n by omega) rfl (by omega) (by decide) dX3_go_115 ?_
                    refine li_topi (x' := s9 9 j0) rfl ?_
                    refine lv_iconst (v := nI 1) hx hb dX3_go_116 rfl ?_
                    refine lv_iadd hx hb dX3_go_117 ?_
                    refine lk_ist hx hb hK hP hO hS 2 j0 (show j0 < n by omega) rfl (by omega) (by decide) stS_9 dX3_go_118 (fun G locs hP hS => ?_)
                    have hF := wl_eT (m := P - (k + 1)) (F := wl n pl nw w (wkP w σ) (true, (σ, κ))) (by rw [← show P - k = (P - (k + 1)) + 1 by omega]; exact hW) (gs_b hwa hse hp0)
                    have hw9 : up2 s9 9 j0 ((s9 9 j0) + (nI 1)) = (wl n pl nw w (wkP w σ) (true, (σ, κ))).2.1 := by first | (rw [hF]; done) | (rw [hF]; show _ = up2 (up2 (up2 (up2 s9 8 j0 (s9 8 j0 + nI 1)) 13 w (-1)) 12 w (nI 2)) 15 w _; rw [up2_up2])
                    have hP : kP D (MS n nw) a (eL cI cZ cW cO X a n nw ns ((wl n pl nw w (wkP w σ) (true, (σ, κ))).2.1) (thE σ η k9) T) G := Eq.mp (congrArg (fun z9 => kP D (MS n nw) a (eL cI cZ cW cO X a n nw ns z9 (thE σ η k9) T) G) hw9) hP
                    clear hw9
                    have hw9 : thE σ η k9 = thE σ η (wl n pl nw w (wkP w σ) (true, (σ, κ))).2.2 := by first | (rw [hF]; done) | (rw [hF]; exact thE_up)
                    have hP : kP D (MS n nw) a (eL cI cZ cW cO X a n nw ns ((wl n pl nw w (wkP w σ) (true, (σ, κ))).2.1) (thE σ η (wl n pl nw w (wkP w σ) (true, (σ, κ))).2.2) T) G := Eq.mp (congrArg (fun z9 => kP D (MS n nw) a (eL cI cZ cW cO X a n nw ns ((wl n pl nw w (wkP w σ) (true, (σ, κ))).2.1) z9 T) G) hw9) hP
                    clear hw9
                    exact hEnd 119 ls G locs dX3_go_119 hP.w hS
              · exact absurd c10 (by decide)
          · have hse := gm_sn hRF9 hj0 hz9 hpl hjz ha hb9 hcor
            refine li_topi (show oI (se s9 n (s9 13 w)) = -1 from by rw [hse]; rfl) ?_
            have hne9 : ¬ jz + 1 = pl := fun z => hcor (gm_ec hRF9 hj0 ha hb9 z)
            have hlt := (gm_lt (w := w) hz9 hpl hjz).mpr hne9
            refine lv_istore (lv' := [(4, .int (-1)), (3, .int (nI k)), (2, .int (nI P)), (0, .ref (a 1 0)), (1, .ref (a 3 w))]) hx hb dX3_go_44 hl (by decide) rfl (fun ls hl => ?_)
            refine lv_iload hx hb dX3_go_46 (lv_at hl 0 rfl) ?_
            refine lv_aload_n hx hb dX3_go_48 rfl (lv_at hl 3 rfl) ?_
            refine lk_gf3 hx hb hX3 hown hK hP 1 0 (show 0 < 10 by decide) rfl 0 (by decide) f9 rfl dX3_go_49 ?_
            refine lk_alen hx hb hK hP 1 1 (show 1 < 10 by decide) 3 rfl rfl dX3_go_52 ?_
            refine lv_iconst (v := nI 1) hx hb dX3_go_53 rfl ?_
            refine lv_isub hx hb dX3_go_54 ?_
            refine li_topi (show (nI n) - (nI 1) = nI (n - 1) from pk_sub (by omega)) ?_
            refine lv_icmp_ne (tgt := 62) hx hb dX3_go_55 (by decide) (fun c14 => ?_) (fun c14 => ?_)
            · skip
              refine lv_iconst (v := nI 0) hx hb dX3_go_62 rfl ?_
              refine lv_istore (lv' := [(5, .int (nI 0)), (4, .int (-1)), (3, .int (nI k)), (2, .int (nI P)), (0, .ref (a 1 0)), (1, .ref (a 3 w))]) hx hb dX3_go_63 hl (by decide) rfl (fun ls hl => ?_)
              refine lv_iload hx hb dX3_go_65 (lv_at hl 0 rfl) ?_
              refine li_ne0 (tgt := 85) hx hb dX3_go_67 (by decide) (by first | omega | (have := wa_le (σ := s9) (nw := nw) (z := s9 13 w + nI 1); omega)) (fun c15 => ?_) (fun c15 => ?_)
              · exact absurd c15 (by decide)
              · skip
                refine lv_aload_n hx hb dX3_go_70 rfl (lv_at hl 4 rfl) ?_
                refine lv_aload_n hx hb dX3_go_71 rfl (lv_at hl 5 rfl) ?_
                refine lk_gf4 hx hb hX4 hown hK hP 3 w (show w < nw by omega) rfl 5 (by decide) f77 rfl dX3_go_72 ?_
                refine lv_iconst (v := nI 1) hx hb dX3_go_75 rfl ?_
                refine lv_iadd hx hb dX3_go_76 ?_
                obtain ⟨q9, hq9, -⟩ := wK_at (M := MS n nw) (a := a) (e := eL cI cZ cW cO X a n nw ns s9 (thE σ η k9) T) (c := 1) (i := 0) (show 0 < 10 by decide)
                refine roV (As := [.int ((s9 13 w) + (nI 1))]) (q0 := q9) (ci := 3) hx hb hml hown hts (c_X3_on l D cI cZ cW cO X a n nw ns s9 (thE σ η k9) T G ((s9 13 w) + (nI 1)) A hO hB) (cwV 1 hts gX3_go_X3_on rfl rfl rfl (by decide +kernel) ⟨by decide, by decide⟩) hK hE hP.w rfl rfl hq9 rfl hl.1 rfl (Nat.le_of_ble_eq_true rfl) hS dX3_go_77 ⟨Nat.zero_le _, Nat.zero_le _⟩ (fun locs hS => ?_)
                refine lv_iconst (v := nI 2) hx hb dX3_go_80 rfl ?_
                refine li_ne (tgt := 85) hx hb dX3_go_81 (by decide) (by first | omega | (have := wa_le (σ := s9) (nw := nw) (z := s9 13 w + nI 1); omega)) (by first | omega | (have := wa_le (σ := s9) (nw := nw) (z := s9 13 w + nI 1); omega)) (fun c16 => ?_) (fun c16 => ?_)
                · skip
                  have hwa : wa s9 nw (s9 13 w + nI 1) < 2 := by have h9 := AT_le hAT9 hPB9 hpl (j := jz + 1) (by omega); rw [← nI_add, ← hz9] at h9; omega
                  refine lv_iload hx hb dX3_go_85 (lv_at hl 1 rfl) ?_
                  refine lv_if_lt (tgt := 144) hx hb dX3_go_87 (by decide) (fun c17 => ?_) (fun c17 => ?_)
                  · skip
                    refine lv_aload_n hx hb dX3_go_144 rfl (lv_at hl 5 rfl) ?_
                    refine lv_dup hx hb dX3_go_145 rfl ?_
                    refine lk_gf4 hx hb hX4 hown hK hP 3 w (show w < nw by omega) rfl 5 (by decide) f77 rfl dX3_go_146 ?_
                    refine li_topi (show s9 13 w = s9 13 w from by first | rfl | exact congrFun (up2_r (by decide)) _) ?_
                    refine lv_iconst (v := nI 1) hx hb dX3_go_149 rfl ?_
                    refine lv_iadd hx hb dX3_go_150 ?_
                    refine lk_pf4 hx hb hX4 hown hK hP hO hS 3 w (show w < nw by omega) rfl 5 (by decide) f77 rfl rfl rfl (Nat.le_of_ble_eq_true rfl) stS_13 dX3_go_151 (fun G locs hP hS => ?_)
                    refine lv_iload hx hb dX3_go_154 (lv_at hl 0 rfl) ?_
                    refine li_ne0 (tgt := 162) hx hb dX3_go_156 (by decide) (by first | omega | (have := wa_le (σ := s9) (nw := nw) (z := s9 13 w + nI 1); omega)) (fun c18 => ?_) (fun c18 => ?_)
                    · exact absurd c18 (by decide)
                    · skip
                      refine lv_goto (tgt := 181) hx hb dX3_go_159 (by decide) ?_
                      refine lv_iinc (v := nI (k + 1)) (lv' := [(3, .int (nI (k + 1))), (5, .int (nI 0)), (4, .int (-1)), (2, .int (nI P)), (0, .ref (a 1 0)), (1, .ref (a 3 w))]) hx hb dX3_go_181 hl (k := 2) rfl (nI_inc _ _) (by decide) rfl (fun ls hl => ?_)
                      refine lv_goto (tgt := 31) hx hb dX3_go_184 (by decide) ?_
                      have hw9 : up2 s9 13 w ((s9 13 w) + (nI 1)) = (up2 s9 13 w ((s9 13 w) + (nI 1))) := rfl
                      have hP : kP D (MS n nw) a (eL cI cZ cW cO X a n nw ns (up2 s9 13 w ((s9 13 w) + (nI 1))) (thE σ η k9) T) G := Eq.mp (congrArg (fun z9 => kP D (MS n nw) a (eL cI cZ cW cO X a n nw ns z9 (thE σ η k9) T) G) hw9) hP
                      clear hw9
                      have hl9 : lv_has ls 6 [(3, .int (nI (k + 1))), (2, .int (nI P)), (0, .ref (a 1 0)), (1, .ref (a 3 w))] := lv_sub hl [0, 3, 4, 5] rfl
                      have hg := gs_d (n := n) (pl := pl) (nw := nw) (k9 := k9) hwa hse hlt
                      have hkp := g1_keep (n := n) (pl := pl) (nw := nw) (w := w) (a := s9) (b := k9) hpl hw hPB9 hTH9 hwk9
                      have hat := g1_AT (n := n) (pl := pl) (nw := nw) (w := w) (q := (s9, k9)) hAT9
                      have hrk := fun r (h : goK r) => g1_rowK (n := n) (pl := pl) (nw := nw) (w := w) (q := (s9, k9)) (k := r) h
                      rw [hg] at hkp hat
                      simp only [hg] at hrk
                      exact ih31 (k + 1) P (up2 s9 13 w ((s9 13 w) + (nI 1))) k9 (by omega) (by omega) (by rw [show P - k = (P - (k + 1)) + 1 by omega] at hW; exact wl_nT hW hg) (fun r h => (hrk r h).trans (hr r h)) (hkp.1) (hkp.2.1) (hat) (by omega) (hkp.2.2.2 rfl) G locs hP hS ls hl9
                  · skip
                    exact absurd (show (-1 : Int32) < 0 by decide) c17
                · skip
                  have hF := wl_eT (m := P - (k + 1)) (F := wl n pl nw w (wkP w σ) (true, (σ, κ))) (by rw [← show P - k = (P - (k + 1)) + 1 by omega]; exact hW) (g1_a (κ := k9) (n := n) (pl := pl) (by omega))
                  have hw9 : s9 = (wl n pl nw w (wkP w σ) (true, (σ, κ))).2.1 := by first | (rw [hF]; done) | (rw [hF]; show _ = up2 (up2 (up2 (up2 s9 8 j0 (s9 8 j0 + nI 1)) 13 w (-1)) 12 w (nI 2)) 15 w _; rw [up2_up2])
                  have hP : kP D (MS n nw) a (eL cI cZ cW cO X a n nw ns ((wl n pl nw w (wkP w σ) (true, (σ, κ))).2.1) (thE σ η k9) T) G := Eq.mp (congrArg (fun z9 => kP D (MS n nw) a (eL cI cZ cW cO X a n nw ns z9 (thE σ η k9) T) G) hw9) hP
                  clear hw9
                  have hw9 : thE σ η k9 = thE σ η (wl n pl nw w (wkP w σ) (true, (σ, κ))).2.2 := by first | (rw [hF]; done) | (rw [hF]; exact thE_up)
                  have hP : kP D (MS n nw) a (eL cI cZ cW cO X a n nw ns ((wl n pl nw w (wkP w σ) (true, (σ, κ))).2.1) (thE σ η (wl n pl nw w (wkP w σ) (true, (σ, κ))).2.2) T) G := Eq.mp (congrArg (fun z9 => kP D (MS n nw) a (eL cI cZ cW cO X a n nw ns ((wl n pl nw w (wkP w σ) (true, (σ, κ))).2.1) z9 T) G) hw9) hP
                  clear hw9
                  exact hEnd 84 ls G locs dX3_go_84 hP.w hS
            · skip
              exact absurd c14 (fun z => by have h9 := congrArg Int32.toInt z; rw [nI_toInt (by omega)] at h9; exact absurd h9 (by have h8 : ((-1 : Int32)).toInt = -1 := (by decide); omega))
    have hw9 : η = thE σ η κ := (thE_id hη).symm
    have hP : kP D (MS n nw) a (eL cI cZ cW cO X a n nw ns σ (thE σ η κ) T) H := Eq.mp (congrArg (fun z9 => kP D (MS n nw) a (eL cI cZ cW cO X a n nw ns σ z9 T) H) hw9) hP
    clear hw9
    have hl9 : lv_has ls 6 [(3, .int (nI 0)), (2, .int (nI (nN (σ 4 w)))), (0, .ref (a 1 0)), (1, .ref (a 3 w))] := lv_sub hl [0, 1, 2, 3] rfl
    exact L31_2 (((nN (σ 4 w)) - 0) + 1) 0 (nN (σ 4 w)) σ κ (Nat.lt_succ_self _) (Nat.zero_le _) (by rw [Nat.sub_zero]; unfold wkP; first | rw [if_neg (show ¬ σ 11 w = 0 by assumption)] | (rw [if_pos (show σ 11 w = 0 by assumption)]; done) | (rw [if_pos (show σ 11 w = 0 by assumption)]; first | rfl | (rw [show nN (σ 4 w) = 1 by omega]; rfl))) (fun _ _ => rfl) (hPB) (hTH) (hAT) (by first | omega | exact hpc.2.2 | exact mxp_le hpc.2.2) (hwk) H locs hP hS ls hl9
  · skip
    refine lv_aload_n hx hb dX3_go_7 rfl (lv_at hl 1 rfl) ?_
    refine lk_gf4 hx hb hX4 hown hK hP 3 w (show w < nw by omega) rfl 0 (by decide) f57 rfl dX3_go_8 ?_
    refine li_topi (show σ 4 w = nI (nN (σ 4 w)) from hpc.1) ?_
    refine lv_iconst (v := nI 1) hx hb dX3_go_11 rfl ?_
    refine li_ne (tgt := 22) hx hb dX3_go_12 (by decide) (by first | omega | (have := wa_le (σ := s9) (nw := nw) (z := s9 13 w + nI 1); omega)) (by first | omega | (have := wa_le (σ := s9) (nw := nw) (z := s9 13 w + nI 1); omega)) (fun c19 => ?_) (fun c19 => ?_)
    · skip
      refine lv_aload_n hx hb dX3_go_22 rfl (lv_at hl 1 rfl) ?_
      refine lk_gf4 hx hb hX4 hown hK hP 3 w (show w < nw by omega) rfl 0 (by decide) f57 rfl dX3_go_23 ?_
      refine li_topi (show σ 4 w = nI (nN (σ 4 w)) from hpc.1) ?_
      refine lv_iconst (v := nI 1) hx hb dX3_go_26 rfl ?_
      refine lv_isub hx hb dX3_go_27 ?_
      refine li_topi (show (nI (nN (σ 4 w))) - (nI 1) = nI (mxp (nN (σ 4 w))) from by rw [pk_sub hpc.2.1]; congr 1; unfold mxp; split <;> omega) ?_
      refine lv_istore_n (lv' := [(2, .int (nI (mxp (nN (σ 4 w))))), (0, .ref (a 1 0)), (1, .ref (a 3 w))]) hx hb dX3_go_28 rfl hl (by decide) rfl (fun ls hl => ?_)
      refine lv_iconst (v := nI 0) hx hb dX3_go_29 rfl ?_
      refine lv_istore_n (lv' := [(3, .int (nI 0)), (2, .int (nI (mxp (nN (σ 4 w))))), (0, .ref (a 1 0)), (1, .ref (a 3 w))]) hx hb dX3_go_30 rfl hl (by decide) rfl (fun ls hl => ?_)
      have L31_20 : ∀ (fuel : Nat) (k : Nat) (P : Nat) (s9 : Sg) (k9 : Sg), (P - k) < fuel → (k ≤ P) → (wl n pl nw w (P - k) (true, (s9, k9)) = wl n pl nw w (wkP w σ) (true, (σ, κ))) → (∀ r, goK r → s9 r = σ r) → (PB pl nw s9) → (TH n σ k9) → (AT pl nw s9) → (P ≤ 3) → (s9 12 w = nI 1) → ∀ (G : Heap) (locs : List Loc), kP D (MS n nw) a (eL cI cZ cW cO X a n nw ns s9 (thE σ η k9) T) G → va_S A H G locs → ∀ (ls : Array Slot), lv_has ls 6 [(3, .int (nI k)), (2, .int (nI P)), (0, .ref (a 1 0)), (1, .ref (a 3 w))] → W p l e ({ frames := 1, cells := 0, slots := 0, locals := 26 } : Room) s m args below meth c G locs 0 0 Q (F0 m 31 ls []) := by
        intro fuel
        induction fuel with
        | zero =>
          intro k P s9 k9 hfuel
          exact absurd hfuel (Nat.not_lt_zero _)
        | succ fuel ih31 =>
          intro k P s9 k9 hfuel31 hk hW hr hPB9 hTH9 hAT9 hP3 hwk9 G locs hP hS ls hl
          refine lv_iload_n hx hb dX3_go_31 rfl (lv_at hl 0 rfl) ?_
          refine lv_iload_n hx hb dX3_go_32 rfl (lv_at hl 1 rfl) ?_
          refine li_ge (tgt := 187) hx hb dX3_go_33 (by decide) (by first | omega | (have := wa_le (σ := s9) (nw := nw) (z := s9 13 w + nI 1); omega)) (by first | omega | (have := wa_le (σ := s9) (nw := nw) (z := s9 13 w + nI 1); omega)) (fun c21 => ?_) (fun c21 => ?_)
          · skip
            have hF : (wl n pl nw w (wkP w σ) (true, (σ, κ))).2 = (s9, k9) := by rw [← hW, show P - k = 0 by omega]; rfl
            have hw9 : s9 = (wl n pl nw w (wkP w σ) (true, (σ, κ))).2.1 := by first | (rw [hF]; done) | (rw [hF]; show _ = up2 (up2 (up2 (up2 s9 8 j0 (s9 8 j0 + nI 1)) 13 w (-1)) 12 w (nI 2)) 15 w _; rw [up2_up2])
            have hP : kP D (MS n nw) a (eL cI cZ cW cO X a n nw ns ((wl n pl nw w (wkP w σ) (true, (σ, κ))).2.1) (thE σ η k9) T) G := Eq.mp (congrArg (fun z9 => kP D (MS n nw) a (eL cI cZ cW cO X a n nw ns z9 (thE σ η k9) T) G) hw9) hP
            clear hw9
            have hw9 : thE σ η k9 = thE σ η (wl n pl nw w (wkP w σ) (true, (σ, κ))).2.2 := by first | (rw [hF]; done) | (rw [hF]; exact thE_up)
            have hP : kP D (MS n nw) a (eL cI cZ cW cO X a n nw ns ((wl n pl nw w (wkP w σ) (true, (σ, κ))).2.1) (thE σ η (wl n pl nw w (wkP w σ) (true, (σ, κ))).2.2) T) G := Eq.mp (congrArg (fun z9 => kP D (MS n nw) a (eL cI cZ cW cO X a n nw ns ((wl n pl nw w (wkP w σ) (true, (σ, κ))).2.1) z9 T) G) hw9) hP
            clear hw9
            exact hEnd 187 ls G locs dX3_go_187 hP.w hS
          · skip
            refine lv_aload_n hx hb dX3_go_36 rfl (lv_at hl 2 rfl) ?_
            refine lv_aload_n hx hb dX3_go_37 rfl (lv_at hl 3 rfl) ?_
            refine lk_gf4 hx hb hX4 hown hK hP 3 w (show w < nw by omega) rfl 5 (by decide) f77 rfl dX3_go_38 ?_
            obtain ⟨q9, hq9, -⟩ := wK_at (M := MS n nw) (a := a) (e := eL cI cZ cW cO X a n nw ns s9 (thE σ η k9) T) (c := 1) (i := 0) (show 0 < 10 by decide)
            refine roV (As := [.int (s9 13 w)]) (q0 := q9) (ci := 3) hx hb hml hown hts (c_X3_corner l D cI cZ cW cO X a n nw ns s9 (thE σ η k9) T G (s9 13 w) A hO hB) (cwV 1 hts gX3_go_X3_corner rfl rfl rfl (by decide +kernel) ⟨by decide, by decide⟩) hK hE hP.w rfl rfl hq9 rfl hl.1 rfl (Nat.le_of_ble_eq_true rfl) hS dX3_go_41 ⟨Nat.zero_le _, Nat.zero_le _⟩ (fun locs hS => ?_)
            obtain ⟨jz, hjz, hz9⟩ := hPB9 w hw hwk9
            have hRF9 : RF n pl s9 := RF_rows hRF (hr 0 (by unfold goK; omega)) (hr 2 (by unfold goK; omega))
            obtain ⟨j0, hj0, -, ha, hb9⟩ := RF_on hRF9 hpl hjz
            by_cases hcor : jz + 1 = nN (s9 2 j0) + nN (s9 0 j0)
            · have hse := gm_sc hRF9 hj0 hz9 hpl hjz ha hb9 hcor
              refine li_topi (show oI (se s9 n (s9 13 w)) = nI j0 from by rw [hse]; rfl) ?_
              refine lv_istore (lv' := [(4, .int (nI j0)), (3, .int (nI k)), (2, .int (nI P)), (0, .ref (a 1 0)), (1, .ref (a 3 w))]) hx hb dX3_go_44 hl (by decide) rfl (fun ls hl => ?_)
              refine lv_iload hx hb dX3_go_46 (lv_at hl 0 rfl) ?_
              refine lv_aload_n hx hb dX3_go_48 rfl (lv_at hl 3 rfl) ?_
              refine lk_gf3 hx hb hX3 hown hK hP 1 0 (show 0 < 10 by decide) rfl 0 (by decide) f9 rfl dX3_go_49 ?_
              refine lk_alen hx hb hK hP 1 1 (show 1 < 10 by decide) 3 rfl rfl dX3_go_52 ?_
              refine lv_iconst (v := nI 1) hx hb dX3_go_53 rfl ?_
              refine lv_isub hx hb dX3_go_54 ?_
              refine li_topi (show (nI n) - (nI 1) = nI (n - 1) from pk_sub (by omega)) ?_
              refine li_ne (tgt := 62) hx hb dX3_go_55 (by decide) (by first | omega | (have := wa_le (σ := s9) (nw := nw) (z := s9 13 w + nI 1); omega)) (by first | omega | (have := wa_le (σ := s9) (nw := nw) (z := s9 13 w + nI 1); omega)) (fun c22 => ?_) (fun c22 => ?_)
              · skip
                have hne9 : ¬ jz + 1 = pl := fun z => by have h9 := RF_mono hRF9 (s := j0) (t := n - 1) (by omega) (by omega); have h8 := hRF9.2.2.2.1 (by omega); have h7 := (hRF9.1 (n - 1) (by omega)).2.2.1; omega
                have hlt := (gm_lt (w := w) hz9 hpl hjz).mpr hne9
                refine lv_iconst (v := nI 0) hx hb dX3_go_62 rfl ?_
                refine lv_istore (lv' := [(5, .int (nI 0)), (4, .int (nI j0)), (3, .int (nI k)), (2, .int (nI P)), (0, .ref (a 1 0)), (1, .ref (a 3 w))]) hx hb dX3_go_63 hl (by decide) rfl (fun ls hl => ?_)
                refine lv_iload hx hb dX3_go_65 (lv_at hl 0 rfl) ?_
                refine li_ne0 (tgt := 85) hx hb dX3_go_67 (by decide) (by first | omega | (have := wa_le (σ := s9) (nw := nw) (z := s9 13 w + nI 1); omega)) (fun c23 => ?_) (fun c23 => ?_)
                · exact absurd c23 (by decide)
                · skip
                  refine lv_aload_n hx hb dX3_go_70 rfl (lv_at hl 4 rfl) ?_
                  refine lv_aload_n hx hb dX3_go_71 rfl (lv_at hl 5 rfl) ?_
                  refine lk_gf4 hx hb hX4 hown hK hP 3 w (show w < nw by omega) rfl 5 (by decide) f77 rfl dX3_go_72 ?_
                  refine lv_iconst (v := nI 1) hx hb dX3_go_75 rfl ?_
                  refine lv_iadd hx hb dX3_go_76 ?_
                  obtain ⟨q9, hq9, -⟩ := wK_at (M := MS n nw) (a := a) (e := eL cI cZ cW cO X a n nw ns s9 (thE σ η k9) T) (c := 1) (i := 0) (show 0 < 10 by decide)
                  refine roV (As := [.int ((s9 13 w) + (nI 1))]) (q0 := q9) (ci := 3) hx hb hml hown hts (c_X3_on l D cI cZ cW cO X a n nw ns s9 (thE σ η k9) T G ((s9 13 w) + (nI 1)) A hO hB) (cwV 1 hts gX3_go_X3_on rfl rfl rfl (by decide +kernel) ⟨by decide, by decide⟩) hK hE hP.w rfl rfl hq9 rfl hl.1 rfl (Nat.le_of_ble_eq_true rfl) hS dX3_go_77 ⟨Nat.zero_le _, Nat.zero_le _⟩ (fun locs hS => ?_)
                  refine lv_iconst (v := nI 2) hx hb dX3_go_80 rfl ?_
                  refine li_ne (tgt := 85) hx hb dX3_go_81 (by decide) (by first | omega | (have := wa_le (σ := s9) (nw := nw) (z := s9 13 w + nI 1); omega)) (by first | omega | (have := wa_le (σ := s9) (nw := nw) (z := s9 13 w + nI 1); omega)) (fun c24 => ?_) (fun c24 => ?_)
                  · skip
                    have hwa : wa s9 nw (s9 13 w + nI 1) < 2 := by have h9 := AT_le hAT9 hPB9 hpl (j := jz + 1) (by omega); rw [← nI_add, ← hz9] at h9; omega
                    refine lv_iload hx hb dX3_go_85 (lv_at hl 1 rfl) ?_
                    refine li_lt0 (tgt := 144) hx hb dX3_go_87 (by decide) (by first | omega | (have := wa_le (σ := s9) (nw := nw) (z := s9 13 w + nI 1); omega)) (fun c25 => ?_) (fun c25 => ?_)
                    · skip
                      exact c25.elim
                    · skip
                      refine lv_aload_n hx hb dX3_go_90 rfl (lv_at hl 4 rfl) ?_
                      refine lk_gf3 hx hb hX3 hown hK hP 1 0 (show 0 < 10 by decide) rfl 8 (by decide) f37 rfl dX3_go_91 ?_
                      refine lv_iload hx hb dX3_go_94 (lv_at hl 1 rfl) ?_
                      refine lk_ild hx hb hK hP 1 8 (show 8 < 10 by decide) rfl (by omega) (by decide) dX3_go_96 ?_
                      refine li_topi (show (thE σ η k9) 2 j0 = thr σ k9 j0 from rfl) ?_
                      refine lv_aload_n hx hb dX3_go_97 rfl (lv_at hl 4 rfl) ?_
                      refine lv_iload hx hb dX3_go_98 (lv_at hl 1 rfl) ?_
                      obtain ⟨q9, hq9, -⟩ := wK_at (M := MS n nw) (a := a) (e := eL cI cZ cW cO X a n nw ns s9 (thE σ η k9) T) (c := 1) (i := 0) (show 0 < 10 by decide)
                      refine roV (As := [.int (nI j0)]) (q0 := q9) (ci := 3) hx hb hml hown hts (c_X3_lets l D cI cZ cW cO X a n nw ns s9 (thE σ η k9) T G j0 A hO hB (by omega)) (cwV 1 hts gX3_go_X3_lets rfl rfl rfl (by decide +kernel) ⟨by decide, by decide⟩) hK hE hP.w rfl rfl hq9 rfl hl.1 rfl (Nat.le_of_ble_eq_true rfl) hS dX3_go_100 ⟨Nat.zero_le _, Nat.zero_le _⟩ (fun locs hS => ?_)
                      refine li_topi (show lt_ s9 j0 2 = lt_ σ j0 2 from lt_rows (hr 1 (by unfold goK; omega)) (hr 7 (by unfold goK; omega)) j0 2) ?_
                      refine lv_icmp_lt (tgt := 120) hx hb dX3_go_103 (by decide) (fun c26 => ?_) (fun c26 => ?_)
                      · skip
                        have hp1 : 0 < k9 3 j0 := (TH_lt hTH9 hj0).mp c26
                        refine lv_aload_n hx hb dX3_go_120 rfl (lv_at hl 4 rfl) ?_
                        refine lk_gf3 hx hb hX3 hown hK hP 1 0 (show 0 < 10 by decide) rfl 8 (by decide) f37 rfl dX3_go_121 ?_
                        refine lv_iload hx hb dX3_go_124 (lv_at hl 1 rfl) ?_
                        refine lv_dup2_11 hx hb dX3_go_126 rfl rfl ?_
                        refine lk_ild hx hb hK hP 1 8 (show 8 < 10 by decide) rfl (by omega) (by decide) dX3_go_127 ?_
                        refine lv_iconst (v := nI 1) hx hb dX3_go_128 rfl ?_
                        refine lv_iadd hx hb dX3_go_129 ?_
                        refine lk_ist hx hb hK hP hO hS 1 8 (show 8 < 10 by decide) rfl (by omega) (by decide) stE_2 dX3_go_130 (fun G locs hP hS => ?_)
                        refine lv_aload_n hx hb dX3_go_131 rfl (lv_at hl 4 rfl) ?_
                        refine lk_gf3 hx hb hX3 hown hK hP 1 0 (show 0 < 10 by decide) rfl 0 (by decide) f9 rfl dX3_go_132 ?_
                        refine lv_iload hx hb dX3_go_135 (lv_at hl 1 rfl) ?_
                        refine lk_aldO hx hb hK hP 1 1 (show 1 < 10 by decide) rfl (by omega) (by omega) (rfs_at (by omega)) dX3_go_137 ?_
                        refine lv_iconst (v := nI 3) hx hb dX3_go_138 rfl ?_
                        refine lv_dup2_11 hx hb dX3_go_139 rfl rfl ?_
                        refine lk_ild hx hb hK hP 2 j0 (show j0 < n by omega) rfl (by omega) (by decide) dX3_go_140 ?_
                        refine li_topi (x' := s9 8 j0) rfl ?_
                        refine lv_iconst (v := nI 1) hx hb dX3_go_141 rfl ?_
                        refine lv_iadd hx hb dX3_go_142 ?_
                        refine lk_ist hx hb hK hP hO hS 2 j0 (show j0 < n by omega) rfl (by omega) (by decide) stS_8 dX3_go_143 (fun G locs hP hS => ?_)
                        refine lv_aload_n hx hb dX3_go_144 rfl (lv_at hl 5 rfl) ?_
                        refine lv_dup hx hb dX3_go_145 rfl ?_
                        refine lk_gf4 hx hb hX4 hown hK hP 3 w (show w < nw by omega) rfl 5 (by decide) f77 rfl dX3_go_146 ?_
                        refine li_topi (show (up2 s9 8 j0 ((s9 8 j0) + (nI 1))) 13 w = s9 13 w from by first | rfl | exact congrFun (up2_r (by decide)) _) ?_
                        refine lv_iconst (v := nI 1) hx hb dX3_go_149 rfl ?_
                        refine lv_iadd hx hb dX3_go_150 ?_
                        refine lk_pf4 hx hb hX4 hown hK hP hO hS 3 w (show w < nw by omega) rfl 5 (by decide) f77 rfl rfl rfl (Nat.le_of_ble_eq_true rfl) stS_13 dX3_go_151 (fun G locs hP hS => ?_)
                        refine lv_iload hx hb dX3_go_154 (lv_at hl 0 rfl) ?_
                        refine li_ne0 (tgt := 162) hx hb dX3_go_156 (by decide) (by first | omega | (have := wa_le (σ := s9) (nw := nw) (z := s9 13 w + nI 1); omega)) (fun c27 => ?_) (fun c27 => ?_)
                        · exact absurd c27 (by decide)
                        · skip
                          refine lv_goto (tgt := 181) hx hb dX3_go_159 (by decide) ?_
                          refine lv_iinc (v := nI (k + 1)) (lv' := [(3, .int (nI (k + 1))), (5, .int (nI 0)), (4, .int (nI j0)), (2, .int (nI P)), (0, .ref (a 1 0)), (1, .ref (a 3 w))]) hx hb dX3_go_181 hl (k := 2) rfl (nI_inc _ _) (by decide) rfl (fun ls hl => ?_)
                          refine lv_goto (tgt := 31) hx hb dX3_go_184 (by decide) ?_
                          have hw9 : up2 (up2 s9 8 j0 ((s9 8 j0) + (nI 1))) 13 w ((s9 13 w) + (nI 1)) = (up2 (up2 s9 8 j0 ((s9 8 j0) + (nI 1))) 13 w ((s9 13 w) + (nI 1))) := rfl
                          have hP : kP D (MS n nw) a (eL cI cZ cW cO X a n nw ns (up2 (up2 s9 8 j0 ((s9 8 j0) + (nI 1))) 13 w ((s9 13 w) + (nI 1))) (up2 (thE σ η k9) 2 j0 (((thE σ η k9) 2 j0) + (nI 1))) T) G := Eq.mp (congrArg (fun z9 => kP D (MS n nw) a (eL cI cZ cW cO X a n nw ns z9 (up2 (thE σ η k9) 2 j0 (((thE σ η k9) 2 j0) + (nI 1))) T) G) hw9) hP
                          clear hw9
                          have hw9 : up2 (thE σ η k9) 2 j0 (((thE σ η k9) 2 j0) + (nI 1)) = thE σ η (up2 k9 3 j0 (k9 3 j0 - nI 1)) := thE_up
                          have hP : kP D (MS n nw) a (eL cI cZ cW cO X a n nw ns (up2 (up2 s9 8 j0 ((s9 8 j0) + (nI 1))) 13 w ((s9 13 w) + (nI 1))) (thE σ η (up2 k9 3 j0 (k9 3 j0 - nI 1))) T) G := Eq.mp (congrArg (fun z9 => kP D (MS n nw) a (eL cI cZ cW cO X a n nw ns (up2 (up2 s9 8 j0 ((s9 8 j0) + (nI 1))) 13 w ((s9 13 w) + (nI 1))) z9 T) G) hw9) hP
                          clear hw9
                          have hl9 : lv_has ls 6 [(3, .int (nI (k + 1))), (2, .int (nI P)), (0, .ref (a 1 0)), (1, .ref (a 3 w))] := lv_sub hl [0, 3, 4, 5] rfl
                          have hg := gs_f (n := n) (pl := pl) (nw := nw) hwa hse hp1 hlt
                          have hkp := g1_keep (n := n) (pl := pl) (nw := nw) (w := w) (a := s9) (b := k9) hpl hw hPB9 hTH9 hwk9
                          have hat := g1_AT (n := n) (pl := pl) (nw := nw) (w := w) (q := (s9, k9)) hAT9
                          have hrk := fun r (h : goK r) => g1_rowK (n := n) (pl := pl) (nw := nw) (w := w) (q := (s9, k9)) (k := r) h
                          rw [hg] at hkp hat
                          simp only [hg] at hrk
                          exact ih31 (k + 1) P (up2 (up2 s9 8 j0 ((s9 8 j0) + (nI 1))) 13 w ((s9 13 w) + (nI 1))) (up2 k9 3 j0 (k9 3 j0 - nI 1)) (by omega) (by omega) (by rw [show P - k = (P - (k + 1)) + 1 by omega] at hW; exact wl_nT hW hg) (fun r h => (hrk r h).trans (hr r h)) (hkp.1) (hkp.2.1) (hat) (by omega) (hkp.2.2.2 rfl) G locs hP hS ls hl9
                      · skip
                        have hp0 : ¬ 0 < k9 3 j0 := fun z => c26 ((TH_lt hTH9 hj0).mpr z)
                        refine lv_aload_n hx hb dX3_go_106 rfl (lv_at hl 4 rfl) ?_
                        refine lk_gf3 hx hb hX3 hown hK hP 1 0 (show 0 < 10 by decide) rfl 0 (by decide) f9 rfl dX3_go_107 ?_
                        refine lv_iload hx hb dX3_go_110 (lv_at hl 1 rfl) ?_
                        refine lk_aldO hx hb hK hP 1 1 (show 1 < 10 by decide) rfl (by omega) (by omega) (rfs_at (by omega)) dX3_go_112 ?_
                        refine lv_iconst (v := nI 4) hx hb dX3_go_113 rfl ?_
                        refine lv_dup2_11 hx hb dX3_go_114 rfl rfl ?_
                        refine lk_ild hx hb hK hP 2 j0 (show j0 < n by omega) rfl (by omega) (by decide) dX3_go_115 ?_
                        refine li_topi (x' := s9 9 j0) rfl ?_
                        refine lv_iconst (v := nI 1) hx hb dX3_go_116 rfl ?_
                        refine lv_iadd hx hb dX3_go_117 ?_
                        refine lk_ist hx hb hK hP hO hS 2 j0 (show j0 < n by omega) rfl (by omega) (by decide) stS_9 dX3_go_118 (fun G locs hP hS => ?_)
                        have hF := wl_eT (m := P - (k + 1)) (F := wl n pl nw w (wkP w σ) (true, (σ, κ))) (by rw [← show P - k = (P - (k + 1)) + 1 by omega]; exact hW) (gs_b hwa hse hp0)
                        have hw9 : up2 s9 9 j0 ((s9 9 j0) + (nI 1)) = (wl n pl nw w (wkP w σ) (true, (σ, κ))).2.1 := by first | (rw [hF]; done) | (rw [hF]; show _ = up2 (up2 (up2 (up2 s9 8 j0 (s9 8 j0 + nI 1)) 13 w (-1)) 12 w (nI 2)) 15 w _; rw [up2_up2])
                        have hP : kP D (MS n nw) a (eL cI cZ cW cO X a n nw ns ((wl n pl nw w (wkP w σ) (true, (σ, κ))).2.1) (thE σ η k9) T) G := Eq.mp (congrArg (fun z9 => kP D (MS n nw) a (eL cI cZ cW cO X a n nw ns z9 (thE σ η k9) T) G) hw9) hP
                        clear hw9
                        have hw9 : thE σ η k9 = thE σ η (wl n pl nw w (wkP w σ) (true, (σ, κ))).2.2 := by first | (rw [hF]; done) | (rw [hF]; exact thE_up)
                        have hP : kP D (MS n nw) a (eL cI cZ cW cO X a n nw ns ((wl n pl nw w (wkP w σ) (true, (σ, κ))).2.1) (thE σ η (wl n pl nw w (wkP w σ) (true, (σ, κ))).2.2) T) G := Eq.mp (congrArg (fun z9 => kP D (MS n nw) a (eL cI cZ cW cO X a n nw ns ((wl n pl nw w (wkP w σ) (true, (σ, κ))).2.1) z9 T) G) hw9) hP
                        clear hw9
                        exact hEnd 119 ls G locs dX3_go_119 hP.w hS
                  · skip
                    have hF := wl_eT (m := P - (k + 1)) (F := wl n pl nw w (wkP w σ) (true, (σ, κ))) (by rw [← show P - k = (P - (k + 1)) + 1 by omega]; exact hW) (g1_a (κ := k9) (n := n) (pl := pl) (by omega))
                    have hw9 : s9 = (wl n pl nw w (wkP w σ) (true, (σ, κ))).2.1 := by first | (rw [hF]; done) | (rw [hF]; show _ = up2 (up2 (up2 (up2 s9 8 j0 (s9 8 j0 + nI 1)) 13 w (-1)) 12 w (nI 2)) 15 w _; rw [up2_up2])
                    have hP : kP D (MS n nw) a (eL cI cZ cW cO X a n nw ns ((wl n pl nw w (wkP w σ) (true, (σ, κ))).2.1) (thE σ η k9) T) G := Eq.mp (congrArg (fun z9 => kP D (MS n nw) a (eL cI cZ cW cO X a n nw ns z9 (thE σ η k9) T) G) hw9) hP
                    clear hw9
                    have hw9 : thE σ η k9 = thE σ η (wl n pl nw w (wkP w σ) (true, (σ, κ))).2.2 := by first | (rw [hF]; done) | (rw [hF]; exact thE_up)
                    have hP : kP D (MS n nw) a (eL cI cZ cW cO X a n nw ns ((wl n pl nw w (wkP w σ) (true, (σ, κ))).2.1) (thE σ η (wl n pl nw w (wkP w σ) (true, (σ, κ))).2.2) T) G := Eq.mp (congrArg (fun z9 => kP D (MS n nw) a (eL cI cZ cW cO X a n nw ns ((wl n pl nw w (wkP w σ) (true, (σ, κ))).2.1) z9 T) G) hw9) hP
                    clear hw9
                    exact hEnd 84 ls G locs dX3_go_84 hP.w hS
              · skip
                have hend : jz + 1 = pl := by have h9 := hRF9.2.2.2.1 (by omega); rw [hcor, show j0 = n - 1 by omega]; exact h9.symm
                have hwa := gm_wa hPB9 hz9 hpl hend
                have hlt := mt (gm_lt (w := w) hz9 hpl hjz).mp (fun q => q hend)
                refine lv_iconst (v := nI 1) hx hb dX3_go_58 rfl ?_
                refine lv_goto (tgt := 63) hx hb dX3_go_59 (by decide) ?_
                refine lv_istore (lv' := [(5, .int (nI 1)), (4, .int (nI j0)), (3, .int (nI k)), (2, .int (nI P)), (0, .ref (a 1 0)), (1, .ref (a 3 w))]) hx hb dX3_go_63 hl (by decide) rfl (fun ls hl => ?_)
                refine lv_iload hx hb dX3_go_65 (lv_at hl 0 rfl) ?_
                refine li_ne0 (tgt := 85) hx hb dX3_go_67 (by decide) (by first | omega | (have := wa_le (σ := s9) (nw := nw) (z := s9 13 w + nI 1); omega)) (fun c28 => ?_) (fun c28 => ?_)
                · skip
                  refine lv_iload hx hb dX3_go_85 (lv_at hl 1 rfl) ?_
                  refine li_lt0 (tgt := 144) hx hb dX3_go_87 (by decide) (by first | omega | (have := wa_le (σ := s9) (nw := nw) (z := s9 13 w + nI 1); omega)) (fun c29 => ?_) (fun c29 => ?_)
                  · skip
                    exact c29.elim
                  · skip
                    refine lv_aload_n hx hb dX3_go_90 rfl (lv_at hl 4 rfl) ?_
                    refine lk_gf3 hx hb hX3 hown hK hP 1 0 (show 0 < 10 by decide) rfl 8 (by decide) f37 rfl dX3_go_91 ?_
                    refine lv_iload hx hb dX3_go_94 (lv_at hl 1 rfl) ?_
                    refine lk_ild hx hb hK hP 1 8 (show 8 < 10 by decide) rfl (by omega) (by decide) dX3_go_96 ?_
                    refine li_topi (show (thE σ η k9) 2 j0 = thr σ k9 j0 from rfl) ?_
                    refine lv_aload_n hx hb dX3_go_97 rfl (lv_at hl 4 rfl) ?_
                    refine lv_iload hx hb dX3_go_98 (lv_at hl 1 rfl) ?_
                    obtain ⟨q9, hq9, -⟩ := wK_at (M := MS n nw) (a := a) (e := eL cI cZ cW cO X a n nw ns s9 (thE σ η k9) T) (c := 1) (i := 0) (show 0 < 10 by decide)
                    refine roV (As := [.int (nI j0)]) (q0 := q9) (ci := 3) hx hb hml hown hts (c_X3_lets l D cI cZ cW cO X a n nw ns s9 (thE σ η k9) T G j0 A hO hB (by omega)) (cwV 1 hts gX3_go_X3_lets rfl rfl rfl (by decide +kernel) ⟨by decide, by decide⟩) hK hE hP.w rfl rfl hq9 rfl hl.1 rfl (Nat.le_of_ble_eq_true rfl) hS dX3_go_100 ⟨Nat.zero_le _, Nat.zero_le _⟩ (fun locs hS => ?_)
                    refine li_topi (show lt_ s9 j0 2 = lt_ σ j0 2 from lt_rows (hr 1 (by unfold goK; omega)) (hr 7 (by unfold goK; omega)) j0 2) ?_
                    refine lv_icmp_lt (tgt := 120) hx hb dX3_go_103 (by decide) (fun c30 => ?_) (fun c30 => ?_)
                    · skip
                      have hp1 : 0 < k9 3 j0 := (TH_lt hTH9 hj0).mp c30
                      refine lv_aload_n hx hb dX3_go_120 rfl (lv_at hl 4 rfl) ?_
                      refine lk_gf3 hx hb hX3 hown hK hP 1 0 (show 0 < 10 by decide) rfl 8 (by decide) f37 rfl dX3_go_121 ?_
                      refine lv_iload hx hb dX3_go_124 (lv_at hl 1 rfl) ?_
                      refine lv_dup2_11 hx hb dX3_go_126 rfl rfl ?_
                      refine lk_ild hx hb hK hP 1 8 (show 8 < 10 by decide) rfl (by omega) (by decide) dX3_go_127 ?_
                      refine lv_iconst (v := nI 1) hx hb dX3_go_128 rfl ?_
                      refine lv_iadd hx hb dX3_go_129 ?_
                      refine lk_ist hx hb hK hP hO hS 1 8 (show 8 < 10 by decide) rfl (by omega) (by decide) stE_2 dX3_go_130 (fun G locs hP hS => ?_)
                      refine lv_aload_n hx hb dX3_go_131 rfl (lv_at hl 4 rfl) ?_
                      refine lk_gf3 hx hb hX3 hown hK hP 1 0 (show 0 < 10 by decide) rfl 0 (by decide) f9 rfl dX3_go_132 ?_
                      refine lv_iload hx hb dX3_go_135 (lv_at hl 1 rfl) ?_
                      refine lk_aldO hx hb hK hP 1 1 (show 1 < 10 by decide) rfl (by omega) (by omega) (rfs_at (by omega)) dX3_go_137 ?_
                      refine lv_iconst (v := nI 3) hx hb dX3_go_138 rfl ?_
                      refine lv_dup2_11 hx hb dX3_go_139 rfl rfl ?_
                      refine lk_ild hx hb hK hP 2 j0 (show j0 < n by omega) rfl (by omega) (by decide) dX3_go_140 ?_
                      refine li_topi (x' := s9 8 j0) rfl ?_
                      refine lv_iconst (v := nI 1) hx hb dX3_go_141 rfl ?_
                      refine lv_iadd hx hb dX3_go_142 ?_
                      refine lk_ist hx hb hK hP hO hS 2 j0 (show j0 < n by omega) rfl (by omega) (by decide) stS_8 dX3_go_143 (fun G locs hP hS => ?_)
                      refine lv_aload_n hx hb dX3_go_144 rfl (lv_at hl 5 rfl) ?_
                      refine lv_dup hx hb dX3_go_145 rfl ?_
                      refine lk_gf4 hx hb hX4 hown hK hP 3 w (show w < nw by omega) rfl 5 (by decide) f77 rfl dX3_go_146 ?_
                      refine li_topi (show (up2 s9 8 j0 ((s9 8 j0) + (nI 1))) 13 w = s9 13 w from by first | rfl | exact congrFun (up2_r (by decide)) _) ?_
                      refine lv_iconst (v := nI 1) hx hb dX3_go_149 rfl ?_
                      refine lv_iadd hx hb dX3_go_150 ?_
                      refine lk_pf4 hx hb hX4 hown hK hP hO hS 3 w (show w < nw by omega) rfl 5 (by decide) f77 rfl rfl rfl (Nat.le_of_ble_eq_true rfl) stS_13 dX3_go_151 (fun G locs hP hS => ?_)
                      refine lv_iload hx hb dX3_go_154 (lv_at hl 0 rfl) ?_
                      refine li_ne0 (tgt := 162) hx hb dX3_go_156 (by decide) (by first | omega | (have := wa_le (σ := s9) (nw := nw) (z := s9 13 w + nI 1); omega)) (fun c31 => ?_) (fun c31 => ?_)
                      · skip
                        refine lv_aload_n hx hb dX3_go_162 rfl (lv_at hl 5 rfl) ?_
                        refine lv_iconst (v := (-1)) hx hb dX3_go_163 rfl ?_
                        refine lk_pf4 hx hb hX4 hown hK hP hO hS 3 w (show w < nw by omega) rfl 5 (by decide) f77 rfl rfl rfl (Nat.le_of_ble_eq_true rfl) stS_13 dX3_go_164 (fun G locs hP hS => ?_)
                        refine lv_aload_n hx hb dX3_go_167 rfl (lv_at hl 5 rfl) ?_
                        refine lv_iconst (v := nI 2) hx hb dX3_go_168 rfl ?_
                        refine lk_pf4 hx hb hX4 hown hK hP hO hS 3 w (show w < nw by omega) rfl 4 (by decide) f74 rfl rfl rfl (Nat.le_of_ble_eq_true rfl) stS_12 dX3_go_169 (fun G locs hP hS => ?_)
                        refine lv_aload_n hx hb dX3_go_172 rfl (lv_at hl 5 rfl) ?_
                        refine lv_aload_n hx hb dX3_go_173 rfl (lv_at hl 4 rfl) ?_
                        refine lk_gf3 hx hb hX3 hown hK hP 1 0 (show 0 < 10 by decide) rfl 5 (by decide) f52 rfl dX3_go_174 ?_
                        refine li_topi (show (up2 (up2 (up2 (up2 s9 8 j0 ((s9 8 j0) + (nI 1))) 13 w ((s9 13 w) + (nI 1))) 13 w (-1)) 12 w (nI 2)) 17 0 = (up2 s9 8 j0 (s9 8 j0 + nI 1)) 17 0 from by rw [up2_r (by decide), up2_r (by decide), up2_r (by decide)]) ?_
                        refine lk_pf4 hx hb hX4 hown hK hP hO hS 3 w (show w < nw by omega) rfl 7 (by decide) f90 rfl rfl rfl (Nat.le_of_ble_eq_true rfl) stS_15 dX3_go_177 (fun G locs hP hS => ?_)
                        have hF := wl_eT (m := P - (k + 1)) (F := wl n pl nw w (wkP w σ) (true, (σ, κ))) (by rw [← show P - k = (P - (k + 1)) + 1 by omega]; exact hW) (gs_e hwa hse hp1 hlt)
                        have hw9 : up2 (up2 (up2 (up2 (up2 s9 8 j0 ((s9 8 j0) + (nI 1))) 13 w ((s9 13 w) + (nI 1))) 13 w (-1)) 12 w (nI 2)) 15 w ((up2 s9 8 j0 (s9 8 j0 + nI 1)) 17 0) = (wl n pl nw w (wkP w σ) (true, (σ, κ))).2.1 := by first | (rw [hF]; done) | (rw [hF]; show _ = up2 (up2 (up2 (up2 s9 8 j0 (s9 8 j0 + nI 1)) 13 w (-1)) 12 w (nI 2)) 15 w _; rw [up2_up2])
                        have hP : kP D (MS n nw) a (eL cI cZ cW cO X a n nw ns ((wl n pl nw w (wkP w σ) (true, (σ, κ))).2.1) (up2 (thE σ η k9) 2 j0 (((thE σ η k9) 2 j0) + (nI 1))) T) G := Eq.mp (congrArg (fun z9 => kP D (MS n nw) a (eL cI cZ cW cO X a n nw ns z9 (up2 (thE σ η k9) 2 j0 (((thE σ η k9) 2 j0) + (nI 1))) T) G) hw9) hP
                        clear hw9
                        have hw9 : up2 (thE σ η k9) 2 j0 (((thE σ η k9) 2 j0) + (nI 1)) = thE σ η (wl n pl nw w (wkP w σ) (true, (σ, κ))).2.2 := by first | (rw [hF]; done) | (rw [hF]; exact thE_up)
                        have hP : kP D (MS n nw) a (eL cI cZ cW cO X a n nw ns ((wl n pl nw w (wkP w σ) (true, (σ, κ))).2.1) (thE σ η (wl n pl nw w (wkP w σ) (true, (σ, κ))).2.2) T) G := Eq.mp (congrArg (fun z9 => kP D (MS n nw) a (eL cI cZ cW cO X a n nw ns ((wl n pl nw w (wkP w σ) (true, (σ, κ))).2.1) z9 T) G) hw9) hP
                        clear hw9
                        exact hEnd 180 ls G locs dX3_go_180 hP.w hS
                      · exact absurd c31 (by decide)
                    · skip
                      have hp0 : ¬ 0 < k9 3 j0 := fun z => c30 ((TH_lt hTH9 hj0).mpr z)
                      refine lv_aload_n hx hb dX3_go_106 rfl (lv_at hl 4 rfl) ?_
                      refine lk_gf3 hx hb hX3 hown hK hP 1 0 (show 0 < 10 by decide) rfl 0 (by decide) f9 rfl dX3_go_107 ?_
                      refine lv_iload hx hb dX3_go_110 (lv_at hl 1 rfl) ?_
                      refine lk_aldO hx hb hK hP 1 1 (show 1 < 10 by decide) rfl (by omega) (by omega) (rfs_at (by omega)) dX3_go_112 ?_
                      refine lv_iconst (v := nI 4) hx hb dX3_go_113 rfl ?_
                      refine lv_dup2_11 hx hb dX3_go_114 rfl rfl ?_
                      refine lk_ild hx hb hK hP 2 j0 (show j0 < n by omega) rfl (by omega) (by decide) dX3_go_115 ?_
                      refine li_topi (x' := s9 9 j0) rfl ?_
                      refine lv_iconst (v := nI 1) hx hb dX3_go_116 rfl ?_
                      refine lv_iadd hx hb dX3_go_117 ?_
                      refine lk_ist hx hb hK hP hO hS 2 j0 (show j0 < n by omega) rfl (by omega) (by decide) stS_9 dX3_go_118 (fun G locs hP hS => ?_)
                      have hF := wl_eT (m := P - (k + 1)) (F := wl n pl nw w (wkP w σ) (true, (σ, κ))) (by rw [← show P - k = (P - (k + 1)) + 1 by omega]; exact hW) (gs_b hwa hse hp0)
                      have hw9 : up2 s9 9 j0 ((s9 9 j0) + (nI 1)) = (wl n pl nw w (wkP w σ) (true, (σ, κ))).2.1 := by first | (rw [hF]; done) | (rw [hF]; show _ = up2 (up2 (up2 (up2 s9 8 j0 (s9 8 j0 + nI 1)) 13 w (-1)) 12 w (nI 2)) 15 w _; rw [up2_up2])
                      have hP : kP D (MS n nw) a (eL cI cZ cW cO X a n nw ns ((wl n pl nw w (wkP w σ) (true, (σ, κ))).2.1) (thE σ η k9) T) G := Eq.mp (congrArg (fun z9 => kP D (MS n nw) a (eL cI cZ cW cO X a n nw ns z9 (thE σ η k9) T) G) hw9) hP
                      clear hw9
                      have hw9 : thE σ η k9 = thE σ η (wl n pl nw w (wkP w σ) (true, (σ, κ))).2.2 := by first | (rw [hF]; done) | (rw [hF]; exact thE_up)
                      have hP : kP D (MS n nw) a (eL cI cZ cW cO X a n nw ns ((wl n pl nw w (wkP w σ) (true, (σ, κ))).2.1) (thE σ η (wl n pl nw w (wkP w σ) (true, (σ, κ))).2.2) T) G := Eq.mp (congrArg (fun z9 => kP D (MS n nw) a (eL cI cZ cW cO X a n nw ns ((wl n pl nw w (wkP w σ) (true, (σ, κ))).2.1) z9 T) G) hw9) hP
                      clear hw9
                      exact hEnd 119 ls G locs dX3_go_119 hP.w hS
                · exact absurd c28 (by decide)
            · have hse := gm_sn hRF9 hj0 hz9 hpl hjz ha hb9 hcor
              refine li_topi (show oI (se s9 n (s9 13 w)) = -1 from by rw [hse]; rfl) ?_
              have hne9 : ¬ jz + 1 = pl := fun z => hcor (gm_ec hRF9 hj0 ha hb9 z)
              have hlt := (gm_lt (w := w) hz9 hpl hjz).mpr hne9
              refine lv_istore (lv' := [(4, .int (-1)), (3, .int (nI k)), (2, .int (nI P)), (0, .ref (a 1 0)), (1, .ref (a 3 w))]) hx hb dX3_go_44 hl (by decide) rfl (fun ls hl => ?_)
              refine lv_iload hx hb dX3_go_46 (lv_at hl 0 rfl) ?_
              refine lv_aload_n hx hb dX3_go_48 rfl (lv_at hl 3 rfl) ?_
              refine lk_gf3 hx hb hX3 hown hK hP 1 0 (show 0 < 10 by decide) rfl 0 (by decide) f9 rfl dX3_go_49 ?_
              refine lk_alen hx hb hK hP 1 1 (show 1 < 10 by decide) 3 rfl rfl dX3_go_52 ?_
              refine lv_iconst (v := nI 1) hx hb dX3_go_53 rfl ?_
              refine lv_isub hx hb dX3_go_54 ?_
              refine li_topi (show (nI n) - (nI 1) = nI (n - 1) from pk_sub (by omega)) ?_
              refine lv_icmp_ne (tgt := 62) hx hb dX3_go_55 (by decide) (fun c32 => ?_) (fun c32 => ?_)
              · skip
                refine lv_iconst (v := nI 0) hx hb dX3_go_62 rfl ?_
                refine lv_istore (lv' := [(5, .int (nI 0)), (4, .int (-1)), (3, .int (nI k)), (2, .int (nI P)), (0, .ref (a 1 0)), (1, .ref (a 3 w))]) hx hb dX3_go_63 hl (by decide) rfl (fun ls hl => ?_)
                refine lv_iload hx hb dX3_go_65 (lv_at hl 0 rfl) ?_
                refine li_ne0 (tgt := 85) hx hb dX3_go_67 (by decide) (by first | omega | (have := wa_le (σ := s9) (nw := nw) (z := s9 13 w + nI 1); omega)) (fun c33 => ?_) (fun c33 => ?_)
                · exact absurd c33 (by decide)
                · skip
                  refine lv_aload_n hx hb dX3_go_70 rfl (lv_at hl 4 rfl) ?_
                  refine lv_aload_n hx hb dX3_go_71 rfl (lv_at hl 5 rfl) ?_
                  refine lk_gf4 hx hb hX4 hown hK hP 3 w (show w < nw by omega) rfl 5 (by decide) f77 rfl dX3_go_72 ?_
                  refine lv_iconst (v := nI 1) hx hb dX3_go_75 rfl ?_
                  refine lv_iadd hx hb dX3_go_76 ?_
                  obtain ⟨q9, hq9, -⟩ := wK_at (M := MS n nw) (a := a) (e := eL cI cZ cW cO X a n nw ns s9 (thE σ η k9) T) (c := 1) (i := 0) (show 0 < 10 by decide)
                  refine roV (As := [.int ((s9 13 w) + (nI 1))]) (q0 := q9) (ci := 3) hx hb hml hown hts (c_X3_on l D cI cZ cW cO X a n nw ns s9 (thE σ η k9) T G ((s9 13 w) + (nI 1)) A hO hB) (cwV 1 hts gX3_go_X3_on rfl rfl rfl (by decide +kernel) ⟨by decide, by decide⟩) hK hE hP.w rfl rfl hq9 rfl hl.1 rfl (Nat.le_of_ble_eq_true rfl) hS dX3_go_77 ⟨Nat.zero_le _, Nat.zero_le _⟩ (fun locs hS => ?_)
                  refine lv_iconst (v := nI 2) hx hb dX3_go_80 rfl ?_
                  refine li_ne (tgt := 85) hx hb dX3_go_81 (by decide) (by first | omega | (have := wa_le (σ := s9) (nw := nw) (z := s9 13 w + nI 1); omega)) (by first | omega | (have := wa_le (σ := s9) (nw := nw) (z := s9 13 w + nI 1); omega)) (fun c34 => ?_) (fun c34 => ?_)
                  · skip
                    have hwa : wa s9 nw (s9 13 w + nI 1) < 2 := by have h9 := AT_le hAT9 hPB9 hpl (j := jz + 1) (by omega); rw [← nI_add, ← hz9] at h9; omega
                    refine lv_iload hx hb dX3_go_85 (lv_at hl 1 rfl) ?_
                    refine lv_if_lt (tgt := 144) hx hb dX3_go_87 (by decide) (fun c35 => ?_) (fun c35 => ?_)
                    · skip
                      refine lv_aload_n hx hb dX3_go_144 rfl (lv_at hl 5 rfl) ?_
                      refine lv_dup hx hb dX3_go_145 rfl ?_
                      refine lk_gf4 hx hb hX4 hown hK hP 3 w (show w < nw by omega) rfl 5 (by decide) f77 rfl dX3_go_146 ?_
                      refine li_topi (show s9 13 w = s9 13 w from by first | rfl | exact congrFun (up2_r (by decide)) _) ?_
                      refine lv_iconst (v := nI 1) hx hb dX3_go_149 rfl ?_
                      refine lv_iadd hx hb dX3_go_150 ?_
                      refine lk_pf4 hx hb hX4 hown hK hP hO hS 3 w (show w < nw by omega) rfl 5 (by decide) f77 rfl rfl rfl (Nat.le_of_ble_eq_true rfl) stS_13 dX3_go_151 (fun G locs hP hS => ?_)
                      refine lv_iload hx hb dX3_go_154 (lv_at hl 0 rfl) ?_
                      refine li_ne0 (tgt := 162) hx hb dX3_go_156 (by decide) (by first | omega | (have := wa_le (σ := s9) (nw := nw) (z := s9 13 w + nI 1); omega)) (fun c36 => ?_) (fun c36 => ?_)
                      · exact absurd c36 (by decide)
                      · skip
                        refine lv_goto (tgt := 181) hx hb dX3_go_159 (by decide) ?_
                        refine lv_iinc (v := nI (k + 1)) (lv' := [(3, .int (nI (k + 1))), (5, .int (nI 0)), (4, .int (-1)), (2, .int (nI P)), (0, .ref (a 1 0)), (1, .ref (a 3 w))]) hx hb dX3_go_181 hl (k := 2) rfl (nI_inc _ _) (by decide) rfl (fun ls hl => ?_)
                        refine lv_goto (tgt := 31) hx hb dX3_go_184 (by decide) ?_
                        have hw9 : up2 s9 13 w ((s9 13 w) + (nI 1)) = (up2 s9 13 w ((s9 13 w) + (nI 1))) := rfl
                        have hP : kP D (MS n nw) a (eL cI cZ cW cO X a n nw ns (up2 s9 13 w ((s9 13 w) + (nI 1))) (thE σ η k9) T) G := Eq.mp (congrArg (fun z9 => kP D (MS n nw) a (eL cI cZ cW cO X a n nw ns z9 (thE σ η k9) T) G) hw9) hP
                        clear hw9
                        have hl9 : lv_has ls 6 [(3, .int (nI (k + 1))), (2, .int (nI P)), (0, .ref (a 1 0)), (1, .ref (a 3 w))] := lv_sub hl [0, 3, 4, 5] rfl
                        have hg := gs_d (n := n) (pl := pl) (nw := nw) (k9 := k9) hwa hse hlt
                        have hkp := g1_keep (n := n) (pl := pl) (nw := nw) (w := w) (a := s9) (b := k9) hpl hw hPB9 hTH9 hwk9
                        have hat := g1_AT (n := n) (pl := pl) (nw := nw) (w := w) (q := (s9, k9)) hAT9
                        have hrk := fun r (h : goK r) => g1_rowK (n := n) (pl := pl) (nw := nw) (w := w) (q := (s9, k9)) (k := r) h
                        rw [hg] at hkp hat
                        simp only [hg] at hrk
                        exact ih31 (k + 1) P (up2 s9 13 w ((s9 13 w) + (nI 1))) k9 (by omega) (by omega) (by rw [show P - k = (P - (k + 1)) + 1 by omega] at hW; exact wl_nT hW hg) (fun r h => (hrk r h).trans (hr r h)) (hkp.1) (hkp.2.1) (hat) (by omega) (hkp.2.2.2 rfl) G locs hP hS ls hl9
                    · skip
                      exact absurd (show (-1 : Int32) < 0 by decide) c35
                  · skip
                    have hF := wl_eT (m := P - (k + 1)) (F := wl n pl nw w (wkP w σ) (true, (σ, κ))) (by rw [← show P - k = (P - (k + 1)) + 1 by omega]; exact hW) (g1_a (κ := k9) (n := n) (pl := pl) (by omega))
                    have hw9 : s9 = (wl n pl nw w (wkP w σ) (true, (σ, κ))).2.1 := by first | (rw [hF]; done) | (rw [hF]; show _ = up2 (up2 (up2 (up2 s9 8 j0 (s9 8 j0 + nI 1)) 13 w (-1)) 12 w (nI 2)) 15 w _; rw [up2_up2])
                    have hP : kP D (MS n nw) a (eL cI cZ cW cO X a n nw ns ((wl n pl nw w (wkP w σ) (true, (σ, κ))).2.1) (thE σ η k9) T) G := Eq.mp (congrArg (fun z9 => kP D (MS n nw) a (eL cI cZ cW cO X a n nw ns z9 (thE σ η k9) T) G) hw9) hP
                    clear hw9
                    have hw9 : thE σ η k9 = thE σ η (wl n pl nw w (wkP w σ) (true, (σ, κ))).2.2 := by first | (rw [hF]; done) | (rw [hF]; exact thE_up)
                    have hP : kP D (MS n nw) a (eL cI cZ cW cO X a n nw ns ((wl n pl nw w (wkP w σ) (true, (σ, κ))).2.1) (thE σ η (wl n pl nw w (wkP w σ) (true, (σ, κ))).2.2) T) G := Eq.mp (congrArg (fun z9 => kP D (MS n nw) a (eL cI cZ cW cO X a n nw ns ((wl n pl nw w (wkP w σ) (true, (σ, κ))).2.1) z9 T) G) hw9) hP
                    clear hw9
                    exact hEnd 84 ls G locs dX3_go_84 hP.w hS
              · skip
                exact absurd c32 (fun z => by have h9 := congrArg Int32.toInt z; rw [nI_toInt (by omega)] at h9; exact absurd h9 (by have h8 : ((-1 : Int32)).toInt = -1 := (by decide); omega))
      have hw9 : η = thE σ η κ := (thE_id hη).symm
      have hP : kP D (MS n nw) a (eL cI cZ cW cO X a n nw ns σ (thE σ η κ) T) H := Eq.mp (congrArg (fun z9 => kP D (MS n nw) a (eL cI cZ cW cO X a n nw ns σ z9 T) H) hw9) hP
      clear hw9
      have hl9 : lv_has ls 6 [(3, .int (nI 0)), (2, .int (nI (mxp (nN (σ 4 w))))), (0, .ref (a 1 0)), (1, .ref (a 3 w))] := lv_sub hl [0, 1, 2, 3] rfl
      exact L31_20 (((mxp (nN (σ 4 w))) - 0) + 1) 0 (mxp (nN (σ 4 w))) σ κ (Nat.lt_succ_self _) (Nat.zero_le _) (by rw [Nat.sub_zero]; unfold wkP; first | rw [if_neg (show ¬ σ 11 w = 0 by assumption)] | (rw [if_pos (show σ 11 w = 0 by assumption)]; done) | (rw [if_pos (show σ 11 w = 0 by assumption)]; first | rfl | (rw [show nN (σ 4 w) = 1 by omega]; rfl))) (fun _ _ => rfl) (hPB) (hTH) (hAT) (by first | omega | exact hpc.2.2 | exact mxp_le hpc.2.2) (hwk) H locs hP hS ls hl9
    · skip
      refine lv_aload_n hx hb dX3_go_15 rfl (lv_at hl 1 rfl) ?_
      refine lk_gf4 hx hb hX4 hown hK hP 3 w (show w < nw by omega) rfl 0 (by decide) f57 rfl dX3_go_16 ?_
      refine li_topi (show σ 4 w = nI (nN (σ 4 w)) from hpc.1) ?_
      refine lv_goto (tgt := 28) hx hb dX3_go_19 (by decide) ?_
      refine lv_istore_n (lv' := [(2, .int (nI (nN (σ 4 w)))), (0, .ref (a 1 0)), (1, .ref (a 3 w))]) hx hb dX3_go_28 rfl hl (by decide) rfl (fun ls hl => ?_)
      refine lv_iconst (v := nI 0) hx hb dX3_go_29 rfl ?_
      refine lv_istore_n (lv' := [(3, .int (nI 0)), (2, .int (nI (nN (σ 4 w)))), (0, .ref (a 1 0)), (1, .ref (a 3 w))]) hx hb dX3_go_30 rfl hl (by decide) rfl (fun ls hl => ?_)
      have L31_37 : ∀ (fuel : Nat) (k : Nat) (P : Nat) (s9 : Sg) (k9 : Sg), (P - k) < fuel → (k ≤ P) → (wl n pl nw w (P - k) (true, (s9, k9)) = wl n pl nw w (wkP w σ) (true, (σ, κ))) → (∀ r, goK r → s9 r = σ r) → (PB pl nw s9) → (TH n σ k9) → (AT pl nw s9) → (P ≤ 3) → (s9 12 w = nI 1) → ∀ (G : Heap) (locs : List Loc), kP D (MS n nw) a (eL cI cZ cW cO X a n nw ns s9 (thE σ η k9) T) G → va_S A H G locs → ∀ (ls : Array Slot), lv_has ls 6 [(3, .int (nI k)), (2, .int (nI P)), (0, .ref (a 1 0)), (1, .ref (a 3 w))] → W p l e ({ frames := 1, cells := 0, slots := 0, locals := 26 } : Room) s m args below meth c G locs 0 0 Q (F0 m 31 ls []) := by
        intro fuel
        induction fuel with
        | zero =>
          intro k P s9 k9 hfuel
          exact absurd hfuel (Nat.not_lt_zero _)
        | succ fuel ih31 =>
          intro k P s9 k9 hfuel31 hk hW hr hPB9 hTH9 hAT9 hP3 hwk9 G locs hP hS ls hl
          refine lv_iload_n hx hb dX3_go_31 rfl (lv_at hl 0 rfl) ?_
          refine lv_iload_n hx hb dX3_go_32 rfl (lv_at hl 1 rfl) ?_
          refine li_ge (tgt := 187) hx hb dX3_go_33 (by decide) (by first | omega | (have := wa_le (σ := s9) (nw := nw) (z := s9 13 w + nI 1); omega)) (by first | omega | (have := wa_le (σ := s9) (nw := nw) (z := s9 13 w + nI 1); omega)) (fun c38 => ?_) (fun c38 => ?_)
          · skip
            have hF : (wl n pl nw w (wkP w σ) (true, (σ, κ))).2 = (s9, k9) := by rw [← hW, show P - k = 0 by omega]; rfl
            have hw9 : s9 = (wl n pl nw w (wkP w σ) (true, (σ, κ))).2.1 := by first | (rw [hF]; done) | (rw [hF]; show _ = up2 (up2 (up2 (up2 s9 8 j0 (s9 8 j0 + nI 1)) 13 w (-1)) 12 w (nI 2)) 15 w _; rw [up2_up2])
            have hP : kP D (MS n nw) a (eL cI cZ cW cO X a n nw ns ((wl n pl nw w (wkP w σ) (true, (σ, κ))).2.1) (thE σ η k9) T) G := Eq.mp (congrArg (fun z9 => kP D (MS n nw) a (eL cI cZ cW cO X a n nw ns z9 (thE σ η k9) T) G) hw9) hP
            clear hw9
            have hw9 : thE σ η k9 = thE σ η (wl n pl nw w (wkP w σ) (true, (σ, κ))).2.2 := by first | (rw [hF]; done) | (rw [hF]; exact thE_up)
            have hP : kP D (MS n nw) a (eL cI cZ cW cO X a n nw ns ((wl n pl nw w (wkP w σ) (true, (σ, κ))).2.1) (thE σ η (wl n pl nw w (wkP w σ) (true, (σ, κ))).2.2) T) G := Eq.mp (congrArg (fun z9 => kP D (MS n nw) a (eL cI cZ cW cO X a n nw ns ((wl n pl nw w (wkP w σ) (true, (σ, κ))).2.1) z9 T) G) hw9) hP
            clear hw9
            exact hEnd 187 ls G locs dX3_go_187 hP.w hS
          · skip
            refine lv_aload_n hx hb dX3_go_36 rfl (lv_at hl 2 rfl) ?_
            refine lv_aload_n hx hb dX3_go_37 rfl (lv_at hl 3 rfl) ?_
            refine lk_gf4 hx hb hX4 hown hK hP 3 w (show w < nw by omega) rfl 5 (by decide) f77 rfl dX3_go_38 ?_
            obtain ⟨q9, hq9, -⟩ := wK_at (M := MS n nw) (a := a) (e := eL cI cZ cW cO X a n nw ns s9 (thE σ η k9) T) (c := 1) (i := 0) (show 0 < 10 by decide)
            refine roV (As := [.int (s9 13 w)]) (q0 := q9) (ci := 3) hx hb hml hown hts (c_X3_corner l D cI cZ cW cO X a n nw ns s9 (thE σ η k9) T G (s9 13 w) A hO hB) (cwV 1 hts gX3_go_X3_corner rfl rfl rfl (by decide +kernel) ⟨by decide, by decide⟩) hK hE hP.w rfl rfl hq9 rfl hl.1 rfl (Nat.le_of_ble_eq_true rfl) hS dX3_go_41 ⟨Nat.zero_le _, Nat.zero_le _⟩ (fun locs hS => ?_)
            obtain ⟨jz, hjz, hz9⟩ := hPB9 w hw hwk9
            have hRF9 : RF n pl s9 := RF_rows hRF (hr 0 (by unfold goK; omega)) (hr 2 (by unfold goK; omega))
            obtain ⟨j0, hj0, -, ha, hb9⟩ := RF_on hRF9 hpl hjz
            by_cases hcor : jz + 1 = nN (s9 2 j0) + nN (s9 0 j0)
            · have hse := gm_sc hRF9 hj0 hz9 hpl hjz ha hb9 hcor
              refine li_topi (show oI (se s9 n (s9 13 w)) = nI j0 from by rw [hse]; rfl) ?_
              refine lv_istore (lv' := [(4, .int (nI j0)), (3, .int (nI k)), (2, .int (nI P)), (0, .ref (a 1 0)), (1, .ref (a 3 w))]) hx hb dX3_go_44 hl (by decide) rfl (fun ls hl => ?_)
              refine lv_iload hx hb dX3_go_46 (lv_at hl 0 rfl) ?_
              refine lv_aload_n hx hb dX3_go_48 rfl (lv_at hl 3 rfl) ?_
              refine lk_gf3 hx hb hX3 hown hK hP 1 0 (show 0 < 10 by decide) rfl 0 (by decide) f9 rfl dX3_go_49 ?_
              refine lk_alen hx hb hK hP 1 1 (show 1 < 10 by decide) 3 rfl rfl dX3_go_52 ?_
              refine lv_iconst (v := nI 1) hx hb dX3_go_53 rfl ?_
              refine lv_isub hx hb dX3_go_54 ?_
              refine li_topi (show (nI n) - (nI 1) = nI (n - 1) from pk_sub (by omega)) ?_
              refine li_ne (tgt := 62) hx hb dX3_go_55 (by decide) (by first | omega | (have := wa_le (σ := s9) (nw := nw) (z := s9 13 w + nI 1); omega)) (by first | omega | (have := wa_le (σ := s9) (nw := nw) (z := s9 13 w + nI 1); omega)) (fun c39 => ?_) (fun c39 => ?_)
              · skip
                have hne9 : ¬ jz + 1 = pl := fun z => by have h9 := RF_mono hRF9 (s := j0) (t := n - 1) (by omega) (by omega); have h8 := hRF9.2.2.2.1 (by omega); have h7 := (hRF9.1 (n - 1) (by omega)).2.2.1; omega
                have hlt := (gm_lt (w := w) hz9 hpl hjz).mpr hne9
                refine lv_iconst (v := nI 0) hx hb dX3_go_62 rfl ?_
                refine lv_istore (lv' := [(5, .int (nI 0)), (4, .int (nI j0)), (3, .int (nI k)), (2, .int (nI P)), (0, .ref (a 1 0)), (1, .ref (a 3 w))]) hx hb dX3_go_63 hl (by decide) rfl (fun ls hl => ?_)
                refine lv_iload hx hb dX3_go_65 (lv_at hl 0 rfl) ?_
                refine li_ne0 (tgt := 85) hx hb dX3_go_67 (by decide) (by first | omega | (have := wa_le (σ := s9) (nw := nw) (z := s9 13 w + nI 1); omega)) (fun c40 => ?_) (fun c40 => ?_)
                · exact absurd c40 (by decide)
                · skip
                  refine lv_aload_n hx hb dX3_go_70 rfl (lv_at hl 4 rfl) ?_
                  refine lv_aload_n hx hb dX3_go_71 rfl (lv_at hl 5 rfl) ?_
                  refine lk_gf4 hx hb hX4 hown hK hP 3 w (show w < nw by omega) rfl 5 (by decide) f77 rfl dX3_go_72 ?_
                  refine lv_iconst (v := nI 1) hx hb dX3_go_75 rfl ?_
                  refine lv_iadd hx hb dX3_go_76 ?_
                  obtain ⟨q9, hq9, -⟩ := wK_at (M := MS n nw) (a := a) (e := eL cI cZ cW cO X a n nw ns s9 (thE σ η k9) T) (c := 1) (i := 0) (show 0 < 10 by decide)
                  refine roV (As := [.int ((s9 13 w) + (nI 1))]) (q0 := q9) (ci := 3) hx hb hml hown hts (c_X3_on l D cI cZ cW cO X a n nw ns s9 (thE σ η k9) T G ((s9 13 w) + (nI 1)) A hO hB) (cwV 1 hts gX3_go_X3_on rfl rfl rfl (by decide +kernel) ⟨by decide, by decide⟩) hK hE hP.w rfl rfl hq9 rfl hl.1 rfl (Nat.le_of_ble_eq_true rfl) hS dX3_go_77 ⟨Nat.zero_le _, Nat.zero_le _⟩ (fun locs hS => ?_)
                  refine lv_iconst (v := nI 2) hx hb dX3_go_80 rfl ?_
                  refine li_ne (tgt := 85) hx hb dX3_go_81 (by decide) (by first | omega | (have := wa_le (σ := s9) (nw := nw) (z := s9 13 w + nI 1); omega)) (by first | omega | (have := wa_le (σ := s9) (nw := nw) (z := s9 13 w + nI 1); omega)) (fun c41 => ?_) (fun c41 => ?_)
                  · skip
                    have hwa : wa s9 nw (s9 13 w + nI 1) < 2 := by have h9 := AT_le hAT9 hPB9 hpl (j := jz + 1) (by omega); rw [← nI_add, ← hz9] at h9; omega
                    refine lv_iload hx hb dX3_go_85 (lv_at hl 1 rfl) ?_
                    refine li_lt0 (tgt := 144) hx hb dX3_go_87 (by decide) (by first | omega | (have := wa_le (σ := s9) (nw := nw) (z := s9 13 w + nI 1); omega)) (fun c42 => ?_) (fun c42 => ?_)
                    · skip
                      exact c42.elim
                    · skip
                      refine lv_aload_n hx hb dX3_go_90 rfl (lv_at hl 4 rfl) ?_
                      refine lk_gf3 hx hb hX3 hown hK hP 1 0 (show 0 < 10 by decide) rfl 8 (by decide) f37 rfl dX3_go_91 ?_
                      refine lv_iload hx hb dX3_go_94 (lv_at hl 1 rfl) ?_
                      refine lk_ild hx hb hK hP 1 8 (show 8 < 10 by decide) rfl (by omega) (by decide) dX3_go_96 ?_
                      refine li_topi (show (thE σ η k9) 2 j0 = thr σ k9 j0 from rfl) ?_
                      refine lv_aload_n hx hb dX3_go_97 rfl (lv_at hl 4 rfl) ?_
                      refine lv_iload hx hb dX3_go_98 (lv_at hl 1 rfl) ?_
                      obtain ⟨q9, hq9, -⟩ := wK_at (M := MS n nw) (a := a) (e := eL cI cZ cW cO X a n nw ns s9 (thE σ η k9) T) (c := 1) (i := 0) (show 0 < 10 by decide)
                      refine roV (As := [.int (nI j0)]) (q0 := q9) (ci := 3) hx hb hml hown hts (c_X3_lets l D cI cZ cW cO X a n nw ns s9 (thE σ η k9) T G j0 A hO hB (by omega)) (cwV 1 hts gX3_go_X3_lets rfl rfl rfl (by decide +kernel) ⟨by decide, by decide⟩) hK hE hP.w rfl rfl hq9 rfl hl.1 rfl (Nat.le_of_ble_eq_true rfl) hS dX3_go_100 ⟨Nat.zero_le _, Nat.zero_le _⟩ (fun locs hS => ?_)
                      refine li_topi (show lt_ s9 j0 2 = lt_ σ j0 2 from lt_rows (hr 1 (by unfold goK; omega)) (hr 7 (by unfold goK; omega)) j0 2) ?_
                      refine lv_icmp_lt (tgt := 120) hx hb dX3_go_103 (by decide) (fun c43 => ?_) (fun c43 => ?_)
                      · skip
                        have hp1 : 0 < k9 3 j0 := (TH_lt hTH9 hj0).mp c43
                        refine lv_aload_n hx hb dX3_go_120 rfl (lv_at hl 4 rfl) ?_
                        refine lk_gf3 hx hb hX3 hown hK hP 1 0 (show 0 < 10 by decide) rfl 8 (by decide) f37 rfl dX3_go_121 ?_
                        refine lv_iload hx hb dX3_go_124 (lv_at hl 1 rfl) ?_
                        refine lv_dup2_11 hx hb dX3_go_126 rfl rfl ?_
                        refine lk_ild hx hb hK hP 1 8 (show 8 < 10 by decide) rfl (by omega) (by decide) dX3_go_127 ?_
                        refine lv_iconst (v := nI 1) hx hb dX3_go_128 rfl ?_
                        refine lv_iadd hx hb dX3_go_129 ?_
                        refine lk_ist hx hb hK hP hO hS 1 8 (show 8 < 10 by decide) rfl (by omega) (by decide) stE_2 dX3_go_130 (fun G locs hP hS => ?_)
                        refine lv_aload_n hx hb dX3_go_131 rfl (lv_at hl 4 rfl) ?_
                        refine lk_gf3 hx hb hX3 hown hK hP 1 0 (show 0 < 10 by decide) rfl 0 (by decide) f9 rfl dX3_go_132 ?_
                        refine lv_iload hx hb dX3_go_135 (lv_at hl 1 rfl) ?_
                        refine lk_aldO hx hb hK hP 1 1 (show 1 < 10 by decide) rfl (by omega) (by omega) (rfs_at (by omega)) dX3_go_137 ?_
                        refine lv_iconst (v := nI 3) hx hb dX3_go_138 rfl ?_
                        refine lv_dup2_11 hx hb dX3_go_139 rfl rfl ?_
                        refine lk_ild hx hb hK hP 2 j0 (show j0 < n by omega) rfl (by omega) (by decide) dX3_go_140 ?_
                        refine li_topi (x' := s9 8 j0) rfl ?_
                        refine lv_iconst (v := nI 1) hx hb dX3_go_141 rfl ?_
                        refine lv_iadd hx hb dX3_go_142 ?_
                        refine lk_ist hx hb hK hP hO hS 2 j0 (show j0 < n by omega) rfl (by omega) (by decide) stS_8 dX3_go_143 (fun G locs hP hS => ?_)
                        refine lv_aload_n hx hb dX3_go_144 rfl (lv_at hl 5 rfl) ?_
                        refine lv_dup hx hb dX3_go_145 rfl ?_
                        refine lk_gf4 hx hb hX4 hown hK hP 3 w (show w < nw by omega) rfl 5 (by decide) f77 rfl dX3_go_146 ?_
                        refine li_topi (show (up2 s9 8 j0 ((s9 8 j0) + (nI 1))) 13 w = s9 13 w from by first | rfl | exact congrFun (up2_r (by decide)) _) ?_
                        refine lv_iconst (v := nI 1) hx hb dX3_go_149 rfl ?_
                        refine lv_iadd hx hb dX3_go_150 ?_
                        refine lk_pf4 hx hb hX4 hown hK hP hO hS 3 w (show w < nw by omega) rfl 5 (by decide) f77 rfl rfl rfl (Nat.le_of_ble_eq_true rfl) stS_13 dX3_go_151 (fun G locs hP hS => ?_)
                        refine lv_iload hx hb dX3_go_154 (lv_at hl 0 rfl) ?_
                        refine li_ne0 (tgt := 162) hx hb dX3_go_156 (by decide) (by first | omega | (have := wa_le (σ := s9) (nw := nw) (z := s9 13 w + nI 1); omega)) (fun c44 => ?_) (fun c44 => ?_)
                        · exact absurd c44 (by decide)
                        · skip
                          refine lv_goto (tgt := 181) hx hb dX3_go_159 (by decide) ?_
                          refine lv_iinc (v := nI (k + 1)) (lv' := [(3, .int (nI (k + 1))), (5, .int (nI 0)), (4, .int (nI j0)), (2, .int (nI P)), (0, .ref (a 1 0)), (1, .ref (a 3 w))]) hx hb dX3_go_181 hl (k := 2) rfl (nI_inc _ _) (by decide) rfl (fun ls hl => ?_)
                          refine lv_goto (tgt := 31) hx hb dX3_go_184 (by decide) ?_
                          have hw9 : up2 (up2 s9 8 j0 ((s9 8 j0) + (nI 1))) 13 w ((s9 13 w) + (nI 1)) = (up2 (up2 s9 8 j0 ((s9 8 j0) + (nI 1))) 13 w ((s9 13 w) + (nI 1))) := rfl
                          have hP : kP D (MS n nw) a (eL cI cZ cW cO X a n nw ns (up2 (up2 s9 8 j0 ((s9 8 j0) + (nI 1))) 13 w ((s9 13 w) + (nI 1))) (up2 (thE σ η k9) 2 j0 (((thE σ η k9) 2 j0) + (nI 1))) T) G := Eq.mp (congrArg (fun z9 => kP D (MS n nw) a (eL cI cZ cW cO X a n nw ns z9 (up2 (thE σ η k9) 2 j0 (((thE σ η k9) 2 j0) + (nI 1))) T) G) hw9) hP
                          clear hw9
                          have hw9 : up2 (thE σ η k9) 2 j0 (((thE σ η k9) 2 j0) + (nI 1)) = thE σ η (up2 k9 3 j0 (k9 3 j0 - nI 1)) := thE_up
                          have hP : kP D (MS n nw) a (eL cI cZ cW cO X a n nw ns (up2 (up2 s9 8 j0 ((s9 8 j0) + (nI 1))) 13 w ((s9 13 w) + (nI 1))) (thE σ η (up2 k9 3 j0 (k9 3 j0 - nI 1))) T) G := Eq.mp (congrArg (fun z9 => kP D (MS n nw) a (eL cI cZ cW cO X a n nw ns (up2 (up2 s9 8 j0 ((s9 8 j0) + (nI 1))) 13 w ((s9 13 w) + (nI 1))) z9 T) G) hw9) hP
                          clear hw9
                          have hl9 : lv_has ls 6 [(3, .int (nI (k + 1))), (2, .int (nI P)), (0, .ref (a 1 0)), (1, .ref (a 3 w))] := lv_sub hl [0, 3, 4, 5] rfl
                          have hg := gs_f (n := n) (pl := pl) (nw := nw) hwa hse hp1 hlt
                          have hkp := g1_keep (n := n) (pl := pl) (nw := nw) (w := w) (a := s9) (b := k9) hpl hw hPB9 hTH9 hwk9
                          have hat := g1_AT (n := n) (pl := pl) (nw := nw) (w := w) (q := (s9, k9)) hAT9
                          have hrk := fun r (h : goK r) => g1_rowK (n := n) (pl := pl) (nw := nw) (w := w) (q := (s9, k9)) (k := r) h
                          rw [hg] at hkp hat
                          simp only [hg] at hrk
                          exact ih31 (k + 1) P (up2 (up2 s9 8 j0 ((s9 8 j0) + (nI 1))) 13 w ((s9 13 w) + (nI 1))) (up2 k9 3 j0 (k9 3 j0 - nI 1)) (by omega) (by omega) (by rw [show P - k = (P - (k + 1)) + 1 by omega] at hW; exact wl_nT hW hg) (fun r h => (hrk r h).trans (hr r h)) (hkp.1) (hkp.2.1) (hat) (by omega) (hkp.2.2.2 rfl) G locs hP hS ls hl9
                      · skip
                        have hp0 : ¬ 0 < k9 3 j0 := fun z => c43 ((TH_lt hTH9 hj0).mpr z)
                        refine lv_aload_n hx hb dX3_go_106 rfl (lv_at hl 4 rfl) ?_
                        refine lk_gf3 hx hb hX3 hown hK hP 1 0 (show 0 < 10 by decide) rfl 0 (by decide) f9 rfl dX3_go_107 ?_
                        refine lv_iload hx hb dX3_go_110 (lv_at hl 1 rfl) ?_
                        refine lk_aldO hx hb hK hP 1 1 (show 1 < 10 by decide) rfl (by omega) (by omega) (rfs_at (by omega)) dX3_go_112 ?_
                        refine lv_iconst (v := nI 4) hx hb dX3_go_113 rfl ?_
                        refine lv_dup2_11 hx hb dX3_go_114 rfl rfl ?_
                        refine lk_ild hx hb hK hP 2 j0 (show j0 < n by omega) rfl (by omega) (by decide) dX3_go_115 ?_
                        refine li_topi (x' := s9 9 j0) rfl ?_
                        refine lv_iconst (v := nI 1) hx hb dX3_go_116 rfl ?_
                        refine lv_iadd hx hb dX3_go_117 ?_
                        refine lk_ist hx hb hK hP hO hS 2 j0 (show j0 < n by omega) rfl (by omega) (by decide) stS_9 dX3_go_118 (fun G locs hP hS => ?_)
                        have hF := wl_eT (m := P - (k + 1)) (F := wl n pl nw w (wkP w σ) (true, (σ, κ))) (by rw [← show P - k = (P - (k + 1)) + 1 by omega]; exact hW) (gs_b hwa hse hp0)
                        have hw9 : up2 s9 9 j0 ((s9 9 j0) + (nI 1)) = (wl n pl nw w (wkP w σ) (true, (σ, κ))).2.1 := by first | (rw [hF]; done) | (rw [hF]; show _ = up2 (up2 (up2 (up2 s9 8 j0 (s9 8 j0 + nI 1)) 13 w (-1)) 12 w (nI 2)) 15 w _; rw [up2_up2])
                        have hP : kP D (MS n nw) a (eL cI cZ cW cO X a n nw ns ((wl n pl nw w (wkP w σ) (true, (σ, κ))).2.1) (thE σ η k9) T) G := Eq.mp (congrArg (fun z9 => kP D (MS n nw) a (eL cI cZ cW cO X a n nw ns z9 (thE σ η k9) T) G) hw9) hP
                        clear hw9
                        have hw9 : thE σ η k9 = thE σ η (wl n pl nw w (wkP w σ) (true, (σ, κ))).2.2 := by first | (rw [hF]; done) | (rw [hF]; exact thE_up)
                        have hP : kP D (MS n nw) a (eL cI cZ cW cO X a n nw ns ((wl n pl nw w (wkP w σ) (true, (σ, κ))).2.1) (thE σ η (wl n pl nw w (wkP w σ) (true, (σ, κ))).2.2) T) G := Eq.mp (congrArg (fun z9 => kP D (MS n nw) a (eL cI cZ cW cO X a n nw ns ((wl n pl nw w (wkP w σ) (true, (σ, κ))).2.1) z9 T) G) hw9) hP
                        clear hw9
                        exact hEnd 119 ls G locs dX3_go_119 hP.w hS
                  · skip
                    have hF := wl_eT (m := P - (k + 1)) (F := wl n pl nw w (wkP w σ) (true, (σ, κ))) (by rw [← show P - k = (P - (k + 1)) + 1 by omega]; exact hW) (g1_a (κ := k9) (n := n) (pl := pl) (by omega))
                    have hw9 : s9 = (wl n pl nw w (wkP w σ) (true, (σ, κ))).2.1 := by first | (rw [hF]; done) | (rw [hF]; show _ = up2 (up2 (up2 (up2 s9 8 j0 (s9 8 j0 + nI 1)) 13 w (-1)) 12 w (nI 2)) 15 w _; rw [up2_up2])
                    have hP : kP D (MS n nw) a (eL cI cZ cW cO X a n nw ns ((wl n pl nw w (wkP w σ) (true, (σ, κ))).2.1) (thE σ η k9) T) G := Eq.mp (congrArg (fun z9 => kP D (MS n nw) a (eL cI cZ cW cO X a n nw ns z9 (thE σ η k9) T) G) hw9) hP
                    clear hw9
                    have hw9 : thE σ η k9 = thE σ η (wl n pl nw w (wkP w σ) (true, (σ, κ))).2.2 := by first | (rw [hF]; done) | (rw [hF]; exact thE_up)
                    have hP : kP D (MS n nw) a (eL cI cZ cW cO X a n nw ns ((wl n pl nw w (wkP w σ) (true, (σ, κ))).2.1) (thE σ η (wl n pl nw w (wkP w σ) (true, (σ, κ))).2.2) T) G := Eq.mp (congrArg (fun z9 => kP D (MS n nw) a (eL cI cZ cW cO X a n nw ns ((wl n pl nw w (wkP w σ) (true, (σ, κ))).2.1) z9 T) G) hw9) hP
                    clear hw9
                    exact hEnd 84 ls G locs dX3_go_84 hP.w hS
              · skip
                have hend : jz + 1 = pl := by have h9 := hRF9.2.2.2.1 (by omega); rw [hcor, show j0 = n - 1 by omega]; exact h9.symm
                have hwa := gm_wa hPB9 hz9 hpl hend
                have hlt := mt (gm_lt (w := w) hz9 hpl hjz).mp (fun q => q hend)
                refine lv_iconst (v := nI 1) hx hb dX3_go_58 rfl ?_
                refine lv_goto (tgt := 63) hx hb dX3_go_59 (by decide) ?_
                refine lv_istore (lv' := [(5, .int (nI 1)), (4, .int (nI j0)), (3, .int (nI k)), (2, .int (nI P)), (0, .ref (a 1 0)), (1, .ref (a 3 w))]) hx hb dX3_go_63 hl (by decide) rfl (fun ls hl => ?_)
                refine lv_iload hx hb dX3_go_65 (lv_at hl 0 rfl) ?_
                refine li_ne0 (tgt := 85) hx hb dX3_go_67 (by decide) (by first | omega | (have := wa_le (σ := s9) (nw := nw) (z := s9 13 w + nI 1); omega)) (fun c45 => ?_) (fun c45 => ?_)
                · skip
                  refine lv_iload hx hb dX3_go_85 (lv_at hl 1 rfl) ?_
                  refine li_lt0 (tgt := 144) hx hb dX3_go_87 (by decide) (by first | omega | (have := wa_le (σ := s9) (nw := nw) (z := s9 13 w + nI 1); omega)) (fun c46 => ?_) (fun c46 => ?_)
                  · skip
                    exact c46.elim
                  · skip
                    refine lv_aload_n hx hb dX3_go_90 rfl (lv_at hl 4 rfl) ?_
                    refine lk_gf3 hx hb hX3 hown hK hP 1 0 (show 0 < 10 by decide) rfl 8 (by decide) f37 rfl dX3_go_91 ?_
                    refine lv_iload hx hb dX3_go_94 (lv_at hl 1 rfl) ?_
                    refine lk_ild hx hb hK hP 1 8 (show 8 < 10 by decide) rfl (by omega) (by decide) dX3_go_96 ?_
                    refine li_topi (show (thE σ η k9) 2 j0 = thr σ k9 j0 from rfl) ?_
                    refine lv_aload_n hx hb dX3_go_97 rfl (lv_at hl 4 rfl) ?_
                    refine lv_iload hx hb dX3_go_98 (lv_at hl 1 rfl) ?_
                    obtain ⟨q9, hq9, -⟩ := wK_at (M := MS n nw) (a := a) (e := eL cI cZ cW cO X a n nw ns s9 (thE σ η k9) T) (c := 1) (i := 0) (show 0 < 10 by decide)
                    refine roV (As := [.int (nI j0)]) (q0 := q9) (ci := 3) hx hb hml hown hts (c_X3_lets l D cI cZ cW cO X a n nw ns s9 (thE σ η k9) T G j0 A hO hB (by omega)) (cwV 1 hts gX3_go_X3_lets rfl rfl rfl (by decide +kernel) ⟨by decide, by decide⟩) hK hE hP.w rfl rfl hq9 rfl hl.1 rfl (Nat.le_of_ble_eq_true rfl) hS dX3_go_100 ⟨Nat.zero_le _, Nat.zero_le _⟩ (fun locs hS => ?_)
                    refine li_topi (show lt_ s9 j0 2 = lt_ σ j0 2 from lt_rows (hr 1 (by unfold goK; omega)) (hr 7 (by unfold goK; omega)) j0 2) ?_
                    refine lv_icmp_lt (tgt := 120) hx hb dX3_go_103 (by decide) (fun c47 => ?_) (fun c47 => ?_)
                    · skip
                      have hp1 : 0 < k9 3 j0 := (TH_lt hTH9 hj0).mp c47
                      refine lv_aload_n hx hb dX3_go_120 rfl (lv_at hl 4 rfl) ?_
                      refine lk_gf3 hx hb hX3 hown hK hP 1 0 (show 0 < 10 by decide) rfl 8 (by decide) f37 rfl dX3_go_121 ?_
                      refine lv_iload hx hb dX3_go_124 (lv_at hl 1 rfl) ?_
                      refine lv_dup2_11 hx hb dX3_go_126 rfl rfl ?_
                      refine lk_ild hx hb hK hP 1 8 (show 8 < 10 by decide) rfl (by omega) (by decide) dX3_go_127 ?_
                      refine lv_iconst (v := nI 1) hx hb dX3_go_128 rfl ?_
                      refine lv_iadd hx hb dX3_go_129 ?_
                      refine lk_ist hx hb hK hP hO hS 1 8 (show 8 < 10 by decide) rfl (by omega) (by decide) stE_2 dX3_go_130 (fun G locs hP hS => ?_)
                      refine lv_aload_n hx hb dX3_go_131 rfl (lv_at hl 4 rfl) ?_
                      refine lk_gf3 hx hb hX3 hown hK hP 1 0 (show 0 < 10 by decide) rfl 0 (by decide) f9 rfl dX3_go_132 ?_
                      refine lv_iload hx hb dX3_go_135 (lv_at hl 1 rfl) ?_
                      refine lk_aldO hx hb hK hP 1 1 (show 1 < 10 by decide) rfl (by omega) (by omega) (rfs_at (by omega)) dX3_go_137 ?_
                      refine lv_iconst (v := nI 3) hx hb dX3_go_138 rfl ?_
                      refine lv_dup2_11 hx hb dX3_go_139 rfl rfl ?_
                      refine lk_ild hx hb hK hP 2 j0 (show j0 < n by omega) rfl (by omega) (by decide) dX3_go_140 ?_
                      refine li_topi (x' := s9 8 j0) rfl ?_
                      refine lv_iconst (v := nI 1) hx hb dX3_go_141 rfl ?_
                      refine lv_iadd hx hb dX3_go_142 ?_
                      refine lk_ist hx hb hK hP hO hS 2 j0 (show j0 < n by omega) rfl (by omega) (by decide) stS_8 dX3_go_143 (fun G locs hP hS => ?_)
                      refine lv_aload_n hx hb dX3_go_144 rfl (lv_at hl 5 rfl) ?_
                      refine lv_dup hx hb dX3_go_145 rfl ?_
                      refine lk_gf4 hx hb hX4 hown hK hP 3 w (show w < nw by omega) rfl 5 (by decide) f77 rfl dX3_go_146 ?_
                      refine li_topi (show (up2 s9 8 j0 ((s9 8 j0) + (nI 1))) 13 w = s9 13 w from by first | rfl | exact congrFun (up2_r (by decide)) _) ?_
                      refine lv_iconst (v := nI 1) hx hb dX3_go_149 rfl ?_
                      refine lv_iadd hx hb dX3_go_150 ?_
                      refine lk_pf4 hx hb hX4 hown hK hP hO hS 3 w (show w < nw by omega) rfl 5 (by decide) f77 rfl rfl rfl (Nat.le_of_ble_eq_true rfl) stS_13 dX3_go_151 (fun G locs hP hS => ?_)
                      refine lv_iload hx hb dX3_go_154 (lv_at hl 0 rfl) ?_
                      refine li_ne0 (tgt := 162) hx hb dX3_go_156 (by decide) (by first | omega | (have := wa_le (σ := s9) (nw := nw) (z := s9 13 w + nI 1); omega)) (fun c48 => ?_) (fun c48 => ?_)
                      · skip
                        refine lv_aload_n hx hb dX3_go_162 rfl (lv_at hl 5 rfl) ?_
                        refine lv_iconst (v := (-1)) hx hb dX3_go_163 rfl ?_
                        refine lk_pf4 hx hb hX4 hown hK hP hO hS 3 w (show w < nw by omega) rfl 5 (by decide) f77 rfl rfl rfl (Nat.le_of_ble_eq_true rfl) stS_13 dX3_go_164 (fun G locs hP hS => ?_)
                        refine lv_aload_n hx hb dX3_go_167 rfl (lv_at hl 5 rfl) ?_
                        refine lv_iconst (v := nI 2) hx hb dX3_go_168 rfl ?_
                        refine lk_pf4 hx hb hX4 hown hK hP hO hS 3 w (show w < nw by omega) rfl 4 (by decide) f74 rfl rfl rfl (Nat.le_of_ble_eq_true rfl) stS_12 dX3_go_169 (fun G locs hP hS => ?_)
                        refine lv_aload_n hx hb dX3_go_172 rfl (lv_at hl 5 rfl) ?_
                        refine lv_aload_n hx hb dX3_go_173 rfl (lv_at hl 4 rfl) ?_
                        refine lk_gf3 hx hb hX3 hown hK hP 1 0 (show 0 < 10 by decide) rfl 5 (by decide) f52 rfl dX3_go_174 ?_
                        refine li_topi (show (up2 (up2 (up2 (up2 s9 8 j0 ((s9 8 j0) + (nI 1))) 13 w ((s9 13 w) + (nI 1))) 13 w (-1)) 12 w (nI 2)) 17 0 = (up2 s9 8 j0 (s9 8 j0 + nI 1)) 17 0 from by rw [up2_r (by decide), up2_r (by decide), up2_r (by decide)]) ?_
                        refine lk_pf4 hx hb hX4 hown hK hP hO hS 3 w (show w < nw by omega) rfl 7 (by decide) f90 rfl rfl rfl (Nat.le_of_ble_eq_true rfl) stS_15 dX3_go_177 (fun G locs hP hS => ?_)
                        have hF := wl_eT (m := P - (k + 1)) (F := wl n pl nw w (wkP w σ) (true, (σ, κ))) (by rw [← show P - k = (P - (k + 1)) + 1 by omega]; exact hW) (gs_e hwa hse hp1 hlt)
                        have hw9 : up2 (up2 (up2 (up2 (up2 s9 8 j0 ((s9 8 j0) + (nI 1))) 13 w ((s9 13 w) + (nI 1))) 13 w (-1)) 12 w (nI 2)) 15 w ((up2 s9 8 j0 (s9 8 j0 + nI 1)) 17 0) = (wl n pl nw w (wkP w σ) (true, (σ, κ))).2.1 := by first | (rw [hF]; done) | (rw [hF]; show _ = up2 (up2 (up2 (up2 s9 8 j0 (s9 8 j0 + nI 1)) 13 w (-1)) 12 w (nI 2)) 15 w _; rw [up2_up2])
                        have hP : kP D (MS n nw) a (eL cI cZ cW cO X a n nw ns ((wl n pl nw w (wkP w σ) (true, (σ, κ))).2.1) (up2 (thE σ η k9) 2 j0 (((thE σ η k9) 2 j0) + (nI 1))) T) G := Eq.mp (congrArg (fun z9 => kP D (MS n nw) a (eL cI cZ cW cO X a n nw ns z9 (up2 (thE σ η k9) 2 j0 (((thE σ η k9) 2 j0) + (nI 1))) T) G) hw9) hP
                        clear hw9
                        have hw9 : up2 (thE σ η k9) 2 j0 (((thE σ η k9) 2 j0) + (nI 1)) = thE σ η (wl n pl nw w (wkP w σ) (true, (σ, κ))).2.2 := by first | (rw [hF]; done) | (rw [hF]; exact thE_up)
                        have hP : kP D (MS n nw) a (eL cI cZ cW cO X a n nw ns ((wl n pl nw w (wkP w σ) (true, (σ, κ))).2.1) (thE σ η (wl n pl nw w (wkP w σ) (true, (σ, κ))).2.2) T) G := Eq.mp (congrArg (fun z9 => kP D (MS n nw) a (eL cI cZ cW cO X a n nw ns ((wl n pl nw w (wkP w σ) (true, (σ, κ))).2.1) z9 T) G) hw9) hP
                        clear hw9
                        exact hEnd 180 ls G locs dX3_go_180 hP.w hS
                      · exact absurd c48 (by decide)
                    · skip
                      have hp0 : ¬ 0 < k9 3 j0 := fun z => c47 ((TH_lt hTH9 hj0).mpr z)
                      refine lv_aload_n hx hb dX3_go_106 rfl (lv_at hl 4 rfl) ?_
                      refine lk_gf3 hx hb hX3 hown hK hP 1 0 (show 0 < 10 by decide) rfl 0 (by decide) f9 rfl dX3_go_107 ?_
                      refine lv_iload hx hb dX3_go_110 (lv_at hl 1 rfl) ?_
                      refine lk_aldO hx hb hK hP 1 1 (show 1 < 10 by decide) rfl (by omega) (by omega) (rfs_at (by omega)) dX3_go_112 ?_
                      refine lv_iconst (v := nI 4) hx hb dX3_go_113 rfl ?_
                      refine lv_dup2_11 hx hb dX3_go_114 rfl rfl ?_
                      refine lk_ild hx hb hK hP 2 j0 (show j0 < n by omega) rfl (by omega) (by decide) dX3_go_115 ?_
                      refine li_topi (x' := s9 9 j0) rfl ?_
                      refine lv_iconst (v := nI 1) hx hb dX3_go_116 rfl ?_
                      refine lv_iadd hx hb dX3_go_117 ?_
                      refine lk_ist hx hb hK hP hO hS 2 j0 (show j0 < n by omega) rfl (by omega) (by decide) stS_9 dX3_go_118 (fun G locs hP hS => ?_)
                      have hF := wl_eT (m := P - (k + 1)) (F := wl n pl nw w (wkP w σ) (true, (σ, κ))) (by rw [← show P - k = (P - (k + 1)) + 1 by omega]; exact hW) (gs_b hwa hse hp0)
                      have hw9 : up2 s9 9 j0 ((s9 9 j0) + (nI 1)) = (wl n pl nw w (wkP w σ) (true, (σ, κ))).2.1 := by first | (rw [hF]; done) | (rw [hF]; show _ = up2 (up2 (up2 (up2 s9 8 j0 (s9 8 j0 + nI 1)) 13 w (-1)) 12 w (nI 2)) 15 w _; rw [up2_up2])
                      have hP : kP D (MS n nw) a (eL cI cZ cW cO X a n nw ns ((wl n pl nw w (wkP w σ) (true, (σ, κ))).2.1) (thE σ η k9) T) G := Eq.mp (congrArg (fun z9 => kP D (MS n nw) a (eL cI cZ cW cO X a n nw ns z9 (thE σ η k9) T) G) hw9) hP
                      clear hw9
                      have hw9 : thE σ η k9 = thE σ η (wl n pl nw w (wkP w σ) (true, (σ, κ))).2.2 := by first | (rw [hF]; done) | (rw [hF]; exact thE_up)
                      have hP : kP D (MS n nw) a (eL cI cZ cW cO X a n nw ns ((wl n pl nw w (wkP w σ) (true, (σ, κ))).2.1) (thE σ η (wl n pl nw w (wkP w σ) (true, (σ, κ))).2.2) T) G := Eq.mp (congrArg (fun z9 => kP D (MS n nw) a (eL cI cZ cW cO X a n nw ns ((wl n pl nw w (wkP w σ) (true, (σ, κ))).2.1) z9 T) G) hw9) hP
                      clear hw9
                      exact hEnd 119 ls G locs dX3_go_119 hP.w hS
                · exact absurd c45 (by decide)
            · have hse := gm_sn hRF9 hj0 hz9 hpl hjz ha hb9 hcor
              refine li_topi (show oI (se s9 n (s9 13 w)) = -1 from by rw [hse]; rfl) ?_
              have hne9 : ¬ jz + 1 = pl := fun z => hcor (gm_ec hRF9 hj0 ha hb9 z)
              have hlt := (gm_lt (w := w) hz9 hpl hjz).mpr hne9
              refine lv_istore (lv' := [(4, .int (-1)), (3, .int (nI k)), (2, .int (nI P)), (0, .ref (a 1 0)), (1, .ref (a 3 w))]) hx hb dX3_go_44 hl (by decide) rfl (fun ls hl => ?_)
              refine lv_iload hx hb dX3_go_46 (lv_at hl 0 rfl) ?_
              refine lv_aload_n hx hb dX3_go_48 rfl (lv_at hl 3 rfl) ?_
              refine lk_gf3 hx hb hX3 hown hK hP 1 0 (show 0 < 10 by decide) rfl 0 (by decide) f9 rfl dX3_go_49 ?_
              refine lk_alen hx hb hK hP 1 1 (show 1 < 10 by decide) 3 rfl rfl dX3_go_52 ?_
              refine lv_iconst (v := nI 1) hx hb dX3_go_53 rfl ?_
              refine lv_isub hx hb dX3_go_54 ?_
              refine li_topi (show (nI n) - (nI 1) = nI (n - 1) from pk_sub (by omega)) ?_
              refine lv_icmp_ne (tgt := 62) hx hb dX3_go_55 (by decide) (fun c49 => ?_) (fun c49 => ?_)
              · skip
                refine lv_iconst (v := nI 0) hx hb dX3_go_62 rfl ?_
                refine lv_istore (lv' := [(5, .int (nI 0)), (4, .int (-1)), (3, .int (nI k)), (2, .int (nI P)), (0, .ref (a 1 0)), (1, .ref (a 3 w))]) hx hb dX3_go_63 hl (by decide) rfl (fun ls hl => ?_)
                refine lv_iload hx hb dX3_go_65 (lv_at hl 0 rfl) ?_
                refine li_ne0 (tgt := 85) hx hb dX3_go_67 (by decide) (by first | omega | (have := wa_le (σ := s9) (nw := nw) (z := s9 13 w + nI 1); omega)) (fun c50 => ?_) (fun c50 => ?_)
                · exact absurd c50 (by decide)
                · skip
                  refine lv_aload_n hx hb dX3_go_70 rfl (lv_at hl 4 rfl) ?_
                  refine lv_aload_n hx hb dX3_go_71 rfl (lv_at hl 5 rfl) ?_
                  refine lk_gf4 hx hb hX4 hown hK hP 3 w (show w < nw by omega) rfl 5 (by decide) f77 rfl dX3_go_72 ?_
                  refine lv_iconst (v := nI 1) hx hb dX3_go_75 rfl ?_
                  refine lv_iadd hx hb dX3_go_76 ?_
                  obtain ⟨q9, hq9, -⟩ := wK_at (M := MS n nw) (a := a) (e := eL cI cZ cW cO X a n nw ns s9 (thE σ η k9) T) (c := 1) (i := 0) (show 0 < 10 by decide)
                  refine roV (As := [.int ((s9 13 w) + (nI 1))]) (q0 := q9) (ci := 3) hx hb hml hown hts (c_X3_on l D cI cZ cW cO X a n nw ns s9 (thE σ η k9) T G ((s9 13 w) + (nI 1)) A hO hB) (cwV 1 hts gX3_go_X3_on rfl rfl rfl (by decide +kernel) ⟨by decide, by decide⟩) hK hE hP.w rfl rfl hq9 rfl hl.1 rfl (Nat.le_of_ble_eq_true rfl) hS dX3_go_77 ⟨Nat.zero_le _, Nat.zero_le _⟩ (fun locs hS => ?_)
                  refine lv_iconst (v := nI 2) hx hb dX3_go_80 rfl ?_
                  refine li_ne (tgt := 85) hx hb dX3_go_81 (by decide) (by first | omega | (have := wa_le (σ := s9) (nw := nw) (z := s9 13 w + nI 1); omega)) (by first | omega | (have := wa_le (σ := s9) (nw := nw) (z := s9 13 w + nI 1); omega)) (fun c51 => ?_) (fun c51 => ?_)
                  · skip
                    have hwa : wa s9 nw (s9 13 w + nI 1) < 2 := by have h9 := AT_le hAT9 hPB9 hpl (j := jz + 1) (by omega); rw [← nI_add, ← hz9] at h9; omega
                    refine lv_iload hx hb dX3_go_85 (lv_at hl 1 rfl) ?_
                    refine lv_if_lt (tgt := 144) hx hb dX3_go_87 (by decide) (fun c52 => ?_) (fun c52 => ?_)
                    · skip
                      refine lv_aload_n hx hb dX3_go_144 rfl (lv_at hl 5 rfl) ?_
                      refine lv_dup hx hb dX3_go_145 rfl ?_
                      refine lk_gf4 hx hb hX4 hown hK hP 3 w (show w < nw by omega) rfl 5 (by decide) f77 rfl dX3_go_146 ?_
                      refine li_topi (show s9 13 w = s9 13 w from by first | rfl | exact congrFun (up2_r (by decide)) _) ?_
                      refine lv_iconst (v := nI 1) hx hb dX3_go_149 rfl ?_
                      refine lv_iadd hx hb dX3_go_150 ?_
                      refine lk_pf4 hx hb hX4 hown hK hP hO hS 3 w (show w < nw by omega) rfl 5 (by decide) f77 rfl rfl rfl (Nat.le_of_ble_eq_true rfl) stS_13 dX3_go_151 (fun G locs hP hS => ?_)
                      refine lv_iload hx hb dX3_go_154 (lv_at hl 0 rfl) ?_
                      refine li_ne0 (tgt := 162) hx hb dX3_go_156 (by decide) (by first | omega | (have := wa_le (σ := s9) (nw := nw) (z := s9 13 w + nI 1); omega)) (fun c53 => ?_) (fun c53 => ?_)
                      · exact absurd c53 (by decide)
                      · skip
                        refine lv_goto (tgt := 181) hx hb dX3_go_159 (by decide) ?_
                        refine lv_iinc (v := nI (k + 1)) (lv' := [(3, .int (nI (k + 1))), (5, .int (nI 0)), (4, .int (-1)), (2, .int (nI P)), (0, .ref (a 1 0)), (1, .ref (a 3 w))]) hx hb dX3_go_181 hl (k := 2) rfl (nI_inc _ _) (by decide) rfl (fun ls hl => ?_)
                        refine lv_goto (tgt := 31) hx hb dX3_go_184 (by decide) ?_
                        have hw9 : up2 s9 13 w ((s9 13 w) + (nI 1)) = (up2 s9 13 w ((s9 13 w) + (nI 1))) := rfl
                        have hP : kP D (MS n nw) a (eL cI cZ cW cO X a n nw ns (up2 s9 13 w ((s9 13 w) + (nI 1))) (thE σ η k9) T) G := Eq.mp (congrArg (fun z9 => kP D (MS n nw) a (eL cI cZ cW cO X a n nw ns z9 (thE σ η k9) T) G) hw9) hP
                        clear hw9
                        have hl9 : lv_has ls 6 [(3, .int (nI (k + 1))), (2, .int (nI P)), (0, .ref (a 1 0)), (1, .ref (a 3 w))] := lv_sub hl [0, 3, 4, 5] rfl
                        have hg := gs_d (n := n) (pl := pl) (nw := nw) (k9 := k9) hwa hse hlt
                        have hkp := g1_keep (n := n) (pl := pl) (nw := nw) (w := w) (a := s9) (b := k9) hpl hw hPB9 hTH9 hwk9
                        have hat := g1_AT (n := n) (pl := pl) (nw := nw) (w := w) (q := (s9, k9)) hAT9
                        have hrk := fun r (h : goK r) => g1_rowK (n := n) (pl := pl) (nw := nw) (w := w) (q := (s9, k9)) (k := r) h
                        rw [hg] at hkp hat
                        simp only [hg] at hrk
                        exact ih31 (k + 1) P (up2 s9 13 w ((s9 13 w) + (nI 1))) k9 (by omega) (by omega) (by rw [show P - k = (P - (k + 1)) + 1 by omega] at hW; exact wl_nT hW hg) (fun r h => (hrk r h).trans (hr r h)) (hkp.1) (hkp.2.1) (hat) (by omega) (hkp.2.2.2 rfl) G locs hP hS ls hl9
                    · skip
                      exact absurd (show (-1 : Int32) < 0 by decide) c52
                  · skip
                    have hF := wl_eT (m := P - (k + 1)) (F := wl n pl nw w (wkP w σ) (true, (σ, κ))) (by rw [← show P - k = (P - (k + 1)) + 1 by omega]; exact hW) (g1_a (κ := k9) (n := n) (pl := pl) (by omega))
                    have hw9 : s9 = (wl n pl nw w (wkP w σ) (true, (σ, κ))).2.1 := by first | (rw [hF]; done) | (rw [hF]; show _ = up2 (up2 (up2 (up2 s9 8 j0 (s9 8 j0 + nI 1)) 13 w (-1)) 12 w (nI 2)) 15 w _; rw [up2_up2])
                    have hP : kP D (MS n nw) a (eL cI cZ cW cO X a n nw ns ((wl n pl nw w (wkP w σ) (true, (σ, κ))).2.1) (thE σ η k9) T) G := Eq.mp (congrArg (fun z9 => kP D (MS n nw) a (eL cI cZ cW cO X a n nw ns z9 (thE σ η k9) T) G) hw9) hP
                    clear hw9
                    have hw9 : thE σ η k9 = thE σ η (wl n pl nw w (wkP w σ) (true, (σ, κ))).2.2 := by first | (rw [hF]; done) | (rw [hF]; exact thE_up)
                    have hP : kP D (MS n nw) a (eL cI cZ cW cO X a n nw ns ((wl n pl nw w (wkP w σ) (true, (σ, κ))).2.1) (thE σ η (wl n pl nw w (wkP w σ) (true, (σ, κ))).2.2) T) G := Eq.mp (congrArg (fun z9 => kP D (MS n nw) a (eL cI cZ cW cO X a n nw ns ((wl n pl nw w (wkP w σ) (true, (σ, κ))).2.1) z9 T) G) hw9) hP
                    clear hw9
                    exact hEnd 84 ls G locs dX3_go_84 hP.w hS
              · skip
                exact absurd c49 (fun z => by have h9 := congrArg Int32.toInt z; rw [nI_toInt (by omega)] at h9; exact absurd h9 (by have h8 : ((-1 : Int32)).toInt = -1 := (by decide); omega))
      have hw9 : η = thE σ η κ := (thE_id hη).symm
      have hP : kP D (MS n nw) a (eL cI cZ cW cO X a n nw ns σ (thE σ η κ) T) H := Eq.mp (congrArg (fun z9 => kP D (MS n nw) a (eL cI cZ cW cO X a n nw ns σ z9 T) H) hw9) hP
      clear hw9
      have hl9 : lv_has ls 6 [(3, .int (nI 0)), (2, .int (nI (nN (σ 4 w)))), (0, .ref (a 1 0)), (1, .ref (a 3 w))] := lv_sub hl [0, 1, 2, 3] rfl
      exact L31_37 (((nN (σ 4 w)) - 0) + 1) 0 (nN (σ 4 w)) σ κ (Nat.lt_succ_self _) (Nat.zero_le _) (by rw [Nat.sub_zero]; unfold wkP; first | rw [if_neg (show ¬ σ 11 w = 0 by assumption)] | (rw [if_pos (show σ 11 w = 0 by assumption)]; done) | (rw [if_pos (show σ 11 w = 0 by assumption)]; first | rfl | (rw [show nN (σ 4 w) = 1 by omega]; rfl))) (fun _ _ => rfl) (hPB) (hTH) (hAT) (by first | omega | exact hpc.2.2 | exact mxp_le hpc.2.2) (hwk) H locs hP hS ls hl9
