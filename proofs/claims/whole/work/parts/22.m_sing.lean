/-! the model: songs -/
set_option maxHeartbeats 4000000 in
set_option maxRecDepth 100000 in
theorem c_X3_learnt (l : Launch) (D : va_G) (cI cZ cL cO : ClassId) (a : Nat → Nat) (th : Int32) (n nw ns : Nat) (σ η : Sg) (H : Heap) (w : Nat) (sg : Nat) (hB : n ≤ 10 ∧ nw ≤ 20 ∧ ns ≤ 6) (hw : w < nw) (hsg : sg < 6) : Met l yX3_learnt wsX3_learnt ({ frames := 3, cells := 0, slots := 0, locals := 65 } : Room) (ro_P D (T4 cI cZ cL cO) (wM cI cZ a th n nw ns σ η) H [.ref (a 0), .int (nI w), .int (nI sg)]) (ro_Q (lrn σ nw w sg) H) 0 0 (fun _ => False) := by
  refine ro_of (cc := cX3_learnt) (maxL := 5) (by decide) rfl (Nat.le_of_ble_eq_true rfl) rfl ?_
  intro p e s m args below meth c Q ls locs hx hb hml hown hts hK hE hP hl hS hEnd
  have hl : lv_has ls 5 [(0, .ref (a 0)), (1, .int (nI w)), (2, .int (nI sg))] := hl
  have hX3 : ∀ w ∈ wsX30, w.before args s = true := fun w h => hts w (List.mem_cons_of_mem _ (List.mem_append_right _ (h)))
  have f58 : (Cond.fieldLink RX3 58 "LanternWalkModel" "walkers" "I").before args s = true := hts _ (List.mem_of_getElem? (i := 1) rfl)
  have f22 : (Cond.fieldLink RX3 22 "LanternWalkModel" "lengths" "[I").before args s = true := hts _ (List.mem_of_getElem? (i := 3) rfl)
  have f25 : (Cond.fieldLink RX3 25 "LanternWalkModel" "known" "[I").before args s = true := hts _ (List.mem_of_getElem? (i := 2) rfl)
  refine lv_iconst (v := (-1)) hx hb dX3_learnt_0 rfl ?_
  refine lv_istore_n (lv' := [(3, .int (-1)), (0, .ref (a 0)), (1, .int (nI w)), (2, .int (nI sg))]) hx hb dX3_learnt_1 rfl hl (by decide) rfl (fun ls hl => ?_)
  refine lv_iconst (v := nI 0) hx hb dX3_learnt_2 rfl ?_
  refine lv_istore (lv' := [(4, .int (nI 0)), (3, .int (-1)), (0, .ref (a 0)), (1, .int (nI w)), (2, .int (nI sg))]) hx hb dX3_learnt_3 hl (by decide) rfl (fun ls hl => ?_)
  have L5_1 : ∀ (fuel : Nat) (k : Nat), (nw - k) < fuel → (k ≤ nw) → ∀ (locs : List Loc), va_S (fun _ => False) H H locs → ∀ (ls : Array Slot), lv_has ls 5 [(4, .int (nI k)), (3, .int (oI (lfo σ w sg k))), (0, .ref (a 0)), (1, .int (nI w)), (2, .int (nI sg))] → W p l e ({ frames := 3, cells := 0, slots := 0, locals := 65 } : Room) s m args below meth c H locs 0 0 Q (F0 m 5 ls []) := by
    intro fuel
    induction fuel with
    | zero =>
      intro k hfuel
      exact absurd hfuel (Nat.not_lt_zero _)
    | succ fuel ih5 =>
      intro k hfuel5 hk locs hS ls hl
      refine lv_iload hx hb dX3_learnt_5 (lv_at hl 0 rfl) ?_
      refine lv_aload_n hx hb dX3_learnt_7 rfl (lv_at hl 2 rfl) ?_
      refine li_gf3 hx hb hX3 hown hK hP 0 rfl 5 (by decide) f58 rfl dX3_learnt_8 ?_
      refine li_ge (tgt := 69) hx hb dX3_learnt_11 (by decide) (by omega) (by omega) (fun c2 => ?_) (fun c2 => ?_)
      · skip
        refine lv_iload_n hx hb dX3_learnt_69 rfl (lv_at hl 1 rfl) ?_
        refine lv_iconst (v := (-1)) hx hb dX3_learnt_70 rfl ?_
        refine lv_icmp_eq (tgt := 104) hx hb dX3_learnt_71 (by decide) (fun c3 => ?_) (fun c3 => ?_)
        · skip
          have hlf : lfo σ w sg k = none := oI_m1 (fun j h => lfo_lt h) (n := k) (by omega) c3
          rw [show k = nw by omega] at hlf
          refine lv_iconst (v := nI 0) hx hb dX3_learnt_104 rfl ?_
          refine li_topi (show nI 0 = lrn σ nw w sg from by unfold lrn; first | (rw [hlf]; done) | (rw [hlf]; simp only []; (first | rw [if_pos (show σ 11 w = 0 by assumption)] | rw [if_neg (show ¬ σ 11 w = 0 by assumption)]); first | rw [if_neg (by assumption)] | (rw [if_pos (by assumption)]; first | rw [if_pos (by assumption)] | rw [if_neg (by assumption)]))) ?_
          exact hEnd 105 ls locs dX3_learnt_105 hS
        · skip
          obtain ⟨j, hlf⟩ := oI_n c3
          have hj : j < k := lfo_lt hlf
          rw [hlf] at hl
          have hl : lv_has ls 5 [(4, .int (nI k)), (3, .int (nI j)), (0, .ref (a 0)), (1, .int (nI w)), (2, .int (nI sg))] := hl
          rw [show k = nw by omega] at hlf
          refine lv_aload_n hx hb dX3_learnt_74 rfl (lv_at hl 2 rfl) ?_
          refine lv_iload_n hx hb dX3_learnt_75 rfl (lv_at hl 1 rfl) ?_
          refine lv_iconst (v := nI 2) hx hb dX3_learnt_76 rfl ?_
          refine roV (As := [.int (nI j), .int (nI 2)]) (q0 := 0) (ci := 3) hx hb hml hown hts (c_X3_pe l D cI cZ cL cO a th n nw ns σ η H j 2 (hB) (by omega) (by omega)) (cwV 2 hts gX3_learnt_X3_pe rfl rfl rfl (by decide +kernel) ⟨by decide, by decide⟩) hK hE hP rfl rfl rfl rfl hl.1 rfl (Nat.le_of_ble_eq_true rfl) hS dX3_learnt_77 ⟨Nat.zero_le _, Nat.zero_le _⟩ (fun locs hS => ?_)
          refine li_topi (show σ (pid 2) j = σ 5 j from rfl) ?_
          refine lv_aload_n hx hb dX3_learnt_80 rfl (lv_at hl 2 rfl) ?_
          refine lv_iload_n hx hb dX3_learnt_81 rfl (lv_at hl 3 rfl) ?_
          refine lv_iconst (v := nI 3) hx hb dX3_learnt_82 rfl ?_
          refine roV (As := [.int (nI w), .int (nI 3)]) (q0 := 0) (ci := 3) hx hb hml hown hts (c_X3_pe l D cI cZ cL cO a th n nw ns σ η H w 3 (hB) (by omega) (by omega)) (cwV 2 hts gX3_learnt_X3_pe rfl rfl rfl (by decide +kernel) ⟨by decide, by decide⟩) hK hE hP rfl rfl rfl rfl hl.1 rfl (Nat.le_of_ble_eq_true rfl) hS dX3_learnt_83 ⟨Nat.zero_le _, Nat.zero_le _⟩ (fun locs hS => ?_)
          refine li_topi (show σ (pid 3) w = σ 11 w from rfl) ?_
          refine lv_if_ne (tgt := 93) hx hb dX3_learnt_86 (by decide) (fun c4 => ?_) (fun c4 => ?_)
          · skip
            refine lv_iconst (v := nI 0) hx hb dX3_learnt_93 rfl ?_
            refine lv_iadd hx hb dX3_learnt_94 ?_
            refine lv_aload_n hx hb dX3_learnt_95 rfl (lv_at hl 2 rfl) ?_
            refine li_gf3 hx hb hX3 hown hK hP 0 rfl 8 (by decide) f22 rfl dX3_learnt_96 ?_
            refine lv_iload_n hx hb dX3_learnt_99 rfl (lv_at hl 4 rfl) ?_
            refine li_ild hx hb hK hP 5 0 rfl rfl (by omega) (by decide) dX3_learnt_100 ?_
            refine lv_icmp_ge (tgt := 106) hx hb dX3_learnt_101 (by decide) (fun c5 => ?_) (fun c5 => ?_)
            · skip
              refine lv_aload_n hx hb dX3_learnt_106 rfl (lv_at hl 2 rfl) ?_
              refine li_gf3 hx hb hX3 hown hK hP 0 rfl 9 (by decide) f25 rfl dX3_learnt_107 ?_
              refine lv_bipush (v := nI 6) hx hb dX3_learnt_110 rfl ?_
              refine lv_iload_n hx hb dX3_learnt_112 rfl (lv_at hl 1 rfl) ?_
              refine lv_imul hx hb dX3_learnt_113 ?_
              refine li_topi (pk_mul _ _) ?_
              refine lv_iload_n hx hb dX3_learnt_114 rfl (lv_at hl 4 rfl) ?_
              refine lv_iadd hx hb dX3_learnt_115 ?_
              refine li_topi (nI_add _ _) ?_
              refine li_ild hx hb hK hP 6 0 rfl rfl (by omega) (by decide) dX3_learnt_116 ?_
              refine lv_istore (lv' := [(4, .int (σ 16 (6 * j + sg))), (3, .int (nI j)), (0, .ref (a 0)), (1, .int (nI w)), (2, .int (nI sg))]) hx hb dX3_learnt_117 hl (by decide) rfl (fun ls hl => ?_)
              refine lv_aload_n hx hb dX3_learnt_119 rfl (lv_at hl 2 rfl) ?_
              refine lv_iload_n hx hb dX3_learnt_120 rfl (lv_at hl 3 rfl) ?_
              refine lv_iconst (v := nI 3) hx hb dX3_learnt_121 rfl ?_
              refine roV (As := [.int (nI w), .int (nI 3)]) (q0 := 0) (ci := 3) hx hb hml hown hts (c_X3_pe l D cI cZ cL cO a th n nw ns σ η H w 3 (hB) (by omega) (by omega)) (cwV 2 hts gX3_learnt_X3_pe rfl rfl rfl (by decide +kernel) ⟨by decide, by decide⟩) hK hE hP rfl rfl rfl rfl hl.1 rfl (Nat.le_of_ble_eq_true rfl) hS dX3_learnt_122 ⟨Nat.zero_le _, Nat.zero_le _⟩ (fun locs hS => ?_)
              refine li_topi (show σ (pid 3) w = σ 11 w from rfl) ?_
              refine lv_aload_n hx hb dX3_learnt_125 rfl (lv_at hl 2 rfl) ?_
              refine lv_iload_n hx hb dX3_learnt_126 rfl (lv_at hl 1 rfl) ?_
              refine lv_iconst (v := nI 3) hx hb dX3_learnt_127 rfl ?_
              refine roV (As := [.int (nI j), .int (nI 3)]) (q0 := 0) (ci := 3) hx hb hml hown hts (c_X3_pe l D cI cZ cL cO a th n nw ns σ η H j 3 (hB) (by omega) (by omega)) (cwV 2 hts gX3_learnt_X3_pe rfl rfl rfl (by decide +kernel) ⟨by decide, by decide⟩) hK hE hP rfl rfl rfl rfl hl.1 rfl (Nat.le_of_ble_eq_true rfl) hS dX3_learnt_128 ⟨Nat.zero_le _, Nat.zero_le _⟩ (fun locs hS => ?_)
              refine li_topi (show σ (pid 3) j = σ 11 j from rfl) ?_
              refine lv_iadd hx hb dX3_learnt_131 ?_
              refine lv_iconst (v := nI 2) hx hb dX3_learnt_132 rfl ?_
              refine lv_icmp_ne (tgt := 146) hx hb dX3_learnt_133 (by decide) (fun c6 => ?_) (fun c6 => ?_)
              · skip
                refine lv_iload hx hb dX3_learnt_146 (lv_at hl 0 rfl) ?_
                refine li_topi (show σ 16 (6 * j + sg) = lrn σ nw w sg from by unfold lrn; first | (rw [hlf]; done) | (rw [hlf]; simp only []; (first | rw [if_pos (show σ 11 w = 0 by assumption)] | rw [if_neg (show ¬ σ 11 w = 0 by assumption)]); first | rw [if_neg (by assumption)] | (rw [if_pos (by assumption)]; first | rw [if_pos (by assumption)] | rw [if_neg (by assumption)]))) ?_
                exact hEnd 148 ls locs dX3_learnt_148 hS
              · skip
                refine lv_iload hx hb dX3_learnt_136 (lv_at hl 0 rfl) ?_
                refine lv_bipush (v := nI 99) hx hb dX3_learnt_138 rfl ?_
                refine lv_irem hx hb dX3_learnt_140 (by decide) ?_
                refine li_topi (show (σ 16 (6 * j + sg)) - (σ 16 (6 * j + sg)) / (nI 99) * (nI 99) = rem99 (σ 16 (6 * j + sg)) from rfl) ?_
                refine lv_iconst (v := nI 1) hx hb dX3_learnt_141 rfl ?_
                refine lv_iadd hx hb dX3_learnt_142 ?_
                refine lv_goto (tgt := 148) hx hb dX3_learnt_143 (by decide) ?_
                refine li_topi (show (rem99 (σ 16 (6 * j + sg))) + (nI 1) = lrn σ nw w sg from by unfold lrn; first | (rw [hlf]; done) | (rw [hlf]; simp only []; (first | rw [if_pos (show σ 11 w = 0 by assumption)] | rw [if_neg (show ¬ σ 11 w = 0 by assumption)]); first | rw [if_neg (by assumption)] | (rw [if_pos (by assumption)]; first | rw [if_pos (by assumption)] | rw [if_neg (by assumption)]))) ?_
                exact hEnd 148 ls locs dX3_learnt_148 hS
            · skip
              refine lv_iconst (v := nI 0) hx hb dX3_learnt_104 rfl ?_
              refine li_topi (show nI 0 = lrn σ nw w sg from by unfold lrn; first | (rw [hlf]; done) | (rw [hlf]; simp only []; (first | rw [if_pos (show σ 11 w = 0 by assumption)] | rw [if_neg (show ¬ σ 11 w = 0 by assumption)]); first | rw [if_neg (by assumption)] | (rw [if_pos (by assumption)]; first | rw [if_pos (by assumption)] | rw [if_neg (by assumption)]))) ?_
              exact hEnd 105 ls locs dX3_learnt_105 hS
          · skip
            refine lv_iconst (v := nI 3) hx hb dX3_learnt_89 rfl ?_
            refine lv_goto (tgt := 94) hx hb dX3_learnt_90 (by decide) ?_
            refine lv_iadd hx hb dX3_learnt_94 ?_
            refine lv_aload_n hx hb dX3_learnt_95 rfl (lv_at hl 2 rfl) ?_
            refine li_gf3 hx hb hX3 hown hK hP 0 rfl 8 (by decide) f22 rfl dX3_learnt_96 ?_
            refine lv_iload_n hx hb dX3_learnt_99 rfl (lv_at hl 4 rfl) ?_
            refine li_ild hx hb hK hP 5 0 rfl rfl (by omega) (by decide) dX3_learnt_100 ?_
            refine lv_icmp_ge (tgt := 106) hx hb dX3_learnt_101 (by decide) (fun c7 => ?_) (fun c7 => ?_)
            · skip
              refine lv_aload_n hx hb dX3_learnt_106 rfl (lv_at hl 2 rfl) ?_
              refine li_gf3 hx hb hX3 hown hK hP 0 rfl 9 (by decide) f25 rfl dX3_learnt_107 ?_
              refine lv_bipush (v := nI 6) hx hb dX3_learnt_110 rfl ?_
              refine lv_iload_n hx hb dX3_learnt_112 rfl (lv_at hl 1 rfl) ?_
              refine lv_imul hx hb dX3_learnt_113 ?_
              refine li_topi (pk_mul _ _) ?_
              refine lv_iload_n hx hb dX3_learnt_114 rfl (lv_at hl 4 rfl) ?_
              refine lv_iadd hx hb dX3_learnt_115 ?_
              refine li_topi (nI_add _ _) ?_
              refine li_ild hx hb hK hP 6 0 rfl rfl (by omega) (by decide) dX3_learnt_116 ?_
              refine lv_istore (lv' := [(4, .int (σ 16 (6 * j + sg))), (3, .int (nI j)), (0, .ref (a 0)), (1, .int (nI w)), (2, .int (nI sg))]) hx hb dX3_learnt_117 hl (by decide) rfl (fun ls hl => ?_)
              refine lv_aload_n hx hb dX3_learnt_119 rfl (lv_at hl 2 rfl) ?_
              refine lv_iload_n hx hb dX3_learnt_120 rfl (lv_at hl 3 rfl) ?_
              refine lv_iconst (v := nI 3) hx hb dX3_learnt_121 rfl ?_
              refine roV (As := [.int (nI w), .int (nI 3)]) (q0 := 0) (ci := 3) hx hb hml hown hts (c_X3_pe l D cI cZ cL cO a th n nw ns σ η H w 3 (hB) (by omega) (by omega)) (cwV 2 hts gX3_learnt_X3_pe rfl rfl rfl (by decide +kernel) ⟨by decide, by decide⟩) hK hE hP rfl rfl rfl rfl hl.1 rfl (Nat.le_of_ble_eq_true rfl) hS dX3_learnt_122 ⟨Nat.zero_le _, Nat.zero_le _⟩ (fun locs hS => ?_)
              refine li_topi (show σ (pid 3) w = σ 11 w from rfl) ?_
              refine lv_aload_n hx hb dX3_learnt_125 rfl (lv_at hl 2 rfl) ?_
              refine lv_iload_n hx hb dX3_learnt_126 rfl (lv_at hl 1 rfl) ?_
              refine lv_iconst (v := nI 3) hx hb dX3_learnt_127 rfl ?_
              refine roV (As := [.int (nI j), .int (nI 3)]) (q0 := 0) (ci := 3) hx hb hml hown hts (c_X3_pe l D cI cZ cL cO a th n nw ns σ η H j 3 (hB) (by omega) (by omega)) (cwV 2 hts gX3_learnt_X3_pe rfl rfl rfl (by decide +kernel) ⟨by decide, by decide⟩) hK hE hP rfl rfl rfl rfl hl.1 rfl (Nat.le_of_ble_eq_true rfl) hS dX3_learnt_128 ⟨Nat.zero_le _, Nat.zero_le _⟩ (fun locs hS => ?_)
              refine li_topi (show σ (pid 3) j = σ 11 j from rfl) ?_
              refine lv_iadd hx hb dX3_learnt_131 ?_
              refine lv_iconst (v := nI 2) hx hb dX3_learnt_132 rfl ?_
              refine lv_icmp_ne (tgt := 146) hx hb dX3_learnt_133 (by decide) (fun c8 => ?_) (fun c8 => ?_)
              · skip
                refine lv_iload hx hb dX3_learnt_146 (lv_at hl 0 rfl) ?_
                refine li_topi (show σ 16 (6 * j + sg) = lrn σ nw w sg from by unfold lrn; first | (rw [hlf]; done) | (rw [hlf]; simp only []; (first | rw [if_pos (show σ 11 w = 0 by assumption)] | rw [if_neg (show ¬ σ 11 w = 0 by assumption)]); first | rw [if_neg (by assumption)] | (rw [if_pos (by assumption)]; first | rw [if_pos (by assumption)] | rw [if_neg (by assumption)]))) ?_
                exact hEnd 148 ls locs dX3_learnt_148 hS
              · skip
                refine lv_iload hx hb dX3_learnt_136 (lv_at hl 0 rfl) ?_
                refine lv_bipush (v := nI 99) hx hb dX3_learnt_138 rfl ?_
                refine lv_irem hx hb dX3_learnt_140 (by decide) ?_
                refine li_topi (show (σ 16 (6 * j + sg)) - (σ 16 (6 * j + sg)) / (nI 99) * (nI 99) = rem99 (σ 16 (6 * j + sg)) from rfl) ?_
                refine lv_iconst (v := nI 1) hx hb dX3_learnt_141 rfl ?_
                refine lv_iadd hx hb dX3_learnt_142 ?_
                refine lv_goto (tgt := 148) hx hb dX3_learnt_143 (by decide) ?_
                refine li_topi (show (rem99 (σ 16 (6 * j + sg))) + (nI 1) = lrn σ nw w sg from by unfold lrn; first | (rw [hlf]; done) | (rw [hlf]; simp only []; (first | rw [if_pos (show σ 11 w = 0 by assumption)] | rw [if_neg (show ¬ σ 11 w = 0 by assumption)]); first | rw [if_neg (by assumption)] | (rw [if_pos (by assumption)]; first | rw [if_pos (by assumption)] | rw [if_neg (by assumption)]))) ?_
                exact hEnd 148 ls locs dX3_learnt_148 hS
            · skip
              refine lv_iconst (v := nI 0) hx hb dX3_learnt_104 rfl ?_
              refine li_topi (show nI 0 = lrn σ nw w sg from by unfold lrn; first | (rw [hlf]; done) | (rw [hlf]; simp only []; (first | rw [if_pos (show σ 11 w = 0 by assumption)] | rw [if_neg (show ¬ σ 11 w = 0 by assumption)]); first | rw [if_neg (by assumption)] | (rw [if_pos (by assumption)]; first | rw [if_pos (by assumption)] | rw [if_neg (by assumption)]))) ?_
              exact hEnd 105 ls locs dX3_learnt_105 hS
      · skip
        refine lv_aload_n hx hb dX3_learnt_14 rfl (lv_at hl 2 rfl) ?_
        refine lv_iload_n hx hb dX3_learnt_15 rfl (lv_at hl 3 rfl) ?_
        refine lv_iload hx hb dX3_learnt_16 (lv_at hl 0 rfl) ?_
        refine roV (As := [.int (nI w), .int (nI k)]) (q0 := 0) (ci := 3) hx hb hml hown hts (c_X3_isNeighbour l D cI cZ cL cO a th n nw ns σ η H w k (hB) (by omega) (by omega)) (cwV 2 hts gX3_learnt_X3_isNeighbour rfl rfl rfl (by decide +kernel) ⟨by decide, by decide⟩) hK hE hP rfl rfl rfl rfl hl.1 rfl (Nat.le_of_ble_eq_true rfl) hS dX3_learnt_18 ⟨Nat.zero_le _, Nat.zero_le _⟩ (fun locs hS => ?_)
        refine li_zeq (tgt := 63) hx hb dX3_learnt_21 (by decide) (fun c9 => ?_) (fun c9 => ?_)
        · skip
          refine lv_iinc (v := nI (k + 1)) (lv' := [(4, .int (nI (k + 1))), (3, .int (oI (lfo σ w sg k))), (0, .ref (a 0)), (1, .int (nI w)), (2, .int (nI sg))]) hx hb dX3_learnt_63 hl (k := 0) rfl (nI_inc _ _) (by decide) rfl (fun ls hl => ?_)
          refine lv_goto (tgt := 5) hx hb dX3_learnt_66 (by decide) ?_
          have hl9 : lv_has ls 5 [(4, .int (nI (k + 1))), (3, .int (oI (lfo σ w sg k))), (0, .ref (a 0)), (1, .int (nI w)), (2, .int (nI sg))] := lv_sub hl [0, 1, 2, 3, 4] rfl
          have hl9 : lv_has ls 5 [(4, .int (nI (k + 1))), (3, .int (oI (lfo σ w sg (k + 1)))), (0, .ref (a 0)), (1, .int (nI w)), (2, .int (nI sg))] := lv_re hl9 1 rfl (show oI (lfo σ w sg k) = oI (lfo σ w sg (k + 1)) from by first | exact congrArg oI (lfo_0 (by assumption)).symm | exact congrArg oI (lfo_1 (by assumption)).symm | exact (show oI (some k) = _ from congrArg oI (lfo_n (by assumption) (by assumption) hlf).symm) | exact (show oI (some k) = _ from congrArg oI (lfo_k (by assumption) (by assumption) hlf (by assumption)).symm) | exact (show oI (some j) = _ from congrArg oI (lfo_j hlf (by assumption)).symm))
          exact ih5 (k + 1) (by omega) (by omega) locs hS ls hl9
        · skip
          refine lv_aload_n hx hb dX3_learnt_24 rfl (lv_at hl 2 rfl) ?_
          refine li_gf3 hx hb hX3 hown hK hP 0 rfl 9 (by decide) f25 rfl dX3_learnt_25 ?_
          refine lv_bipush (v := nI 6) hx hb dX3_learnt_28 rfl ?_
          refine lv_iload hx hb dX3_learnt_30 (lv_at hl 0 rfl) ?_
          refine lv_imul hx hb dX3_learnt_32 ?_
          refine li_topi (pk_mul _ _) ?_
          refine lv_iload_n hx hb dX3_learnt_33 rfl (lv_at hl 4 rfl) ?_
          refine lv_iadd hx hb dX3_learnt_34 ?_
          refine li_topi (nI_add _ _) ?_
          refine li_ild hx hb hK hP 6 0 rfl rfl (by omega) (by decide) dX3_learnt_35 ?_
          refine lv_if_le (tgt := 63) hx hb dX3_learnt_36 (by decide) (fun c10 => ?_) (fun c10 => ?_)
          · skip
            refine lv_iinc (v := nI (k + 1)) (lv' := [(4, .int (nI (k + 1))), (3, .int (oI (lfo σ w sg k))), (0, .ref (a 0)), (1, .int (nI w)), (2, .int (nI sg))]) hx hb dX3_learnt_63 hl (k := 0) rfl (nI_inc _ _) (by decide) rfl (fun ls hl => ?_)
            refine lv_goto (tgt := 5) hx hb dX3_learnt_66 (by decide) ?_
            have hl9 : lv_has ls 5 [(4, .int (nI (k + 1))), (3, .int (oI (lfo σ w sg k))), (0, .ref (a 0)), (1, .int (nI w)), (2, .int (nI sg))] := lv_sub hl [0, 1, 2, 3, 4] rfl
            have hl9 : lv_has ls 5 [(4, .int (nI (k + 1))), (3, .int (oI (lfo σ w sg (k + 1)))), (0, .ref (a 0)), (1, .int (nI w)), (2, .int (nI sg))] := lv_re hl9 1 rfl (show oI (lfo σ w sg k) = oI (lfo σ w sg (k + 1)) from by first | exact congrArg oI (lfo_0 (by assumption)).symm | exact congrArg oI (lfo_1 (by assumption)).symm | exact (show oI (some k) = _ from congrArg oI (lfo_n (by assumption) (by assumption) hlf).symm) | exact (show oI (some k) = _ from congrArg oI (lfo_k (by assumption) (by assumption) hlf (by assumption)).symm) | exact (show oI (some j) = _ from congrArg oI (lfo_j hlf (by assumption)).symm))
            exact ih5 (k + 1) (by omega) (by omega) locs hS ls hl9
          · skip
            refine lv_iload_n hx hb dX3_learnt_39 rfl (lv_at hl 1 rfl) ?_
            refine lv_iconst (v := (-1)) hx hb dX3_learnt_40 rfl ?_
            refine lv_icmp_eq (tgt := 60) hx hb dX3_learnt_41 (by decide) (fun c11 => ?_) (fun c11 => ?_)
            · skip
              have hlf : lfo σ w sg k = none := oI_m1 (fun j h => lfo_lt h) (n := k) (by omega) c11
              refine lv_iload hx hb dX3_learnt_60 (lv_at hl 0 rfl) ?_
              refine lv_istore_n (lv' := [(3, .int (nI k)), (4, .int (nI k)), (0, .ref (a 0)), (1, .int (nI w)), (2, .int (nI sg))]) hx hb dX3_learnt_62 rfl hl (by decide) rfl (fun ls hl => ?_)
              refine lv_iinc (v := nI (k + 1)) (lv' := [(4, .int (nI (k + 1))), (3, .int (nI k)), (0, .ref (a 0)), (1, .int (nI w)), (2, .int (nI sg))]) hx hb dX3_learnt_63 hl (k := 1) rfl (nI_inc _ _) (by decide) rfl (fun ls hl => ?_)
              refine lv_goto (tgt := 5) hx hb dX3_learnt_66 (by decide) ?_
              have hl9 : lv_has ls 5 [(4, .int (nI (k + 1))), (3, .int (nI k)), (0, .ref (a 0)), (1, .int (nI w)), (2, .int (nI sg))] := lv_sub hl [0, 1, 2, 3, 4] rfl
              have hl9 : lv_has ls 5 [(4, .int (nI (k + 1))), (3, .int (oI (lfo σ w sg (k + 1)))), (0, .ref (a 0)), (1, .int (nI w)), (2, .int (nI sg))] := lv_re hl9 1 rfl (show nI k = oI (lfo σ w sg (k + 1)) from by first | exact congrArg oI (lfo_0 (by assumption)).symm | exact congrArg oI (lfo_1 (by assumption)).symm | exact (show oI (some k) = _ from congrArg oI (lfo_n (by assumption) (by assumption) hlf).symm) | exact (show oI (some k) = _ from congrArg oI (lfo_k (by assumption) (by assumption) hlf (by assumption)).symm) | exact (show oI (some j) = _ from congrArg oI (lfo_j hlf (by assumption)).symm))
              exact ih5 (k + 1) (by omega) (by omega) locs hS ls hl9
            · skip
              obtain ⟨j, hlf⟩ := oI_n c11
              have hj : j < k := lfo_lt hlf
              rw [hlf] at hl
              have hl : lv_has ls 5 [(4, .int (nI k)), (3, .int (nI j)), (0, .ref (a 0)), (1, .int (nI w)), (2, .int (nI sg))] := hl
              refine lv_aload_n hx hb dX3_learnt_44 rfl (lv_at hl 2 rfl) ?_
              refine lv_iload hx hb dX3_learnt_45 (lv_at hl 0 rfl) ?_
              refine lv_iconst (v := nI 2) hx hb dX3_learnt_47 rfl ?_
              refine roV (As := [.int (nI k), .int (nI 2)]) (q0 := 0) (ci := 3) hx hb hml hown hts (c_X3_pe l D cI cZ cL cO a th n nw ns σ η H k 2 (hB) (by omega) (by omega)) (cwV 2 hts gX3_learnt_X3_pe rfl rfl rfl (by decide +kernel) ⟨by decide, by decide⟩) hK hE hP rfl rfl rfl rfl hl.1 rfl (Nat.le_of_ble_eq_true rfl) hS dX3_learnt_48 ⟨Nat.zero_le _, Nat.zero_le _⟩ (fun locs hS => ?_)
              refine li_topi (show σ (pid 2) k = σ 5 k from rfl) ?_
              refine lv_aload_n hx hb dX3_learnt_51 rfl (lv_at hl 2 rfl) ?_
              refine lv_iload_n hx hb dX3_learnt_52 rfl (lv_at hl 1 rfl) ?_
              refine lv_iconst (v := nI 2) hx hb dX3_learnt_53 rfl ?_
              refine roV (As := [.int (nI j), .int (nI 2)]) (q0 := 0) (ci := 3) hx hb hml hown hts (c_X3_pe l D cI cZ cL cO a th n nw ns σ η H j 2 (hB) (by omega) (by omega)) (cwV 2 hts gX3_learnt_X3_pe rfl rfl rfl (by decide +kernel) ⟨by decide, by decide⟩) hK hE hP rfl rfl rfl rfl hl.1 rfl (Nat.le_of_ble_eq_true rfl) hS dX3_learnt_54 ⟨Nat.zero_le _, Nat.zero_le _⟩ (fun locs hS => ?_)
              refine li_topi (show σ (pid 2) j = σ 5 j from rfl) ?_
              refine lv_icmp_le (tgt := 63) hx hb dX3_learnt_57 (by decide) (fun c12 => ?_) (fun c12 => ?_)
              · skip
                refine lv_iinc (v := nI (k + 1)) (lv' := [(4, .int (nI (k + 1))), (3, .int (nI j)), (0, .ref (a 0)), (1, .int (nI w)), (2, .int (nI sg))]) hx hb dX3_learnt_63 hl (k := 0) rfl (nI_inc _ _) (by decide) rfl (fun ls hl => ?_)
                refine lv_goto (tgt := 5) hx hb dX3_learnt_66 (by decide) ?_
                have hl9 : lv_has ls 5 [(4, .int (nI (k + 1))), (3, .int (nI j)), (0, .ref (a 0)), (1, .int (nI w)), (2, .int (nI sg))] := lv_sub hl [0, 1, 2, 3, 4] rfl
                have hl9 : lv_has ls 5 [(4, .int (nI (k + 1))), (3, .int (oI (lfo σ w sg (k + 1)))), (0, .ref (a 0)), (1, .int (nI w)), (2, .int (nI sg))] := lv_re hl9 1 rfl (show nI j = oI (lfo σ w sg (k + 1)) from by first | exact congrArg oI (lfo_0 (by assumption)).symm | exact congrArg oI (lfo_1 (by assumption)).symm | exact (show oI (some k) = _ from congrArg oI (lfo_n (by assumption) (by assumption) hlf).symm) | exact (show oI (some k) = _ from congrArg oI (lfo_k (by assumption) (by assumption) hlf (by assumption)).symm) | exact (show oI (some j) = _ from congrArg oI (lfo_j hlf (by assumption)).symm))
                exact ih5 (k + 1) (by omega) (by omega) locs hS ls hl9
              · skip
                refine lv_iload hx hb dX3_learnt_60 (lv_at hl 0 rfl) ?_
                refine lv_istore_n (lv' := [(3, .int (nI k)), (4, .int (nI k)), (0, .ref (a 0)), (1, .int (nI w)), (2, .int (nI sg))]) hx hb dX3_learnt_62 rfl hl (by decide) rfl (fun ls hl => ?_)
                refine lv_iinc (v := nI (k + 1)) (lv' := [(4, .int (nI (k + 1))), (3, .int (nI k)), (0, .ref (a 0)), (1, .int (nI w)), (2, .int (nI sg))]) hx hb dX3_learnt_63 hl (k := 1) rfl (nI_inc _ _) (by decide) rfl (fun ls hl => ?_)
                refine lv_goto (tgt := 5) hx hb dX3_learnt_66 (by decide) ?_
                have hl9 : lv_has ls 5 [(4, .int (nI (k + 1))), (3, .int (nI k)), (0, .ref (a 0)), (1, .int (nI w)), (2, .int (nI sg))] := lv_sub hl [0, 1, 2, 3, 4] rfl
                have hl9 : lv_has ls 5 [(4, .int (nI (k + 1))), (3, .int (oI (lfo σ w sg (k + 1)))), (0, .ref (a 0)), (1, .int (nI w)), (2, .int (nI sg))] := lv_re hl9 1 rfl (show nI k = oI (lfo σ w sg (k + 1)) from by first | exact congrArg oI (lfo_0 (by assumption)).symm | exact congrArg oI (lfo_1 (by assumption)).symm | exact (show oI (some k) = _ from congrArg oI (lfo_n (by assumption) (by assumption) hlf).symm) | exact (show oI (some k) = _ from congrArg oI (lfo_k (by assumption) (by assumption) hlf (by assumption)).symm) | exact (show oI (some j) = _ from congrArg oI (lfo_j hlf (by assumption)).symm))
                exact ih5 (k + 1) (by omega) (by omega) locs hS ls hl9
  have hl9 : lv_has ls 5 [(4, .int (nI 0)), (3, .int (-1)), (0, .ref (a 0)), (1, .int (nI w)), (2, .int (nI sg))] := lv_sub hl [0, 1, 2, 3, 4] rfl
  have hl9 : lv_has ls 5 [(4, .int (nI 0)), (3, .int (oI (lfo σ w sg 0))), (0, .ref (a 0)), (1, .int (nI w)), (2, .int (nI sg))] := lv_re hl9 1 rfl (show (-1) = oI (lfo σ w sg 0) from rfl)
  exact L5_1 ((nw - 0) + 1) 0 (Nat.lt_succ_self _) (by omega) locs hS ls hl9
set_option maxHeartbeats 4000000 in
set_option maxRecDepth 100000 in
theorem c_X3_sing (l : Launch) (D : va_G) (cI cZ cL cO : ClassId) (a : Nat → Nat) (th : Int32) (n nw ns : Nat) (σ η : Sg) (H : Heap) (A : Nat → Prop) (hA : okP A a 13) (hB : n ≤ 10 ∧ nw ≤ 20 ∧ ns ≤ 6) : Met l yX3_sing wsX3_sing ({ frames := 4, cells := 0, slots := 0, locals := 89 } : Room) (ro_P D (T4 cI cZ cL cO) (wM cI cZ a th n nw ns σ η) H [.ref (a 0)]) (mu_Q D (wM cI cZ a th n nw ns (sgM σ (lnR σ nw ns nw 0 (η 0)) 120) (lnE σ nw ns η nw 0)) A) 0 0 A := by
  refine mu_of (cc := cX3_sing) (maxL := 3) (by decide) rfl (Nat.le_of_ble_eq_true rfl) ?_
  intro p e s m args below meth c Q ls locs hx hb hml hown hts hK hE hP hl hS hEnd
  have hl : lv_has ls 3 [(0, .ref (a 0))] := hl
  have hX3 : ∀ w ∈ wsX30, w.before args s = true := fun w h => hts w (List.mem_cons_of_mem _ (List.mem_append_right _ (h)))
  have f58 : (Cond.fieldLink RX3 58 "LanternWalkModel" "walkers" "I").before args s = true := hts _ (List.mem_of_getElem? (i := 1) rfl)
  have f25 : (Cond.fieldLink RX3 25 "LanternWalkModel" "known" "[I").before args s = true := hts _ (List.mem_of_getElem? (i := 4) rfl)
  have f31 : (Cond.fieldLink RX3 31 "LanternWalkModel" "learns" "[I").before args s = true := hts _ (List.mem_of_getElem? (i := 3) rfl)
  have f61 : (Cond.fieldLink RX3 61 "LanternWalkModel" "songs" "I").before args s = true := hts _ (List.mem_of_getElem? (i := 2) rfl)
  refine lv_iconst (v := nI 0) hx hb dX3_sing_0 rfl ?_
  refine lv_istore_n (lv' := [(1, .int (nI 0)), (0, .ref (a 0))]) hx hb dX3_sing_1 rfl hl (by decide) rfl (fun ls hl => ?_)
  have L2_1 : ∀ (fuel : Nat) (k : Nat), (nw - k) < fuel → (k ≤ nw) → ∀ (G : Heap) (locs : List Loc), va_P D vwCl (wM cI cZ a th n nw ns σ (lnE σ nw ns η k 0)) G → va_S A H G locs → ∀ (ls : Array Slot), lv_has ls 3 [(1, .int (nI k)), (0, .ref (a 0))] → W p l e ({ frames := 4, cells := 0, slots := 0, locals := 89 } : Room) s m args below meth c G locs 0 0 Q (F0 m 2 ls []) := by
    intro fuel
    induction fuel with
    | zero =>
      intro k hfuel
      exact absurd hfuel (Nat.not_lt_zero _)
    | succ fuel ih2 =>
      intro k hfuel2 hk G locs hP hS ls hl
      refine lv_iload_n hx hb dX3_sing_2 rfl (lv_at hl 0 rfl) ?_
      refine lv_aload_n hx hb dX3_sing_3 rfl (lv_at hl 1 rfl) ?_
      refine li_gf3 hx hb hX3 hown hK hP 0 rfl 5 (by decide) f58 rfl dX3_sing_4 ?_
      refine li_ge (tgt := 75) hx hb dX3_sing_7 (by decide) (by omega) (by omega) (fun c2 => ?_) (fun c2 => ?_)
      · skip
        refine lv_iconst (v := nI 0) hx hb dX3_sing_75 rfl ?_
        refine lv_istore_n (lv' := [(1, .int (nI 0)), (0, .ref (a 0))]) hx hb dX3_sing_76 rfl hl (by decide) rfl (fun ls hl => ?_)
        have L77_3 : ∀ (fuel : Nat) (k : Nat), (120 - k) < fuel → (k ≤ 120) → ∀ (G : Heap) (locs : List Loc), va_P D vwCl (wM cI cZ a th n nw ns (sgM σ (lnR σ nw ns nw 0 (η 0)) k) (lnE σ nw ns η nw 0)) G → va_S A H G locs → ∀ (ls : Array Slot), lv_has ls 3 [(1, .int (nI k)), (0, .ref (a 0))] → W p l e ({ frames := 4, cells := 0, slots := 0, locals := 89 } : Room) s m args below meth c G locs 0 0 Q (F0 m 77 ls []) := by
          intro fuel
          induction fuel with
          | zero =>
            intro k hfuel
            exact absurd hfuel (Nat.not_lt_zero _)
          | succ fuel ih77 =>
            intro k hfuel77 hk G locs hP hS ls hl
            refine lv_iload_n hx hb dX3_sing_77 rfl (lv_at hl 0 rfl) ?_
            refine lv_aload_n hx hb dX3_sing_78 rfl (lv_at hl 1 rfl) ?_
            refine li_gf3 hx hb hX3 hown hK hP 0 rfl 9 (by decide) f25 rfl dX3_sing_79 ?_
            refine li_alen hx hb hK hP 6 0 rfl rfl dX3_sing_82 ?_
            refine li_ge (tgt := 113) hx hb dX3_sing_83 (by decide) (by omega) (by omega) (fun c4 => ?_) (fun c4 => ?_)
            · skip
              have hw9 : sgM σ (lnR σ nw ns nw 0 (η 0)) k = sgM σ (lnR σ nw ns nw 0 (η 0)) 120 := by rw [show k = 120 by omega]
              have hP : va_P D vwCl (wM cI cZ a th n nw ns (sgM σ (lnR σ nw ns nw 0 (η 0)) 120) (lnE σ nw ns η nw 0)) G := Eq.mp (congrArg (fun z9 => va_P D vwCl (wM cI cZ a th n nw ns z9 (lnE σ nw ns η nw 0)) G) hw9) hP
              clear hw9
              exact hEnd 113 ls G locs dX3_sing_113 hP hS
            · skip
              refine lv_aload_n hx hb dX3_sing_86 rfl (lv_at hl 1 rfl) ?_
              refine li_gf3 hx hb hX3 hown hK hP 0 rfl 11 (by decide) f31 rfl dX3_sing_87 ?_
              refine lv_iload_n hx hb dX3_sing_90 rfl (lv_at hl 0 rfl) ?_
              refine li_ild hx hb hK hP 8 0 rfl rfl (by omega) (by decide) dX3_sing_91 ?_
              refine li_topi (show (lnE σ nw ns η nw 0) 0 k = (lnR σ nw ns nw 0 (η 0)) k from rfl) ?_
              refine lv_if_le (tgt := 107) hx hb dX3_sing_92 (by decide) (fun c5 => ?_) (fun c5 => ?_)
              · skip
                refine lv_iinc (v := nI (k + 1)) (lv' := [(1, .int (nI (k + 1))), (0, .ref (a 0))]) hx hb dX3_sing_107 hl (k := 0) rfl (nI_inc _ _) (by decide) rfl (fun ls hl => ?_)
                refine lv_goto (tgt := 77) hx hb dX3_sing_110 (by decide) ?_
                have hw9 : sgM σ (lnR σ nw ns nw 0 (η 0)) k = sgM σ (lnR σ nw ns nw 0 (η 0)) (k + 1) := by first | exact sgM_f (by assumption) | exact sgM_s (by unfold knM; rw [if_neg (by assumption)])
                have hP : va_P D vwCl (wM cI cZ a th n nw ns (sgM σ (lnR σ nw ns nw 0 (η 0)) (k + 1)) (lnE σ nw ns η nw 0)) G := Eq.mp (congrArg (fun z9 => va_P D vwCl (wM cI cZ a th n nw ns z9 (lnE σ nw ns η nw 0)) G) hw9) hP
                clear hw9
                have hl9 : lv_has ls 3 [(1, .int (nI (k + 1))), (0, .ref (a 0))] := lv_sub hl [0, 1] rfl
                exact ih77 (k + 1) (by omega) (by omega) G locs hP hS ls hl9
              · skip
                refine lv_aload_n hx hb dX3_sing_95 rfl (lv_at hl 1 rfl) ?_
                refine li_gf3 hx hb hX3 hown hK hP 0 rfl 9 (by decide) f25 rfl dX3_sing_96 ?_
                refine lv_iload_n hx hb dX3_sing_99 rfl (lv_at hl 0 rfl) ?_
                refine lv_aload_n hx hb dX3_sing_100 rfl (lv_at hl 1 rfl) ?_
                refine li_gf3 hx hb hX3 hown hK hP 0 rfl 11 (by decide) f31 rfl dX3_sing_101 ?_
                refine lv_iload_n hx hb dX3_sing_104 rfl (lv_at hl 0 rfl) ?_
                refine li_ild hx hb hK hP 8 0 rfl rfl (by omega) (by decide) dX3_sing_105 ?_
                refine li_topi (show (lnE σ nw ns η nw 0) 0 k = (lnR σ nw ns nw 0 (η 0)) k from rfl) ?_
                refine li_ist hx hb hK hP hA.DM hS 6 0 rfl rfl (by omega) (by decide) stM_16 dX3_sing_106 (fun G locs hP hS => ?_)
                refine lv_iinc (v := nI (k + 1)) (lv' := [(1, .int (nI (k + 1))), (0, .ref (a 0))]) hx hb dX3_sing_107 hl (k := 0) rfl (nI_inc _ _) (by decide) rfl (fun ls hl => ?_)
                refine lv_goto (tgt := 77) hx hb dX3_sing_110 (by decide) ?_
                have hw9 : up2 (sgM σ (lnR σ nw ns nw 0 (η 0)) k) 16 k ((lnR σ nw ns nw 0 (η 0)) k) = sgM σ (lnR σ nw ns nw 0 (η 0)) (k + 1) := by first | exact sgM_f (by assumption) | exact sgM_s (by unfold knM; rw [if_neg (by assumption)])
                have hP : va_P D vwCl (wM cI cZ a th n nw ns (sgM σ (lnR σ nw ns nw 0 (η 0)) (k + 1)) (lnE σ nw ns η nw 0)) G := Eq.mp (congrArg (fun z9 => va_P D vwCl (wM cI cZ a th n nw ns z9 (lnE σ nw ns η nw 0)) G) hw9) hP
                clear hw9
                have hl9 : lv_has ls 3 [(1, .int (nI (k + 1))), (0, .ref (a 0))] := lv_sub hl [0, 1] rfl
                exact ih77 (k + 1) (by omega) (by omega) G locs hP hS ls hl9
        have hw9 : σ = sgM σ (lnR σ nw ns nw 0 (η 0)) 0 := sgM_0.symm
        have hP : va_P D vwCl (wM cI cZ a th n nw ns (sgM σ (lnR σ nw ns nw 0 (η 0)) 0) (lnE σ nw ns η k 0)) G := Eq.mp (congrArg (fun z9 => va_P D vwCl (wM cI cZ a th n nw ns z9 (lnE σ nw ns η k 0)) G) hw9) hP
        clear hw9
        have hw9 : lnE σ nw ns η k 0 = lnE σ nw ns η nw 0 := by rw [show k = nw by omega]
        have hP : va_P D vwCl (wM cI cZ a th n nw ns (sgM σ (lnR σ nw ns nw 0 (η 0)) 0) (lnE σ nw ns η nw 0)) G := Eq.mp (congrArg (fun z9 => va_P D vwCl (wM cI cZ a th n nw ns (sgM σ (lnR σ nw ns nw 0 (η 0)) 0) z9) G) hw9) hP
        clear hw9
        have hl9 : lv_has ls 3 [(1, .int (nI 0)), (0, .ref (a 0))] := lv_sub hl [0, 1] rfl
        exact L77_3 ((120 - 0) + 1) 0 (Nat.lt_succ_self _) (by omega) G locs hP hS ls hl9
      · skip
        refine lv_iconst (v := nI 0) hx hb dX3_sing_10 rfl ?_
        refine lv_istore_n (lv' := [(2, .int (nI 0)), (1, .int (nI k)), (0, .ref (a 0))]) hx hb dX3_sing_11 rfl hl (by decide) rfl (fun ls hl => ?_)
        have L12_6 : ∀ (fuel : Nat) (sx : Nat), (ns - sx) < fuel → (sx ≤ ns) → ∀ (G : Heap) (locs : List Loc), va_P D vwCl (wM cI cZ a th n nw ns σ (lnE σ nw ns η k sx)) G → va_S A H G locs → ∀ (ls : Array Slot), lv_has ls 3 [(2, .int (nI sx)), (1, .int (nI k)), (0, .ref (a 0))] → W p l e ({ frames := 4, cells := 0, slots := 0, locals := 89 } : Room) s m args below meth c G locs 0 0 Q (F0 m 12 ls []) := by
          intro fuel
          induction fuel with
          | zero =>
            intro sx hfuel
            exact absurd hfuel (Nat.not_lt_zero _)
          | succ fuel ih12 =>
            intro sx hfuel12 hsx G locs hP hS ls hl
            refine lv_iload_n hx hb dX3_sing_12 rfl (lv_at hl 0 rfl) ?_
            refine lv_aload_n hx hb dX3_sing_13 rfl (lv_at hl 2 rfl) ?_
            refine li_gf3 hx hb hX3 hown hK hP 0 rfl 7 (by decide) f61 rfl dX3_sing_14 ?_
            refine li_ge (tgt := 69) hx hb dX3_sing_17 (by decide) (by omega) (by omega) (fun c7 => ?_) (fun c7 => ?_)
            · skip
              refine lv_iinc (v := nI (k + 1)) (lv' := [(1, .int (nI (k + 1))), (2, .int (nI sx)), (0, .ref (a 0))]) hx hb dX3_sing_69 hl (k := 1) rfl (nI_inc _ _) (by decide) rfl (fun ls hl => ?_)
              refine lv_goto (tgt := 2) hx hb dX3_sing_72 (by decide) ?_
              have hw9 : lnE σ nw ns η k sx = lnE σ nw ns η (k + 1) 0 := by rw [show sx = ns by omega]; exact lnE_n
              have hP : va_P D vwCl (wM cI cZ a th n nw ns σ (lnE σ nw ns η (k + 1) 0)) G := Eq.mp (congrArg (fun z9 => va_P D vwCl (wM cI cZ a th n nw ns σ z9) G) hw9) hP
              clear hw9
              have hl9 : lv_has ls 3 [(1, .int (nI (k + 1))), (0, .ref (a 0))] := lv_sub hl [0, 2] rfl
              exact ih2 (k + 1) (by omega) (by omega) G locs hP hS ls hl9
            · skip
              refine lv_aload_n hx hb dX3_sing_20 rfl (lv_at hl 2 rfl) ?_
              refine li_gf3 hx hb hX3 hown hK hP 0 rfl 11 (by decide) f31 rfl dX3_sing_21 ?_
              refine lv_bipush (v := nI 6) hx hb dX3_sing_24 rfl ?_
              refine lv_iload_n hx hb dX3_sing_26 rfl (lv_at hl 1 rfl) ?_
              refine lv_imul hx hb dX3_sing_27 ?_
              refine li_topi (pk_mul _ _) ?_
              refine lv_iload_n hx hb dX3_sing_28 rfl (lv_at hl 0 rfl) ?_
              refine lv_iadd hx hb dX3_sing_29 ?_
              refine li_topi (nI_add _ _) ?_
              refine lv_aload_n hx hb dX3_sing_30 rfl (lv_at hl 2 rfl) ?_
              refine lv_iload_n hx hb dX3_sing_31 rfl (lv_at hl 1 rfl) ?_
              refine roV (As := [.int (nI k)]) (q0 := 0) (ci := 3) hx hb hml hown hts (c_X3_walks l D cI cZ cL cO a th n nw ns σ (lnE σ nw ns η k sx) G k (hB) (by omega)) (cwV 1 hts gX3_sing_X3_walks rfl rfl rfl (by decide +kernel) ⟨by decide, by decide⟩) hK hE hP rfl rfl rfl rfl hl.1 rfl (Nat.le_of_ble_eq_true rfl) hS dX3_sing_32 ⟨Nat.zero_le _, Nat.zero_le _⟩ (fun locs hS => ?_)
              refine li_zeq (tgt := 61) hx hb dX3_sing_35 (by decide) (fun c8 => ?_) (fun c8 => ?_)
              · skip
                replace c8 := of_decide_eq_false c8
                refine lv_iconst (v := nI 0) hx hb dX3_sing_61 rfl ?_
                refine li_ist hx hb hK hP hA.DM hS 8 0 rfl rfl (by omega) (by decide) stE_0 dX3_sing_62 (fun G locs hP hS => ?_)
                refine lv_iinc (v := nI (sx + 1)) (lv' := [(2, .int (nI (sx + 1))), (1, .int (nI k)), (0, .ref (a 0))]) hx hb dX3_sing_63 hl (k := 0) rfl (nI_inc _ _) (by decide) rfl (fun ls hl => ?_)
                refine lv_goto (tgt := 12) hx hb dX3_sing_66 (by decide) ?_
                have hw9 : up2 (lnE σ nw ns η k sx) 0 (6 * k + sx) (nI 0) = lnE σ nw ns η k (sx + 1) := by first | exact lnE_s (by omega) (lv9_0 (by assumption)).symm | exact lnE_s (by omega) (lv9_1 (by assumption)).symm | exact lnE_s (by omega) (lv9_a (by assumption) (by assumption)).symm
                have hP : va_P D vwCl (wM cI cZ a th n nw ns σ (lnE σ nw ns η k (sx + 1))) G := Eq.mp (congrArg (fun z9 => va_P D vwCl (wM cI cZ a th n nw ns σ z9) G) hw9) hP
                clear hw9
                have hl9 : lv_has ls 3 [(2, .int (nI (sx + 1))), (1, .int (nI k)), (0, .ref (a 0))] := lv_sub hl [0, 1, 2] rfl
                exact ih12 (sx + 1) (by omega) (by omega) G locs hP hS ls hl9
              · skip
                replace c8 := of_decide_eq_true c8
                refine lv_aload_n hx hb dX3_sing_38 rfl (lv_at hl 2 rfl) ?_
                refine li_gf3 hx hb hX3 hown hK hP 0 rfl 9 (by decide) f25 rfl dX3_sing_39 ?_
                refine lv_bipush (v := nI 6) hx hb dX3_sing_42 rfl ?_
                refine lv_iload_n hx hb dX3_sing_44 rfl (lv_at hl 1 rfl) ?_
                refine lv_imul hx hb dX3_sing_45 ?_
                refine li_topi (pk_mul _ _) ?_
                refine lv_iload_n hx hb dX3_sing_46 rfl (lv_at hl 0 rfl) ?_
                refine lv_iadd hx hb dX3_sing_47 ?_
                refine li_topi (nI_add _ _) ?_
                refine li_ild hx hb hK hP 6 0 rfl rfl (by omega) (by decide) dX3_sing_48 ?_
                refine lv_if_ne (tgt := 61) hx hb dX3_sing_49 (by decide) (fun c9 => ?_) (fun c9 => ?_)
                · skip
                  refine lv_iconst (v := nI 0) hx hb dX3_sing_61 rfl ?_
                  refine li_ist hx hb hK hP hA.DM hS 8 0 rfl rfl (by omega) (by decide) stE_0 dX3_sing_62 (fun G locs hP hS => ?_)
                  refine lv_iinc (v := nI (sx + 1)) (lv' := [(2, .int (nI (sx + 1))), (1, .int (nI k)), (0, .ref (a 0))]) hx hb dX3_sing_63 hl (k := 0) rfl (nI_inc _ _) (by decide) rfl (fun ls hl => ?_)
                  refine lv_goto (tgt := 12) hx hb dX3_sing_66 (by decide) ?_
                  have hw9 : up2 (lnE σ nw ns η k sx) 0 (6 * k + sx) (nI 0) = lnE σ nw ns η k (sx + 1) := by first | exact lnE_s (by omega) (lv9_0 (by assumption)).symm | exact lnE_s (by omega) (lv9_1 (by assumption)).symm | exact lnE_s (by omega) (lv9_a (by assumption) (by assumption)).symm
                  have hP : va_P D vwCl (wM cI cZ a th n nw ns σ (lnE σ nw ns η k (sx + 1))) G := Eq.mp (congrArg (fun z9 => va_P D vwCl (wM cI cZ a th n nw ns σ z9) G) hw9) hP
                  clear hw9
                  have hl9 : lv_has ls 3 [(2, .int (nI (sx + 1))), (1, .int (nI k)), (0, .ref (a 0))] := lv_sub hl [0, 1, 2] rfl
                  exact ih12 (sx + 1) (by omega) (by omega) G locs hP hS ls hl9
                · skip
                  refine lv_aload_n hx hb dX3_sing_52 rfl (lv_at hl 2 rfl) ?_
                  refine lv_iload_n hx hb dX3_sing_53 rfl (lv_at hl 1 rfl) ?_
                  refine lv_iload_n hx hb dX3_sing_54 rfl (lv_at hl 0 rfl) ?_
                  refine roV (As := [.int (nI k), .int (nI sx)]) (q0 := 0) (ci := 3) hx hb hml hown hts (c_X3_learnt l D cI cZ cL cO a th n nw ns σ (lnE σ nw ns η k sx) G k sx (hB) (by omega) (by omega)) (cwV 2 hts gX3_sing_X3_learnt rfl rfl rfl (by decide +kernel) ⟨by decide, by decide⟩) hK hE hP rfl rfl rfl rfl hl.1 rfl (Nat.le_of_ble_eq_true rfl) hS dX3_sing_55 ⟨Nat.zero_le _, Nat.zero_le _⟩ (fun locs hS => ?_)
                  refine lv_goto (tgt := 62) hx hb dX3_sing_58 (by decide) ?_
                  refine li_ist hx hb hK hP hA.DM hS 8 0 rfl rfl (by omega) (by decide) stE_0 dX3_sing_62 (fun G locs hP hS => ?_)
                  refine lv_iinc (v := nI (sx + 1)) (lv' := [(2, .int (nI (sx + 1))), (1, .int (nI k)), (0, .ref (a 0))]) hx hb dX3_sing_63 hl (k := 0) rfl (nI_inc _ _) (by decide) rfl (fun ls hl => ?_)
                  refine lv_goto (tgt := 12) hx hb dX3_sing_66 (by decide) ?_
                  have hw9 : up2 (lnE σ nw ns η k sx) 0 (6 * k + sx) (lrn σ nw k sx) = lnE σ nw ns η k (sx + 1) := by first | exact lnE_s (by omega) (lv9_0 (by assumption)).symm | exact lnE_s (by omega) (lv9_1 (by assumption)).symm | exact lnE_s (by omega) (lv9_a (by assumption) (by assumption)).symm
                  have hP : va_P D vwCl (wM cI cZ a th n nw ns σ (lnE σ nw ns η k (sx + 1))) G := Eq.mp (congrArg (fun z9 => va_P D vwCl (wM cI cZ a th n nw ns σ z9) G) hw9) hP
                  clear hw9
                  have hl9 : lv_has ls 3 [(2, .int (nI (sx + 1))), (1, .int (nI k)), (0, .ref (a 0))] := lv_sub hl [0, 1, 2] rfl
                  exact ih12 (sx + 1) (by omega) (by omega) G locs hP hS ls hl9
        have hl9 : lv_has ls 3 [(2, .int (nI 0)), (1, .int (nI k)), (0, .ref (a 0))] := lv_sub hl [0, 1, 2] rfl
        exact L12_6 ((ns - 0) + 1) 0 (Nat.lt_succ_self _) (by omega) G locs hP hS ls hl9
  have hw9 : η = lnE σ nw ns η 0 0 := lnE_0.symm
  have hP : va_P D vwCl (wM cI cZ a th n nw ns σ (lnE σ nw ns η 0 0)) H := Eq.mp (congrArg (fun z9 => va_P D vwCl (wM cI cZ a th n nw ns σ z9) H) hw9) hP
  clear hw9
  have hl9 : lv_has ls 3 [(1, .int (nI 0)), (0, .ref (a 0))] := lv_sub hl [0, 1] rfl
  exact L2_1 ((nw - 0) + 1) 0 (Nat.lt_succ_self _) (by omega) H locs hP hS ls hl9
