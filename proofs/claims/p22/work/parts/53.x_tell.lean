/-! the class: what it tells -/
set_option maxHeartbeats 4000000 in
set_option maxRecDepth 100000 in
theorem c_X2_tellOfStretch (l : Launch) (D : va_G) (cI cZ cL cO : ClassId) (a : Nat → Nat) (n pl nw ns : Nat) (σ κ σ' κ' : Sg) (H : Heap) (sx : Nat) (q : Nat) (hB : n ≤ 10 ∧ pl ≤ 200 ∧ nw ≤ 20 ∧ ns ≤ 6) (hsx : sx < n) (hq : q < 6) : Met l yX2_tellOfStretch wsX2_tellOfStretch ({ frames := 1, cells := 0, slots := 0, locals := 25 } : Room) (ro_P D (T4 cI cZ cL cO) (wX cI cZ a n pl nw ns σ κ σ' κ') H [.ref (a 40), .int (nI sx), .int (nI q)]) (ro_Q (stT n nw σ sx q) H) 0 0 (fun _ => False) := by
  refine ro_of (cc := cX2_tellOfStretch) (maxL := 3) (by decide) rfl (Nat.le_of_ble_eq_true rfl) rfl ?_
  intro p e s m args below meth c Q ls locs hx hb hml hown hts hK hE hP hl hS hEnd
  have hl : lv_has ls 3 [(0, .ref (a 40)), (1, .int (nI sx)), (2, .int (nI q))] := hl
  have hX0 : ∀ w ∈ wsX00, w.before args s = true := fun w h => hts w (List.mem_cons_of_mem _ (List.mem_append_right _ (h)))
  have hX1 : ∀ w ∈ wsX10, w.before args s = true := fun w h => hts w (List.mem_cons_of_mem _ (List.mem_append_left _ (List.mem_append_right _ (h))))
  have hX2 : ∀ w ∈ wsX20, w.before args s = true := fun w h => hts w (List.mem_cons_of_mem _ (List.mem_append_left _ (List.mem_append_left _ (List.mem_append_right _ (h)))))
  have f10 : (Cond.fieldLink RX2 10 "LanternWalk" "setting" "LLanternWalk$Setting;").before args s = true := hts _ (List.mem_of_getElem? (i := 1) rfl)
  have f202 : (Cond.fieldLink RX2 202 "LanternWalk$Setting" "length" "[I").before args s = true := hts _ (List.mem_of_getElem? (i := 2) rfl)
  have f21 : (Cond.fieldLink RX2 21 "LanternWalk" "now" "LLanternWalk$Parade;").before args s = true := hts _ (List.mem_of_getElem? (i := 3) rfl)
  have f208 : (Cond.fieldLink RX2 208 "LanternWalk$Setting" "first" "[I").before args s = true := hts _ (List.mem_of_getElem? (i := 4) rfl)
  have f214 : (Cond.fieldLink RX2 214 "LanternWalk$Parade" "passed" "[I").before args s = true := hts _ (List.mem_of_getElem? (i := 5) rfl)
  have f217 : (Cond.fieldLink RX2 217 "LanternWalk$Parade" "stopped" "[I").before args s = true := hts _ (List.mem_of_getElem? (i := 6) rfl)
  refine lv_iload_n hx hb dX2_tellOfStretch_0 rfl (lv_at hl 2 rfl) ?_
  rcases (show q = 0 ∨ q = 1 ∨ q = 2 ∨ q = 3 ∨ q = 4 ∨ q = 5 from by omega) with rfl | rfl | rfl | rfl | rfl | rfl
  · refine lv_tableIn (off := 35) (tgt := 36) hx hb dX2_tellOfStretch_1 (by decide) (by decide) rfl (by decide) ?_
    refine lv_aload_n hx hb dX2_tellOfStretch_36 rfl (lv_at hl 0 rfl) ?_
    refine li_gf2 hx hb hX2 hown hK hP 40 rfl 0 (by decide) f10 rfl dX2_tellOfStretch_37 ?_
    refine li_gf1 hx hb hX1 hown hK hP 16 rfl 2 (by decide) f202 rfl dX2_tellOfStretch_40 ?_
    refine lv_iload_n hx hb dX2_tellOfStretch_43 rfl (lv_at hl 1 rfl) ?_
    refine li_ild hx hb hK hP 17 0 rfl rfl (by omega) (by decide) dX2_tellOfStretch_44 ?_
    refine li_topi (show σ 0 sx = stT n nw σ sx 0 from by rfl) ?_
    exact hEnd 45 ls locs dX2_tellOfStretch_45 hS
  · refine lv_tableIn (off := 45) (tgt := 46) hx hb dX2_tellOfStretch_1 (by decide) (by decide) rfl (by decide) ?_
    refine lv_aload_n hx hb dX2_tellOfStretch_46 rfl (lv_at hl 0 rfl) ?_
    refine li_gf2 hx hb hX2 hown hK hP 40 rfl 1 (by decide) f21 rfl dX2_tellOfStretch_47 ?_
    refine lv_iload_n hx hb dX2_tellOfStretch_50 rfl (lv_at hl 1 rfl) ?_
    refine roV (As := [.int (nI sx)]) (q0 := 0) (ci := 0) hx hb hml hown hts (c_X0_letsThrough l D cI cZ cL cO a n pl nw ns σ κ H sx (hB) (by omega)) (cwV 1 hts gX2_tellOfStretch_X0_letsThrough rfl rfl rfl (by decide +kernel) ⟨by decide, by decide⟩) hK hE (hP.sub (ws' := wP cI cZ a n pl nw ns σ κ) i24 rfl) rfl rfl rfl rfl hl.1 rfl (Nat.le_of_ble_eq_true rfl) hS dX2_tellOfStretch_51 ⟨Nat.zero_le _, Nat.zero_le _⟩ (fun locs hS => ?_)
    refine li_topi (show lt_ σ sx 2 = stT n nw σ sx 1 from by rfl) ?_
    exact hEnd 54 ls locs dX2_tellOfStretch_54 hS
  · refine lv_tableIn (off := 54) (tgt := 55) hx hb dX2_tellOfStretch_1 (by decide) (by decide) rfl (by decide) ?_
    refine lv_aload_n hx hb dX2_tellOfStretch_55 rfl (lv_at hl 0 rfl) ?_
    refine li_gf2 hx hb hX2 hown hK hP 40 rfl 0 (by decide) f10 rfl dX2_tellOfStretch_56 ?_
    refine li_gf1 hx hb hX1 hown hK hP 16 rfl 4 (by decide) f208 rfl dX2_tellOfStretch_59 ?_
    refine lv_iload_n hx hb dX2_tellOfStretch_62 rfl (lv_at hl 1 rfl) ?_
    refine li_ild hx hb hK hP 19 0 rfl rfl (by omega) (by decide) dX2_tellOfStretch_63 ?_
    refine li_topi (show σ 2 sx = stT n nw σ sx 2 from by rfl) ?_
    exact hEnd 64 ls locs dX2_tellOfStretch_64 hS
  · refine lv_tableIn (off := 64) (tgt := 65) hx hb dX2_tellOfStretch_1 (by decide) (by decide) rfl (by decide) ?_
    refine lv_aload_n hx hb dX2_tellOfStretch_65 rfl (lv_at hl 0 rfl) ?_
    refine li_gf2 hx hb hX2 hown hK hP 40 rfl 1 (by decide) f21 rfl dX2_tellOfStretch_66 ?_
    refine lv_iload_n hx hb dX2_tellOfStretch_69 rfl (lv_at hl 1 rfl) ?_
    refine roV (As := [.int (nI sx)]) (q0 := 0) (ci := 0) hx hb hml hown hts (c_X0_walkersOn l D cI cZ cL cO a n pl nw ns σ κ H sx (hB) (by omega)) (cwV 1 hts gX2_tellOfStretch_X0_walkersOn rfl rfl rfl (by decide +kernel) ⟨by decide, by decide⟩) hK hE (hP.sub (ws' := wP cI cZ a n pl nw ns σ κ) i24 rfl) rfl rfl rfl rfl hl.1 rfl (Nat.le_of_ble_eq_true rfl) hS dX2_tellOfStretch_70 ⟨Nat.zero_le _, Nat.zero_le _⟩ (fun locs hS => ?_)
    refine li_topi (show nI (on σ nw sx) = stT n nw σ sx 3 from by rfl) ?_
    exact hEnd 73 ls locs dX2_tellOfStretch_73 hS
  · refine lv_tableIn (off := 73) (tgt := 74) hx hb dX2_tellOfStretch_1 (by decide) (by decide) rfl (by decide) ?_
    refine lv_aload_n hx hb dX2_tellOfStretch_74 rfl (lv_at hl 0 rfl) ?_
    refine li_gf2 hx hb hX2 hown hK hP 40 rfl 1 (by decide) f21 rfl dX2_tellOfStretch_75 ?_
    refine li_gf0 hx hb hX0 hown hK hP 0 rfl 3 (by decide) f214 rfl dX2_tellOfStretch_78 ?_
    refine lv_iload_n hx hb dX2_tellOfStretch_81 rfl (lv_at hl 1 rfl) ?_
    refine li_ild hx hb hK hP 2 0 rfl rfl (by omega) (by decide) dX2_tellOfStretch_82 ?_
    refine li_topi (show σ 8 sx = stT n nw σ sx 4 from by rfl) ?_
    exact hEnd 83 ls locs dX2_tellOfStretch_83 hS
  · refine lv_tableOut (tgt := 84) hx hb dX2_tellOfStretch_1 (by decide) (by decide) ?_
    refine lv_aload_n hx hb dX2_tellOfStretch_84 rfl (lv_at hl 0 rfl) ?_
    refine li_gf2 hx hb hX2 hown hK hP 40 rfl 1 (by decide) f21 rfl dX2_tellOfStretch_85 ?_
    refine li_gf0 hx hb hX0 hown hK hP 0 rfl 4 (by decide) f217 rfl dX2_tellOfStretch_88 ?_
    refine lv_iload_n hx hb dX2_tellOfStretch_91 rfl (lv_at hl 1 rfl) ?_
    refine li_ild hx hb hK hP 3 0 rfl rfl (by omega) (by decide) dX2_tellOfStretch_92 ?_
    refine li_topi (show σ 9 sx = stT n nw σ sx 5 from by rfl) ?_
    exact hEnd 93 ls locs dX2_tellOfStretch_93 hS
set_option maxHeartbeats 4000000 in
set_option maxRecDepth 100000 in
theorem c_X2_tellOfWalker (l : Launch) (D : va_G) (cI cZ cL cO : ClassId) (a : Nat → Nat) (n pl nw ns : Nat) (σ κ σ' κ' : Sg) (H : Heap) (w : Nat) (q : Nat) (hB : n ≤ 10 ∧ pl ≤ 200 ∧ nw ≤ 20 ∧ ns ≤ 6) (hw : w < nw) (hq : q < 9) (hz : bz σ) : Met l yX2_tellOfWalker wsX2_tellOfWalker ({ frames := 2, cells := 0, slots := 0, locals := 45 } : Room) (ro_P D (T4 cI cZ cL cO) (wX cI cZ a n pl nw ns σ κ σ' κ') H [.ref (a 40), .int (nI w), .int (nI q)]) (ro_Q (waT nw σ w q) H) 0 0 (fun _ => False) := by
  refine ro_of (cc := cX2_tellOfWalker) (maxL := 3) (by decide) rfl (Nat.le_of_ble_eq_true rfl) rfl ?_
  intro p e s m args below meth c Q ls locs hx hb hml hown hts hK hE hP hl hS hEnd
  have hl : lv_has ls 3 [(0, .ref (a 40)), (1, .int (nI w)), (2, .int (nI q))] := hl
  have hX0 : ∀ w ∈ wsX00, w.before args s = true := fun w h => hts w (List.mem_cons_of_mem _ (List.mem_append_right _ (h)))
  have hX1 : ∀ w ∈ wsX10, w.before args s = true := fun w h => hts w (List.mem_cons_of_mem _ (List.mem_append_left _ (List.mem_append_right _ (h))))
  have hX2 : ∀ w ∈ wsX20, w.before args s = true := fun w h => hts w (List.mem_cons_of_mem _ (List.mem_append_left _ (List.mem_append_left _ (List.mem_append_right _ (h)))))
  have f10 : (Cond.fieldLink RX2 10 "LanternWalk" "setting" "LLanternWalk$Setting;").before args s = true := hts _ (List.mem_of_getElem? (i := 1) rfl)
  have f220 : (Cond.fieldLink RX2 220 "LanternWalk$Setting" "pace" "[I").before args s = true := hts _ (List.mem_of_getElem? (i := 2) rfl)
  have f21 : (Cond.fieldLink RX2 21 "LanternWalk" "now" "LLanternWalk$Parade;").before args s = true := hts _ (List.mem_of_getElem? (i := 3) rfl)
  have f81 : (Cond.fieldLink RX2 81 "LanternWalk$Parade" "wick" "[I").before args s = true := hts _ (List.mem_of_getElem? (i := 4) rfl)
  have f223 : (Cond.fieldLink RX2 223 "LanternWalk$Setting" "voice" "[I").before args s = true := hts _ (List.mem_of_getElem? (i := 5) rfl)
  have f84 : (Cond.fieldLink RX2 84 "LanternWalk$Parade" "burns" "[Z").before args s = true := hts _ (List.mem_of_getElem? (i := 6) rfl)
  have f95 : (Cond.fieldLink RX2 95 "LanternWalk$Parade" "stage" "[I").before args s = true := hts _ (List.mem_of_getElem? (i := 7) rfl)
  have f226 : (Cond.fieldLink RX2 226 "LanternWalk$Parade" "place" "[I").before args s = true := hts _ (List.mem_of_getElem? (i := 8) rfl)
  have f232 : (Cond.fieldLink RX2 232 "LanternWalk$Parade" "dark" "[I").before args s = true := hts _ (List.mem_of_getElem? (i := 9) rfl)
  have f235 : (Cond.fieldLink RX2 235 "LanternWalk$Parade" "cameHome" "[I").before args s = true := hts _ (List.mem_of_getElem? (i := 10) rfl)
  refine lv_iload_n hx hb dX2_tellOfWalker_0 rfl (lv_at hl 2 rfl) ?_
  rcases (show q = 0 ∨ q = 1 ∨ q = 2 ∨ q = 3 ∨ q = 4 ∨ q = 5 ∨ q = 6 ∨ q = 7 ∨ q = 8 from by omega) with rfl | rfl | rfl | rfl | rfl | rfl | rfl | rfl | rfl
  · refine lv_tableIn (off := 47) (tgt := 48) hx hb dX2_tellOfWalker_1 (by decide) (by decide) rfl (by decide) ?_
    refine lv_aload_n hx hb dX2_tellOfWalker_48 rfl (lv_at hl 0 rfl) ?_
    refine li_gf2 hx hb hX2 hown hK hP 40 rfl 0 (by decide) f10 rfl dX2_tellOfWalker_49 ?_
    refine li_gf1 hx hb hX1 hown hK hP 16 rfl 7 (by decide) f220 rfl dX2_tellOfWalker_52 ?_
    refine lv_iload_n hx hb dX2_tellOfWalker_55 rfl (lv_at hl 1 rfl) ?_
    refine li_ild hx hb hK hP 21 0 rfl rfl (by omega) (by decide) dX2_tellOfWalker_56 ?_
    refine li_topi (show σ 4 w = waT nw σ w 0 from by first | rfl | exact bz_0 (by assumption) | exact bz_1 hz (by assumption)) ?_
    exact hEnd 57 ls locs dX2_tellOfWalker_57 hS
  · refine lv_tableIn (off := 57) (tgt := 58) hx hb dX2_tellOfWalker_1 (by decide) (by decide) rfl (by decide) ?_
    refine lv_aload_n hx hb dX2_tellOfWalker_58 rfl (lv_at hl 0 rfl) ?_
    refine li_gf2 hx hb hX2 hown hK hP 40 rfl 1 (by decide) f21 rfl dX2_tellOfWalker_59 ?_
    refine li_gf0 hx hb hX0 hown hK hP 0 rfl 5 (by decide) f81 rfl dX2_tellOfWalker_62 ?_
    refine lv_iload_n hx hb dX2_tellOfWalker_65 rfl (lv_at hl 1 rfl) ?_
    refine li_ild hx hb hK hP 4 0 rfl rfl (by omega) (by decide) dX2_tellOfWalker_66 ?_
    refine li_topi (show σ 10 w = waT nw σ w 1 from by first | rfl | exact bz_0 (by assumption) | exact bz_1 hz (by assumption)) ?_
    exact hEnd 67 ls locs dX2_tellOfWalker_67 hS
  · refine lv_tableIn (off := 67) (tgt := 68) hx hb dX2_tellOfWalker_1 (by decide) (by decide) rfl (by decide) ?_
    refine lv_aload_n hx hb dX2_tellOfWalker_68 rfl (lv_at hl 0 rfl) ?_
    refine li_gf2 hx hb hX2 hown hK hP 40 rfl 0 (by decide) f10 rfl dX2_tellOfWalker_69 ?_
    refine li_gf1 hx hb hX1 hown hK hP 16 rfl 8 (by decide) f223 rfl dX2_tellOfWalker_72 ?_
    refine lv_iload_n hx hb dX2_tellOfWalker_75 rfl (lv_at hl 1 rfl) ?_
    refine li_ild hx hb hK hP 22 0 rfl rfl (by omega) (by decide) dX2_tellOfWalker_76 ?_
    refine li_topi (show σ 5 w = waT nw σ w 2 from by first | rfl | exact bz_0 (by assumption) | exact bz_1 hz (by assumption)) ?_
    exact hEnd 77 ls locs dX2_tellOfWalker_77 hS
  · refine lv_tableIn (off := 77) (tgt := 78) hx hb dX2_tellOfWalker_1 (by decide) (by decide) rfl (by decide) ?_
    refine lv_aload_n hx hb dX2_tellOfWalker_78 rfl (lv_at hl 0 rfl) ?_
    refine li_gf2 hx hb hX2 hown hK hP 40 rfl 1 (by decide) f21 rfl dX2_tellOfWalker_79 ?_
    refine li_gf0 hx hb hX0 hown hK hP 0 rfl 6 (by decide) f84 rfl dX2_tellOfWalker_82 ?_
    refine lv_iload_n hx hb dX2_tellOfWalker_85 rfl (lv_at hl 1 rfl) ?_
    refine li_zld hx hb hK hP 5 1 rfl rfl (by omega) (by decide) dX2_tellOfWalker_86 ?_
    refine lv_if_eq (tgt := 94) hx hb dX2_tellOfWalker_87 (by decide) (fun c1 => ?_) (fun c1 => ?_)
    · skip
      refine lv_iconst (v := nI 0) hx hb dX2_tellOfWalker_94 rfl ?_
      refine li_topi (show nI 0 = waT nw σ w 3 from by first | rfl | exact bz_0 (by assumption) | exact bz_1 hz (by assumption)) ?_
      exact hEnd 95 ls locs dX2_tellOfWalker_95 hS
    · skip
      refine lv_iconst (v := nI 1) hx hb dX2_tellOfWalker_90 rfl ?_
      refine lv_goto (tgt := 95) hx hb dX2_tellOfWalker_91 (by decide) ?_
      refine li_topi (show nI 1 = waT nw σ w 3 from by first | rfl | exact bz_0 (by assumption) | exact bz_1 hz (by assumption)) ?_
      exact hEnd 95 ls locs dX2_tellOfWalker_95 hS
  · refine lv_tableIn (off := 95) (tgt := 96) hx hb dX2_tellOfWalker_1 (by decide) (by decide) rfl (by decide) ?_
    refine lv_aload_n hx hb dX2_tellOfWalker_96 rfl (lv_at hl 0 rfl) ?_
    refine li_gf2 hx hb hX2 hown hK hP 40 rfl 1 (by decide) f21 rfl dX2_tellOfWalker_97 ?_
    refine li_gf0 hx hb hX0 hown hK hP 0 rfl 7 (by decide) f95 rfl dX2_tellOfWalker_100 ?_
    refine lv_iload_n hx hb dX2_tellOfWalker_103 rfl (lv_at hl 1 rfl) ?_
    refine li_ild hx hb hK hP 6 0 rfl rfl (by omega) (by decide) dX2_tellOfWalker_104 ?_
    refine li_topi (show σ 12 w = waT nw σ w 4 from by first | rfl | exact bz_0 (by assumption) | exact bz_1 hz (by assumption)) ?_
    exact hEnd 105 ls locs dX2_tellOfWalker_105 hS
  · refine lv_tableIn (off := 105) (tgt := 106) hx hb dX2_tellOfWalker_1 (by decide) (by decide) rfl (by decide) ?_
    refine lv_aload_n hx hb dX2_tellOfWalker_106 rfl (lv_at hl 0 rfl) ?_
    refine li_gf2 hx hb hX2 hown hK hP 40 rfl 1 (by decide) f21 rfl dX2_tellOfWalker_107 ?_
    refine li_gf0 hx hb hX0 hown hK hP 0 rfl 8 (by decide) f226 rfl dX2_tellOfWalker_110 ?_
    refine lv_iload_n hx hb dX2_tellOfWalker_113 rfl (lv_at hl 1 rfl) ?_
    refine li_ild hx hb hK hP 7 0 rfl rfl (by omega) (by decide) dX2_tellOfWalker_114 ?_
    refine li_topi (show σ 13 w = waT nw σ w 5 from by first | rfl | exact bz_0 (by assumption) | exact bz_1 hz (by assumption)) ?_
    exact hEnd 115 ls locs dX2_tellOfWalker_115 hS
  · refine lv_tableIn (off := 115) (tgt := 116) hx hb dX2_tellOfWalker_1 (by decide) (by decide) rfl (by decide) ?_
    refine lv_aload_n hx hb dX2_tellOfWalker_116 rfl (lv_at hl 0 rfl) ?_
    refine li_gf2 hx hb hX2 hown hK hP 40 rfl 1 (by decide) f21 rfl dX2_tellOfWalker_117 ?_
    refine lv_iload_n hx hb dX2_tellOfWalker_120 rfl (lv_at hl 1 rfl) ?_
    refine roV (As := [.int (nI w)]) (q0 := 0) (ci := 0) hx hb hml hown hts (c_X0_neighboursOf l D cI cZ cL cO a n pl nw ns σ κ H w (hB) (by omega)) (cwV 1 hts gX2_tellOfWalker_X0_neighboursOf rfl rfl rfl (by decide +kernel) ⟨by decide, by decide⟩) hK hE (hP.sub (ws' := wP cI cZ a n pl nw ns σ κ) i24 rfl) rfl rfl rfl rfl hl.1 rfl (Nat.le_of_ble_eq_true rfl) hS dX2_tellOfWalker_121 ⟨Nat.zero_le _, Nat.zero_le _⟩ (fun locs hS => ?_)
    refine li_topi (show nI (nb σ nw w) = waT nw σ w 6 from by first | rfl | exact bz_0 (by assumption) | exact bz_1 hz (by assumption)) ?_
    exact hEnd 124 ls locs dX2_tellOfWalker_124 hS
  · refine lv_tableIn (off := 124) (tgt := 125) hx hb dX2_tellOfWalker_1 (by decide) (by decide) rfl (by decide) ?_
    refine lv_aload_n hx hb dX2_tellOfWalker_125 rfl (lv_at hl 0 rfl) ?_
    refine li_gf2 hx hb hX2 hown hK hP 40 rfl 1 (by decide) f21 rfl dX2_tellOfWalker_126 ?_
    refine li_gf0 hx hb hX0 hown hK hP 0 rfl 9 (by decide) f232 rfl dX2_tellOfWalker_129 ?_
    refine lv_iload_n hx hb dX2_tellOfWalker_132 rfl (lv_at hl 1 rfl) ?_
    refine li_ild hx hb hK hP 8 0 rfl rfl (by omega) (by decide) dX2_tellOfWalker_133 ?_
    refine li_topi (show σ 14 w = waT nw σ w 7 from by first | rfl | exact bz_0 (by assumption) | exact bz_1 hz (by assumption)) ?_
    exact hEnd 134 ls locs dX2_tellOfWalker_134 hS
  · refine lv_tableOut (tgt := 135) hx hb dX2_tellOfWalker_1 (by decide) (by decide) ?_
    refine lv_aload_n hx hb dX2_tellOfWalker_135 rfl (lv_at hl 0 rfl) ?_
    refine li_gf2 hx hb hX2 hown hK hP 40 rfl 1 (by decide) f21 rfl dX2_tellOfWalker_136 ?_
    refine li_gf0 hx hb hX0 hown hK hP 0 rfl 10 (by decide) f235 rfl dX2_tellOfWalker_139 ?_
    refine lv_iload_n hx hb dX2_tellOfWalker_142 rfl (lv_at hl 1 rfl) ?_
    refine li_ild hx hb hK hP 9 0 rfl rfl (by omega) (by decide) dX2_tellOfWalker_143 ?_
    refine li_topi (show σ 15 w = waT nw σ w 8 from by first | rfl | exact bz_0 (by assumption) | exact bz_1 hz (by assumption)) ?_
    exact hEnd 144 ls locs dX2_tellOfWalker_144 hS
set_option maxHeartbeats 4000000 in
set_option maxRecDepth 100000 in
theorem c_X2_tellOfAll (l : Launch) (D : va_G) (cI cZ cL cO : ClassId) (a : Nat → Nat) (n pl nw ns : Nat) (σ κ σ' κ' : Sg) (H : Heap) (q : Nat) (hB : n ≤ 10 ∧ pl ≤ 200 ∧ nw ≤ 20 ∧ ns ≤ 6) (hq : q < 11) : Met l yX2_tellOfAll wsX2_tellOfAll ({ frames := 2, cells := 0, slots := 0, locals := 45 } : Room) (ro_P D (T4 cI cZ cL cO) (wX cI cZ a n pl nw ns σ κ σ' κ') H [.ref (a 40), .int (nI q)]) (ro_Q (alT n pl nw ns σ q) H) 0 0 (fun _ => False) := by
  refine ro_of (cc := cX2_tellOfAll) (maxL := 2) (by decide) rfl (Nat.le_of_ble_eq_true rfl) rfl ?_
  intro p e s m args below meth c Q ls locs hx hb hml hown hts hK hE hP hl hS hEnd
  have hl : lv_has ls 2 [(0, .ref (a 40)), (1, .int (nI q))] := hl
  have hX0 : ∀ w ∈ wsX00, w.before args s = true := fun w h => hts w (List.mem_cons_of_mem _ (List.mem_append_left _ (List.mem_append_right _ (h))))
  have hX1 : ∀ w ∈ wsX10, w.before args s = true := fun w h => hts w (List.mem_cons_of_mem _ (List.mem_append_right _ (h)))
  have hX2 : ∀ w ∈ wsX20, w.before args s = true := fun w h => hts w (List.mem_cons_of_mem _ (List.mem_append_left _ (List.mem_append_left _ (List.mem_append_right _ (h)))))
  have f21 : (Cond.fieldLink RX2 21 "LanternWalk" "now" "LLanternWalk$Parade;").before args s = true := hts _ (List.mem_of_getElem? (i := 1) rfl)
  have f39 : (Cond.fieldLink RX2 39 "LanternWalk$Parade" "step" "I").before args s = true := hts _ (List.mem_of_getElem? (i := 2) rfl)
  have f10 : (Cond.fieldLink RX2 10 "LanternWalk" "setting" "LLanternWalk$Setting;").before args s = true := hts _ (List.mem_of_getElem? (i := 3) rfl)
  have f35 : (Cond.fieldLink RX2 35 "LanternWalk$Setting" "stretches" "I").before args s = true := hts _ (List.mem_of_getElem? (i := 4) rfl)
  have f238 : (Cond.fieldLink RX2 238 "LanternWalk$Setting" "places" "I").before args s = true := hts _ (List.mem_of_getElem? (i := 5) rfl)
  have f73 : (Cond.fieldLink RX2 73 "LanternWalk$Setting" "walkers" "I").before args s = true := hts _ (List.mem_of_getElem? (i := 6) rfl)
  have f107 : (Cond.fieldLink RX2 107 "LanternWalk$Setting" "songs" "I").before args s = true := hts _ (List.mem_of_getElem? (i := 7) rfl)
  refine lv_iload_n hx hb dX2_tellOfAll_0 rfl (lv_at hl 1 rfl) ?_
  rcases (show q = 0 ∨ q = 1 ∨ q = 2 ∨ q = 3 ∨ q = 4 ∨ q = 5 ∨ q = 6 ∨ q = 7 ∨ q = 8 ∨ q = 9 ∨ q = 10 from by omega) with rfl | rfl | rfl | rfl | rfl | rfl | rfl | rfl | rfl | rfl | rfl
  · refine lv_tableIn (off := 55) (tgt := 56) hx hb dX2_tellOfAll_1 (by decide) (by decide) rfl (by decide) ?_
    refine lv_aload_n hx hb dX2_tellOfAll_56 rfl (lv_at hl 0 rfl) ?_
    refine li_gf2 hx hb hX2 hown hK hP 40 rfl 1 (by decide) f21 rfl dX2_tellOfAll_57 ?_
    refine li_gf0 hx hb hX0 hown hK hP 0 rfl 1 (by decide) f39 rfl dX2_tellOfAll_60 ?_
    refine li_topi (show σ 17 0 = alT n pl nw ns σ 0 from by rfl) ?_
    exact hEnd 63 ls locs dX2_tellOfAll_63 hS
  · refine lv_tableIn (off := 63) (tgt := 64) hx hb dX2_tellOfAll_1 (by decide) (by decide) rfl (by decide) ?_
    refine lv_aload_n hx hb dX2_tellOfAll_64 rfl (lv_at hl 0 rfl) ?_
    refine li_gf2 hx hb hX2 hown hK hP 40 rfl 0 (by decide) f10 rfl dX2_tellOfAll_65 ?_
    refine li_gf1 hx hb hX1 hown hK hP 16 rfl 0 (by decide) f35 rfl dX2_tellOfAll_68 ?_
    refine li_topi (show nI n = alT n pl nw ns σ 1 from by rfl) ?_
    exact hEnd 71 ls locs dX2_tellOfAll_71 hS
  · refine lv_tableIn (off := 71) (tgt := 72) hx hb dX2_tellOfAll_1 (by decide) (by decide) rfl (by decide) ?_
    refine lv_aload_n hx hb dX2_tellOfAll_72 rfl (lv_at hl 0 rfl) ?_
    refine li_gf2 hx hb hX2 hown hK hP 40 rfl 0 (by decide) f10 rfl dX2_tellOfAll_73 ?_
    refine li_gf1 hx hb hX1 hown hK hP 16 rfl 1 (by decide) f238 rfl dX2_tellOfAll_76 ?_
    refine li_topi (show nI pl = alT n pl nw ns σ 2 from by rfl) ?_
    exact hEnd 79 ls locs dX2_tellOfAll_79 hS
  · refine lv_tableIn (off := 79) (tgt := 80) hx hb dX2_tellOfAll_1 (by decide) (by decide) rfl (by decide) ?_
    refine lv_aload_n hx hb dX2_tellOfAll_80 rfl (lv_at hl 0 rfl) ?_
    refine li_gf2 hx hb hX2 hown hK hP 40 rfl 0 (by decide) f10 rfl dX2_tellOfAll_81 ?_
    refine li_gf1 hx hb hX1 hown hK hP 16 rfl 6 (by decide) f73 rfl dX2_tellOfAll_84 ?_
    refine li_topi (show nI nw = alT n pl nw ns σ 3 from by rfl) ?_
    exact hEnd 87 ls locs dX2_tellOfAll_87 hS
  · refine lv_tableIn (off := 87) (tgt := 88) hx hb dX2_tellOfAll_1 (by decide) (by decide) rfl (by decide) ?_
    refine lv_aload_n hx hb dX2_tellOfAll_88 rfl (lv_at hl 0 rfl) ?_
    refine li_gf2 hx hb hX2 hown hK hP 40 rfl 1 (by decide) f21 rfl dX2_tellOfAll_89 ?_
    refine lv_iconst (v := nI 0) hx hb dX2_tellOfAll_92 rfl ?_
    refine roV (As := [.int (nI 0)]) (q0 := 0) (ci := 0) hx hb hml hown hts (c_X0_howManyAre l D cI cZ cL cO a n pl nw ns σ κ H (nI 0) (hB)) (cwV 1 hts gX2_tellOfAll_X0_howManyAre rfl rfl rfl (by decide +kernel) ⟨by decide, by decide⟩) hK hE (hP.sub (ws' := wP cI cZ a n pl nw ns σ κ) i24 rfl) rfl rfl rfl rfl hl.1 rfl (Nat.le_of_ble_eq_true rfl) hS dX2_tellOfAll_93 ⟨Nat.zero_le _, Nat.zero_le _⟩ (fun locs hS => ?_)
    refine li_topi (show nI (hm σ nw (nI 0)) = alT n pl nw ns σ 4 from by rfl) ?_
    exact hEnd 96 ls locs dX2_tellOfAll_96 hS
  · refine lv_tableIn (off := 96) (tgt := 97) hx hb dX2_tellOfAll_1 (by decide) (by decide) rfl (by decide) ?_
    refine lv_aload_n hx hb dX2_tellOfAll_97 rfl (lv_at hl 0 rfl) ?_
    refine li_gf2 hx hb hX2 hown hK hP 40 rfl 1 (by decide) f21 rfl dX2_tellOfAll_98 ?_
    refine lv_iconst (v := nI 1) hx hb dX2_tellOfAll_101 rfl ?_
    refine roV (As := [.int (nI 1)]) (q0 := 0) (ci := 0) hx hb hml hown hts (c_X0_howManyAre l D cI cZ cL cO a n pl nw ns σ κ H (nI 1) (hB)) (cwV 1 hts gX2_tellOfAll_X0_howManyAre rfl rfl rfl (by decide +kernel) ⟨by decide, by decide⟩) hK hE (hP.sub (ws' := wP cI cZ a n pl nw ns σ κ) i24 rfl) rfl rfl rfl rfl hl.1 rfl (Nat.le_of_ble_eq_true rfl) hS dX2_tellOfAll_102 ⟨Nat.zero_le _, Nat.zero_le _⟩ (fun locs hS => ?_)
    refine li_topi (show nI (hm σ nw (nI 1)) = alT n pl nw ns σ 5 from by rfl) ?_
    exact hEnd 105 ls locs dX2_tellOfAll_105 hS
  · refine lv_tableIn (off := 105) (tgt := 106) hx hb dX2_tellOfAll_1 (by decide) (by decide) rfl (by decide) ?_
    refine lv_aload_n hx hb dX2_tellOfAll_106 rfl (lv_at hl 0 rfl) ?_
    refine li_gf2 hx hb hX2 hown hK hP 40 rfl 1 (by decide) f21 rfl dX2_tellOfAll_107 ?_
    refine lv_iconst (v := nI 2) hx hb dX2_tellOfAll_110 rfl ?_
    refine roV (As := [.int (nI 2)]) (q0 := 0) (ci := 0) hx hb hml hown hts (c_X0_howManyAre l D cI cZ cL cO a n pl nw ns σ κ H (nI 2) (hB)) (cwV 1 hts gX2_tellOfAll_X0_howManyAre rfl rfl rfl (by decide +kernel) ⟨by decide, by decide⟩) hK hE (hP.sub (ws' := wP cI cZ a n pl nw ns σ κ) i24 rfl) rfl rfl rfl rfl hl.1 rfl (Nat.le_of_ble_eq_true rfl) hS dX2_tellOfAll_111 ⟨Nat.zero_le _, Nat.zero_le _⟩ (fun locs hS => ?_)
    refine li_topi (show nI (hm σ nw (nI 2)) = alT n pl nw ns σ 6 from by rfl) ?_
    exact hEnd 114 ls locs dX2_tellOfAll_114 hS
  · refine lv_tableIn (off := 114) (tgt := 115) hx hb dX2_tellOfAll_1 (by decide) (by decide) rfl (by decide) ?_
    refine lv_aload_n hx hb dX2_tellOfAll_115 rfl (lv_at hl 0 rfl) ?_
    refine li_gf2 hx hb hX2 hown hK hP 40 rfl 1 (by decide) f21 rfl dX2_tellOfAll_116 ?_
    refine roV (As := []) (q0 := 0) (ci := 0) hx hb hml hown hts (c_X0_lanternsBurning l D cI cZ cL cO a n pl nw ns σ κ H (hB)) (cwV 0 hts gX2_tellOfAll_X0_lanternsBurning rfl rfl rfl (by decide +kernel) ⟨by decide, by decide⟩) hK hE (hP.sub (ws' := wP cI cZ a n pl nw ns σ κ) i24 rfl) rfl rfl rfl rfl hl.1 rfl (Nat.le_of_ble_eq_true rfl) hS dX2_tellOfAll_119 ⟨Nat.zero_le _, Nat.zero_le _⟩ (fun locs hS => ?_)
    refine li_topi (show nI (lb σ nw) = alT n pl nw ns σ 7 from by rfl) ?_
    exact hEnd 122 ls locs dX2_tellOfAll_122 hS
  · refine lv_tableIn (off := 122) (tgt := 123) hx hb dX2_tellOfAll_1 (by decide) (by decide) rfl (by decide) ?_
    refine lv_aload_n hx hb dX2_tellOfAll_123 rfl (lv_at hl 0 rfl) ?_
    refine li_gf2 hx hb hX2 hown hK hP 40 rfl 0 (by decide) f10 rfl dX2_tellOfAll_124 ?_
    refine li_gf1 hx hb hX1 hown hK hP 16 rfl 9 (by decide) f107 rfl dX2_tellOfAll_127 ?_
    refine li_topi (show nI ns = alT n pl nw ns σ 8 from by rfl) ?_
    exact hEnd 130 ls locs dX2_tellOfAll_130 hS
  · refine lv_tableIn (off := 130) (tgt := 131) hx hb dX2_tellOfAll_1 (by decide) (by decide) rfl (by decide) ?_
    refine lv_aload_n hx hb dX2_tellOfAll_131 rfl (lv_at hl 0 rfl) ?_
    refine li_gf2 hx hb hX2 hown hK hP 40 rfl 1 (by decide) f21 rfl dX2_tellOfAll_132 ?_
    refine roV (As := []) (q0 := 0) (ci := 0) hx hb hml hown hts (c_X0_foremostPlace l D cI cZ cL cO a n pl nw ns σ κ H (hB)) (cwV 0 hts gX2_tellOfAll_X0_foremostPlace rfl rfl rfl (by decide +kernel) ⟨by decide, by decide⟩) hK hE (hP.sub (ws' := wP cI cZ a n pl nw ns σ κ) i24 rfl) rfl rfl rfl rfl hl.1 rfl (Nat.le_of_ble_eq_true rfl) hS dX2_tellOfAll_135 ⟨Nat.zero_le _, Nat.zero_le _⟩ (fun locs hS => ?_)
    refine li_topi (show fm σ nw = alT n pl nw ns σ 9 from by rfl) ?_
    exact hEnd 138 ls locs dX2_tellOfAll_138 hS
  · refine lv_tableOut (tgt := 139) hx hb dX2_tellOfAll_1 (by decide) (by decide) ?_
    refine lv_aload_n hx hb dX2_tellOfAll_139 rfl (lv_at hl 0 rfl) ?_
    refine li_gf2 hx hb hX2 hown hK hP 40 rfl 1 (by decide) f21 rfl dX2_tellOfAll_140 ?_
    refine roV (As := []) (q0 := 0) (ci := 0) hx hb hml hown hts (c_X0_paradeLength l D cI cZ cL cO a n pl nw ns σ κ H (hB)) (cwV 0 hts gX2_tellOfAll_X0_paradeLength rfl rfl rfl (by decide +kernel) ⟨by decide, by decide⟩) hK hE (hP.sub (ws' := wP cI cZ a n pl nw ns σ κ) i24 rfl) rfl rfl rfl rfl hl.1 rfl (Nat.le_of_ble_eq_true rfl) hS dX2_tellOfAll_143 ⟨Nat.zero_le _, Nat.zero_le _⟩ (fun locs hS => ?_)
    refine li_topi (show fm σ nw - ls_ σ (fm σ nw) nw = alT n pl nw ns σ 10 from by rfl) ?_
    exact hEnd 146 ls locs dX2_tellOfAll_146 hS
set_option maxHeartbeats 4000000 in
set_option maxRecDepth 100000 in
theorem c_X2_light (l : Launch) (D : va_G) (cI cZ cL cO : ClassId) (a : Nat → Nat) (n pl nw ns : Nat) (σ κ σ' κ' : Sg) (H : Heap) (A : Nat → Prop) (hA : okP A a 41) (hB : n ≤ 10 ∧ pl ≤ 200 ∧ nw ≤ 20 ∧ ns ≤ 6) : Met l yX2_light wsX2_light ({ frames := 1, cells := 0, slots := 0, locals := 23 } : Room) (ro_P D (T4 cI cZ cL cO) (wX cI cZ a n pl nw ns σ κ σ' κ') H [.ref (a 40)]) (md_Q D (liV nw σ) (wX cI cZ a n pl nw ns σ κ σ' κ') A) 0 0 A := by
  refine mdz_of (cc := cX2_light) (maxL := 2) (by decide) rfl (Nat.le_of_ble_eq_true rfl) ?_
  intro p e s m args below meth c Q ls locs hx hb hml hown hts hK hE hP hl hS hEnd
  have hl : lv_has ls 2 [(0, .ref (a 40))] := hl
  have hX2 : ∀ w ∈ wsX20, w.before args s = true := fun w h => hts w (List.mem_cons_of_mem _ (List.mem_append_left _ (List.mem_append_left _ (List.mem_append_right _ (h)))))
  have f21 : (Cond.fieldLink RX2 21 "LanternWalk" "now" "LLanternWalk$Parade;").before args s = true := hts _ (List.mem_of_getElem? (i := 1) rfl)
  refine lv_aload_n hx hb dX2_light_0 rfl (lv_at hl 0 rfl) ?_
  refine li_gf2 hx hb hX2 hown hK hP 40 rfl 1 (by decide) f21 rfl dX2_light_1 ?_
  refine lv_iconst (v := nI 1) hx hb dX2_light_4 rfl ?_
  refine roV (As := [.int (nI 1)]) (q0 := 0) (ci := 0) hx hb hml hown hts (c_X0_howManyAre l D cI cZ cL cO a n pl nw ns σ κ H (nI 1) (hB)) (cwV 1 hts gX2_light_X0_howManyAre rfl rfl rfl (by decide +kernel) ⟨by decide, by decide⟩) hK hE (hP.sub (ws' := wP cI cZ a n pl nw ns σ κ) i24 rfl) rfl rfl rfl rfl hl.1 rfl (Nat.le_of_ble_eq_true rfl) hS dX2_light_5 ⟨Nat.zero_le _, Nat.zero_le _⟩ (fun locs hS => ?_)
  refine lv_istore_n (lv' := [(1, .int (nI (hm σ nw (nI 1)))), (0, .ref (a 40))]) hx hb dX2_light_8 rfl hl (by decide) rfl (fun ls hl => ?_)
  refine lv_iload_n hx hb dX2_light_9 rfl (lv_at hl 0 rfl) ?_
  refine li_ne0 (tgt := 15) hx hb dX2_light_10 (by decide) (by first | omega | (have := hm_le (σ := σ) (nw := nw) (x := nI 1); omega)) (fun c1 => ?_) (fun c1 => ?_)
  · skip
    refine lv_aload_n hx hb dX2_light_15 rfl (lv_at hl 1 rfl) ?_
    refine li_gf2 hx hb hX2 hown hK hP 40 rfl 1 (by decide) f21 rfl dX2_light_16 ?_
    refine roV (As := []) (q0 := 0) (ci := 0) hx hb hml hown hts (c_X0_lanternsBurning l D cI cZ cL cO a n pl nw ns σ κ H (hB)) (cwV 0 hts gX2_light_X0_lanternsBurning rfl rfl rfl (by decide +kernel) ⟨by decide, by decide⟩) hK hE (hP.sub (ws' := wP cI cZ a n pl nw ns σ κ) i24 rfl) rfl rfl rfl rfl hl.1 rfl (Nat.le_of_ble_eq_true rfl) hS dX2_light_19 ⟨Nat.zero_le _, Nat.zero_le _⟩ (fun locs hS => ?_)
    refine lv_i2d hx hb dX2_light_22 ?_
    refine lv_iload_n hx hb dX2_light_23 rfl (lv_at hl 0 rfl) ?_
    refine lv_i2d hx hb dX2_light_24 ?_
    refine lv_ddiv hx hb dX2_light_25 (nd_li hB.2.2.1 (by omega)) ?_
    refine li_topd (show FP.ddiv (FP.i2d (nI (lb σ nw))) (FP.i2d (nI (hm σ nw (nI 1)))) = liV nw σ from by unfold liV; first | rw [if_pos (by omega)] | rw [if_neg (by omega)]) ?_
    exact hEnd 26 ls H locs dX2_light_26 hP hS
  · skip
    refine lv_dconst0 hx hb dX2_light_13 ?_
    refine li_topd (show FP.dconst0 = liV nw σ from by unfold liV; first | rw [if_pos (by omega)] | rw [if_neg (by omega)]) ?_
    exact hEnd 14 ls H locs dX2_light_14 hP hS
