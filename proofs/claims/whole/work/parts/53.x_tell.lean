/-! the class: what it tells -/
set_option maxHeartbeats 4000000 in
set_option maxRecDepth 100000 in
theorem c_X2_tellOfStretch (l : Launch) (D : va_G) (cI cZ cL cO : ClassId) (a : Nat → Nat) (n pl nw ns : Nat) (σ κ σ' κ' : Sg) (H : Heap) (sx : Nat) (q : Nat) (hB : n ≤ 10 ∧ pl ≤ 200 ∧ nw ≤ 20 ∧ ns ≤ 6) (hsx : sx < n) (hq : q < 6) : Met l yX2_tellOfStretch wsX2_tellOfStretch ({ frames := 1, cells := 0, slots := 0, locals := 25 } : Room) (ro_P D (T4 cI cZ cL cO) (wX cI cZ a n pl nw ns σ κ σ' κ') H [.ref (a 40), .int (nI sx), .int (nI q)]) (ro_Q (stT n nw σ sx q) H) 0 0 (fun _ => False) := by
  refine ro_of (cc := cX2_tellOfStretch) (maxL := 3) (by decide) rfl (Nat.le_of_ble_eq_true rfl) rfl ?_
  intro p e s m args below meth c Q ls locs hx hb hml hown hts hK hE hP hl hS hEnd
  have hl : lv_has ls 3 [(0, .ref (a 40)), (1, .int (nI sx)), (2, .int (nI q))] := hl
  have hX0 : ∀ w ∈ wsX00, w.before args s = true := fun w h => hts w (List.mem_cons_of_mem _ (List.mem_append_right _ (h)))
  have hX1 : ∀ w ∈ wsX10, w.before args s = true := fun w h => hts w (List.mem_cons_of_mem _ (List.mem_append_left _ (List.mem_append_right _ (h))))
  have hX2 : ∀ w ∈ wsX20, w.before args s = true := fun w h => hts w (List.mem_cons_of_mem _ (List.mem_append_left _ (List.mem_append_left _ (List.mem_append_right _ (h)))))
  have f10 : (Cond.fieldLink RX2 10 "LanternWalk" "setting" "LLanternWalk$Setting;").before args s = true := hts _ (List.mem_of_getElem? (i := 1) rfl)
  have f202 : (Cond.fieldLink RX2 202 "LanternWalk$Setting" "length" "[I").before args s = true := hts _ (List.mem_of_getElem? (i := 2) rfl)
  have f21 : (Cond.fieldLink RX2 21 "LanternWalk" "now" "LLanternWalk$Parade;").before args s = true := hts _ (List.mem_of_getElem? (i := 3) rfl)
  have f208 : (Cond.fieldLink RX2 208 "LanternWalk$Setting" "first" "[I").before args s = true := hts _ (List.mem_of_getElem? (i := 4) rfl)
  have f214 : (Cond.fieldLink RX2 214 "LanternWalk$Parade" "passed" "[I").before args s = true := hts _ (List.mem_of_getElem? (i := 5) rfl)
  have f217 : (Cond.fieldLink RX2 217 "LanternWalk$Parade" "stopped" "[I").before args s = true := hts _ (List.mem_of_getElem? (i := 6) rfl)
  refine lv_iload_n hx hb dX2_tellOfStretch_0 rfl (lv_at hl 2 rfl) ?_
  rcases (show q = 0 ∨ q = 1 ∨ q = 2 ∨ q = 3 ∨ q = 4 ∨ q = 5 from by omega) with rfl | rfl | rfl | rfl | rfl | rfl
  · refine lv_tableIn (off := 35) (tgt := 36) hx hb dX2_tellOfStretch_1 (by decide) (by decide) rfl (by decide) ?_
    refine lv_aload_n hx hb dX2_tellOfStretch_36 rfl (lv_at hl 0 rfl) ?_
    refine li_gf2 hx hb hX2 hown hK hP 40 rfl 0 (by decide) f10 rfl dX2_tellOfStretch_37 ?_
    refine li_gf1 hx hb hX1 hown hK hP 16 rfl 2 (by decide) f202 rfl dX2_tellOfStretch_40 ?_
    refine lv_iload_n hx hb dX2_tellOfStretch_43 rfl (lv_at hl 1 rfl) ?_
    refine li_ild hx hb hK hP 17 0 rfl rfl (by omega) (by decide) dX2_tellOfStretch_44 ?_
    refine li_topi (show σ 0 sx = stT n nw σ sx 0 from by rfl) ?_
    exact hEnd 45 ls locs dX2_tellOfStretch_45 hS
  · refine lv_tableIn (off := 45) (tgt := 46) hx hb dX2_tellOfStretch_1 (by decide) (by decide) rfl (by decide) ?_
    refine lv_aload_n hx hb dX2_tellOfStretch_46 rfl (lv_at hl 0 rfl) ?_
    refine li_gf2 hx hb hX2 hown hK hP 40 rfl 1 (by decide) f21 rfl dX2_tellOfStretch_47 ?_
    refine lv_iload_n hx hb dX2_tellOfStretch_50 rfl (lv_at hl 1 rfl) ?_
    refine roV (As := [.int (nI sx)]) (q0 := 0) (ci := 0) hx hb hml hown hts (c_X0_letsThrough l D cI cZ cL cO a n pl nw ns σ κ H sx (hB) (by omega)) (cwV 1 hts gX2_tellOfStretch_X0_letsThrough rfl rfl rfl (by decide +kernel) ⟨by decide, by decide⟩) hK hE (hP.sub (ws' := wP cI cZ a n pl nw ns σ κ) i24 rfl) rfl rfl rfl rfl hl.1 rfl (Nat.le_of_ble_eq_true rfl) hS dX2_tellOfStretch_51 ⟨Nat.zero_le _, Nat.zero_le _⟩ (fun locs hS => ?_)
    refine li_topi (show lt_ σ sx 2 = stT n nw σ sx 1 from by rfl) ?_
    exact hEnd 54 ls locs dX2_tellOfStretch_54 hS
  · refine lv_tableIn (off := 54) (tgt := 55) hx hb dX2_tellOfStretch_1 (by decide) (by decide) rfl (by decide) ?_
    refine lv_aload_n hx hb dX2_tellOfStretch_55 rfl (lv_at hl 0 rfl) ?_
    refine li_gf2 hx hb hX2 hown hK hP 40 rfl 0 (by decide) f10 rfl dX2_tellOfStretch_56 ?_
    refine li_gf1 hx hb hX1 hown hK hP 16 rfl 4 (by decide) f208 rfl dX2_tellOfStretch_59 ?_
    refine lv_iload_n hx hb dX2_tellOfStretch_62 rfl (lv_at hl 1 rfl) ?_
    refine li_ild hx hb hK hP 19 0 rfl rfl (by omega) (by decide) dX2_tellOfStretch_63 ?_
    refine li_topi (show σ 2 sx = stT n nw σ sx 2 from by rfl) ?_
    exact hEnd 64 ls locs dX2_tellOfStretch_64 hS
  · refine lv_tableIn (off := 64) (tgt := 65) hx hb dX2_tellOfStretch_1 (by decide) (by decide) rfl (by decide) ?_
    refine lv_aload_n hx hb dX2_tellOfStretch_65 rfl (lv_at hl 0 rfl) ?_
    refine li_gf2 hx hb hX2 hown hK hP 40 rfl 1 (by decide) f21 rfl dX2_tellOfStretch_66 ?_
    refine lv_iload_n hx hb dX2_tellOfStretch_69 rfl (lv_at hl 1 rfl) ?_
    refine roV (As := [.int (nI sx)]) (q0 := 0) (ci := 0) hx hb hml hown hts (c_X0_walkersOn l D cI cZ cL cO a n pl nw ns σ κ H sx (hB) (by omega)) (cwV 1 hts gX2_tellOfStretch_X0_walkersOn rfl rfl rfl (by decide +kernel) ⟨by decide, by decide⟩) hK hE (hP.sub (ws' := wP cI cZ a n pl nw ns σ κ) i24 rfl) rfl rfl rfl rfl hl.1 rfl (Nat.le_of_ble_eq_true rfl) hS dX2_tellOfStretch_70 ⟨Nat.zero_le _, Nat.zero_le _⟩ (fun locs hS => ?_)
    refine li_topi (show nI (on σ nw sx) = stT n nw σ sx 3 from by rfl) ?_
    exact hEnd 73 ls locs dX2_tellOfStretch_73 hS
  · refine lv_tableIn (off := 73) (tgt := 74) hx hb dX2_tellOfStretch_1 (by decide) (by decide) rfl (by decide) ?_
    refine lv_aload_n hx hb dX2_tellOfStretch_74 rfl (lv_at hl 0 rfl) ?_
    refine li_gf2 hx hb hX2 hown hK hP 40 rfl 1 (by decide) f21 rfl dX2_tellOfStretch_75 ?_
    refine li_gf0 hx hb hX0 hown hK hP 0 rfl 3 (by decide) f214 rfl dX2_tellOfStretch_78 ?_
    refine lv_iload_n hx hb dX2_tellOfStretch_81 rfl (lv_at hl 1 rfl) ?_
    refine li_ild hx hb hK hP 2 0 rfl rfl (by omega) (by decide) dX2_tellOfStretch_82 ?_
    refine li_topi (show σ 8 sx = stT n nw σ sx 4 from by rfl) ?_
    exact hEnd 83 ls locs dX2_tellOfStretch_83 hS
  · refine lv_tableOut (tgt := 84) hx hb dX2_tellOfStretch_1 (by decide) (by decide) ?_
    refine lv_aload_n hx hb dX2_tellOfStretch_84 rfl (lv_at hl 0 rfl) ?_
    refine li_gf2 hx hb hX2 hown hK hP 40 rfl 1 (by decide) f21 rfl dX2_tellOfStretch_85 ?_
    refine li_gf0 hx hb hX0 hown hK hP 0 rfl 4 (by decide) f217 rfl dX2_tellOfStretch_88 ?_
    refine lv_iload_n hx hb dX2_tellOfStretch_91 rfl (lv_at hl 1 rfl) ?_
    refine li_ild hx hb hK hP 3 0 rfl rfl (by omega) (by decide) dX2_tellOfStretch_92 ?_
    refine li_topi (show σ 9 sx = stT n nw σ sx 5 from by rfl) ?_
    exact hEnd 93 ls locs dX2_tellOfStretch_93 hS
set_option maxHeartbeats 4000000 in
set_option maxRecDepth 100000 in
theorem c_X2_tellOfWalker (l : Launch) (D : va_G) (cI cZ cL cO : ClassId) (a : Nat → Nat) (n pl nw ns : Nat) (σ κ σ' κ' : Sg) (H : Heap) (w : Nat) (q : Nat) (hB : n ≤ 10 ∧ pl ≤ 200 ∧ nw ≤ 20 ∧ ns ≤ 6) (hw : w < nw) (hq : q < 9) (hz : bz σ) : Met l yX2_tellOfWalker wsX2_tellOfWalker ({ frames := 2, cells := 0, slots := 0, locals := 45 } : Room) (ro_P D (T4 cI cZ cL cO) (wX cI cZ a n pl nw ns σ κ σ' κ') H [.ref (a 40), .int (nI w), .int (nI q)]) (ro_Q (waT nw σ w q) H) 0 0 (fun _ => False) := by
  refine ro_of (cc := cX2_tellOfWalker) (maxL := 3) (by decide) rfl (Nat.le_of_ble_eq_true rfl) rfl ?_
  intro p e s m args below meth c Q ls locs hx hb hml hown hts hK hE hP hl hS hEnd
  have hl : lv_has ls 3 [(0, .ref (a 40)), (1, .int (nI w)), (2, .int (nI q))] := hl
  have hX0 : ∀ w ∈ wsX00, w.before args s = true := fun w h => hts w (List.mem_cons_of_mem _ (List.mem_append_right _ (h)))
  have hX1 : ∀ w ∈ wsX10, w.before args s = true := fun w h => hts w (List.mem_cons_of_mem _ (List.mem_append_left _ (List.mem_append_right _ (h))))
  have hX2 : ∀ w ∈ wsX20, w.before args s = true := fun w h => hts w (List.mem_cons_of_mem _ (List.mem_append_left _ (List.mem_append_left _ (List.mem_append_right _ (h)))))
  have f10 : (Cond.fieldLink RX2 10 "LanternWalk" "setting" "LLanternWalk$Setting;").before args s = true := hts _ (List.mem_of_getElem? (i := 1) rfl)
  have f220 : (Cond.fieldLink RX2 220 "LanternWalk$Setting" "pace" "[I").before args s = true := hts _ (List.mem_of_getElem? (i := 2) rfl)
  have f21 : (Cond.fieldLink RX2 21 "LanternWalk" "now" "LLanternWalk$Parade;").before args s = true := hts _ (List.mem_of_getElem? (i := 3) rfl)
  have f81 : (Cond.fieldLink RX2 81 "LanternWalk$Parade" "wick" "[I").before args s = true := hts _ (List.mem_of_getElem? (i := 4) rfl)
  have f223 : (Cond.fieldLink RX2 223 "LanternWalk$Setting" "voice" "[I").before args s = true := hts _ (List.mem_of_getElem? (i := 5) rfl)
  have f84 : (Cond.fieldLink RX2 84 "LanternWalk$Parade" "burns" "[Z").before args s = true := hts _ (List.mem_of_getElem? (i := 6) rfl)
  have f95 : (Cond.fieldLink RX2 95 "LanternWalk$Parade" "stage" "[I").before args s = true := hts _ (List.mem_of_getElem? (i := 7) rfl)
  have f226 : (Cond.fieldLink RX2 226 "LanternWalk$Parade" "place" "[I").before args s = true := hts _ (List.mem_of_getElem? (i := 8) rfl)
  have f232 : (Cond.fieldLink RX2 232 "LanternWalk$Parade" "dark" "[I").before args s = true := hts _ (List.mem_of_getElem? (i := 9) rfl)
  have f235 : (Cond.fieldLink RX2 235 "LanternWalk$Parade" "cameHome" "[I").before args s = true := hts _ (List.mem_of_getElem? (i := 10) rfl)
  refine lv_iload_n hx hb dX2_tellOfWalker_0 rfl (lv_at hl 2 rfl) ?_
  rcases (show q = 0 ∨ q = 1 ∨ q = 2 ∨ q = 3 ∨ q = 4 ∨ q = 5 ∨ q = 6 ∨ q = 7 ∨ q = 8 from by omega) with rfl | rfl | rfl | rfl | rfl | rfl | rfl | rfl | rfl
  · refine lv_tableIn (off := 47) (tgt := 48) hx hb dX2_tellOfWalker_1 (by decide) (by decide) rfl (by decide) ?_
    refine lv_aload_n hx hb dX2_tellOfWalker_48 rfl (lv_at hl 0 rfl) ?_
    refine li_gf2 hx hb hX2 hown hK hP 40 rfl 0 (by decide) f10 rfl dX2_tellOfWalker_49 ?_
    refine li_gf1 hx hb hX1 hown hK hP 16 rfl 7 (by decide) f220 rfl dX2_tellOfWalker_52 ?_
    refine lv_iload_n hx hb dX2_tellOfWalker_55 rfl (lv_at hl 1 rfl) ?_
    refine li_ild hx hb hK hP 21 0 rfl rfl (by omega) (by decide) dX2_tellOfWalker_56 ?_
    refine li_topi (show σ 4 w = waT nw σ w 0 from by first | rfl | exact bz_0 (by assumption) | exact bz_1 hz (by assumption)) ?_
    exact hEnd 57 ls locs dX2_tellOfWalker_57 hS
  · refine lv_tableIn (off := 57) (tgt := 58) hx hb dX2_tellOfWalker_1 (by decide) (by decide) rfl (by decide) ?_
    refine lv_aload_n hx hb dX2_tellOfWalker_58 rfl (lv_at hl 0 rfl) ?_
    refine li_gf2 hx hb hX2 hown hK hP 40 rfl 1 (by decide) f21 rfl dX2_tellOfWalker_59 ?_
    refine li_gf0 hx hb hX0 hown hK hP 0 rfl 5 (by decide) f81 rfl dX2_tellOfWalker_62 ?_
    refine lv_iload_n hx hb dX2_tellOfWalker_65 rfl (lv_at hl 1 rfl) ?_
    refine li_ild hx hb hK hP 4 0 rfl rfl (by omega) (by decide) dX2_tellOfWalker_66 ?_
    refine li_topi (show σ 10 w = waT nw σ w 1 from by first | rfl | exact bz_0 (by assumption) | exact bz_1 hz (by assumption)) ?_
    exact hEnd 67 ls locs dX2_tellOfWalker_67 hS
  · refine lv_tableIn (off := 67) (tgt := 68) hx hb dX2_tellOfWalker_1 (by decide) (by decide) rfl (by decide) ?_
    refine lv_aload_n hx hb dX2_tellOfWalker_68 rfl (lv_at hl 0 rfl) ?_
    refine li_gf2 hx hb hX2 hown hK hP 40 rfl 0 (by decide) f10 rfl dX2_tellOfWalker_69 ?_
    refine li_gf1 hx hb hX1 hown hK hP 16 rfl 8 (by decide) f223 rfl dX2_tellOfWalker_72 ?_
    refine lv_iload_n hx hb dX2_tellOfWalker_75 rfl (lv_at hl 1 rfl) ?_
    refine li_ild hx hb hK hP 22 0 rfl rfl (by omega) (by decide) dX2_tellOfWalker_76 ?_
    refine li_topi (show σ 5 w = waT nw σ w 2 from by first | rfl | exact bz_0 (by assumption) | exact bz_1 hz (by assumption)) ?_
    exact hEnd 77 ls locs dX2_tellOfWalker_77 hS
  · refine lv_tableIn (off := 77) (tgt := 78) hx hb dX2_tellOfWalker_1 (by decide) (by decide) rfl (by decide) ?_
    refine lv_aload_n hx hb dX2_tellOfWalker_78 rfl (lv_at hl 0 rfl) ?_
    refine li_gf2 hx hb hX2 hown hK hP 40 rfl 1 (by decide) f21 rfl dX2_tellOfWalker_79 ?_
    refine li_gf0 hx hb hX0 hown hK hP 0 rfl 6 (by decide) f84 rfl dX2_tellOfWalker_82 ?_
    refine lv_iload_n hx hb dX2_tellOfWalker_85 rfl (lv_at hl 1 rfl) ?_
    refine li_zld hx hb hK hP 5 1 rfl rfl (by omega) (by decide) dX2_tellOfWalker_86 ?_
    refine lv_if_eq (tgt := 94) hx hb dX2_tellOfWalker_87 (by decide) (fun c1 => ?_) (fun c1 => ?_)
    · skip
      refine lv_iconst (v := nI 0) hx hb dX2_tellOfWalker_94 rfl ?_
      refine li_topi (show nI 0 = waT nw σ w 3 from by first | rfl | exact bz_0 (by assumption) | exact bz_1 hz (by assumption)) ?_
      exact hEnd 95 ls locs dX2_tellOfWalker_95 hS
    · skip
      refine lv_iconst (v := nI 1) hx hb dX2_tellOfWalker_90 rfl ?_
      refine lv_goto (tgt := 95) hx hb dX2_tellOfWalker_91 (by decide) ?_
      refine li_topi (show nI 1 = waT nw σ w 3 from by first | rfl | exact bz_0 (by assumption) | exact bz_1 hz (by assumption)) ?_
      exact hEnd 95 ls locs dX2_tellOfWalker_95 hS
  · refine lv_tableIn (off := 95) (tgt := 96) hx hb dX2_tellOfWalker_1 (by decide) (by decide) rfl (by decide) ?_
    refine lv_aload_n hx hb dX2_tellOfWalker_96 rfl (lv_at hl 0 rfl) ?_
    refine li_gf2 hx hb hX2 hown hK hP 40 rfl 1 (by decide) f21 rfl dX2_tellOfWalker_97 ?_
    refine li_gf0 hx hb hX0 hown hK hP 0 rfl 7 (by decide) f95 rfl dX2_tellOfWalker_100 ?_
    refine lv_iload_n hx hb dX2_tellOfWalker_103 rfl (lv_at hl 1 rfl) ?_
    refine li_ild hx hb hK hP 6 0 rfl rfl (by omega) (by decide) dX2_tellOfWalker_104 ?_
    refine li_topi (show σ 12 w = waT nw σ w 4 from by first | rfl | exact bz_0 (by assumption) | exact bz_1 hz (by assumption)) ?_
    exact hEnd 105 ls locs dX2_tellOfWalker_105 hS
  · refine lv_tableIn (off := 105) (tgt := 106) hx hb dX2_tellOfWalker_1 (by decide) (by decide) rfl (by decide) ?_
    refine lv_aload_n hx hb dX2_tellOfWalker_106 rfl (lv_at hl 0 rfl) ?_
    refine li_gf2 hx hb hX2 hown hK hP 40 rfl 1 (by decide) f21 rfl dX2_tellOfWalker_107 ?_
    refine li_gf0 hx hb hX0 hown hK hP 0 rfl 8 (by decide) f226 rfl dX2_tellOfWalker_110 ?_
    refine lv_iload_n hx hb dX2_tellOfWalker_113 rfl (lv_at hl 1 rfl) ?_
    refine li_ild hx hb hK hP 7 0 rfl rfl (by omega) (by decide) dX2_tellOfWalker_114 ?_
    refine li_topi (show σ 13 w = waT nw σ w 5 from by first | rfl | exact bz_0 (by assumption) | exact bz_1 hz (by assumption)) ?_
    exact hEnd 115 ls locs dX2_tellOfWalker_115 hS
  · refine lv_tableIn (off := 115) (tgt := 116) hx hb dX2_tellOfWalker_1 (by decide) (by decide) rfl (by decide) ?_
    refine lv_aload_n hx hb dX2_tellOfWalker_116 rfl (lv_at hl 0 rfl) ?_
    refine li_gf2 hx hb hX2 hown hK hP 40 rfl 1 (by decide) f21 rfl dX2_tellOfWalker_117 ?_
    refine lv_iload_n hx hb dX2_tellOfWalker_120 rfl (lv_at hl 1 rfl) ?_
    refine roV (As := [.int (nI w)]) (q0 := 0) (ci := 0) hx hb hml hown hts (c_X0_neighboursOf l D cI cZ cL cO a n pl nw ns σ κ H w (hB) (by omega)) (cwV 1 hts gX2_tellOfWalker_X0_neighboursOf rfl rfl rfl (by decide +kernel) ⟨by decide, by decide⟩) hK hE (hP.sub (ws' := wP cI cZ a n pl nw ns σ κ) i24 rfl) rfl rfl rfl rfl hl.1 rfl (Nat.le_of_ble_eq_true rfl) hS dX2_tellOfWalker_121 ⟨Nat.zero_le _, Nat.zero_le _⟩ (fun locs hS => ?_)
    refine li_topi (show nI (nb σ nw w) = waT nw σ w 6 from by first | rfl | exact bz_0 (by assumption) | exact bz_1 hz (by assumption)) ?_
    exact hEnd 124 ls locs dX2_tellOfWalker_124 hS
  · refine lv_tableIn (off := 124) (tgt := 125) hx hb dX2_tellOfWalker_1 (by decide) (by decide) rfl (by decide) ?_
    refine lv_aload_n hx hb dX2_tellOfWalker_125 rfl (lv_at hl 0 rfl) ?_
    refine li_gf2 hx hb hX2 hown hK hP 40 rfl 1 (by decide) f21 rfl dX2_tellOfWalker_126 ?_
    refine li_gf0 hx hb hX0 hown hK hP 0 rfl 9 (by decide) f232 rfl dX2_tellOfWalker_129 ?_
    refine lv_iload_n hx hb dX2_tellOfWalker_132 rfl (lv_at hl 1 rfl) ?_
    refine li_ild hx hb hK hP 8 0 rfl rfl (by omega) (by decide) dX2_tellOfWalker_133 ?_
    refine li_topi (show σ 14 w = waT nw σ w 7 from by first | rfl | exact bz_0 (by assumption) | exact bz_1 hz (by assumption)) ?_
    exact hEnd 134 ls locs dX2_tellOfWalker_134 hS
  · refine lv_tableOut (tgt := 135) hx hb dX2_tellOfWalker_1 (by decide) (by decide) ?_
    refine lv_aload_n hx hb dX2_tellOfWalker_135 rfl (lv_at hl 0 rfl) ?_
    refine li_gf2 hx hb hX2 hown hK hP 40 rfl 1 (by decide) f21 rfl dX2_tellOfWalker_136 ?_
    refine li_gf0 hx hb hX0 hown hK hP 0 rfl 10 (by decide) f235 rfl dX2_tellOfWalker_139 ?_
    refine lv_iload_n hx hb dX2_tellOfWalker_142 rfl (lv_at hl 1 rfl) ?_
    refine li_ild hx hb hK hP 9 0 rfl rfl (by omega) (by decide) dX2_tellOfWalker_143 ?_
    refine li_topi (show σ 15 w = waT nw σ w 8 from by first | rfl | exact bz_0 (by assumption) | exact bz_1 hz (by assumption)) ?_
    exact hEnd 144 ls locs dX2_tellOfWalker_144 hS
set_option maxHeartbeats 4000000 in
set_option maxRecDepth 100000 in
theorem c_X2_tellOfAll (l : Launch) (D : va_G) (cI cZ cL cO : ClassId) (a : Nat → Nat) (n pl nw ns : Nat) (σ κ σ' κ' : Sg) (H : Heap) (q : Nat) (hB : n ≤ 10 ∧ pl ≤ 200 ∧ nw ≤ 20 ∧ ns ≤ 6) (hq : q < 11) : Met l yX2_tellOfAll wsX2_tellOfAll ({ frames := 2, cells := 0, slots := 0, locals := 45 } : Room) (ro_P D (T4 cI cZ cL cO) (wX cI cZ a n pl nw ns σ κ σ' κ') H [.ref (a 40), .int (nI q)]) (ro_Q (alT n pl nw ns σ q) H) 0 0 (fun _ => False) := by
  refine ro_of (cc := cX2_tellOfAll) (maxL := 2) (by decide) rfl (Nat.le_of_ble_eq_true rfl) rfl ?_
  intro p e s m args below meth c Q ls locs hx hb hml hown hts hK hE hP hl hS hEnd
  have hl : lv_has ls 2 [(0, .ref (a 40)), (1, .int (nI q))] := hl
  have hX0 : ∀ w ∈ wsX00, w.before args s = true := fun w h => hts w (List.mem_cons_of_mem _ (List.mem_append_left _ (List.mem_append_right _ (h))))
  have hX1 : ∀ w ∈ wsX10, w.before args s = true := fun w h => hts w (List.mem_cons_of_mem _ (List.mem_append_right _ (h)))
  have hX2 : ∀ w ∈ wsX20, w.before args s = true := fun w h => hts w (List.mem_cons_of_mem _ (List.mem_append_left _ (List.mem_append_left _ (List.mem_append_right _ (h)))))
  have f21 : (Cond.fieldLink RX2 21 "LanternWalk" "now" "LLanternWalk$Parade;").before args s = true := hts _ (List.mem_of_getElem? (i := 1) rfl)
  have f39 : (Cond.fieldLink RX2 39 "LanternWalk$Parade" "step" "I").before args s = true := hts _ (List.mem_of_getElem? (i := 2) rfl)
  have f10 : (Cond.fieldLink RX2 10 "LanternWalk" "setting" "LLanternWalk$Setting;").before args s = true := hts _ (List.mem_of_getElem? (i := 3) rfl)
  have f35 : (Cond.fieldLink RX2 35 "LanternWalk$Setting" "stretches" "I").before args s = true := hts _ (List.mem_of_getElem? (i := 4) rfl)
  have f238 : (Cond.fieldLink RX2 238 "LanternWalk$Setting" "places" "I").before args s = true := hts _ (List.mem_of_getElem? (i := 5) rfl)
  have f73 : (Cond.fieldLink RX2 73 "LanternWalk$Setting" "walkers" "I").before args s = true := hts _ (List.mem_of_getElem? (i := 6) rfl)
  have f107 : (Cond.fieldLink RX2 107 "LanternWalk$Setting" "songs" "I").before args s = true := hts _ (List.mem_of_getElem? (i := 7) rfl)
  refine lv_iload_n hx hb dX2_tellOfAll_0 rfl (lv_at hl 1 rfl) ?_
  rcases (show q = 0 ∨ q = 1 ∨ q = 2 ∨ q = 3 ∨ q = 4 ∨ q = 5 ∨ q = 6 ∨ q = 7 ∨ q = 8 ∨ q = 9 ∨ q = 10 from by omega) with rfl | rfl | rfl | rfl | rfl | rfl | rfl | rfl | rfl | rfl | rfl
  · refine lv_tableIn (off := 55) (tgt := 56) hx hb dX2_tellOfAll_1 (by decide) (by decide) rfl (by decide) ?_
    refine lv_aload_n hx hb dX2_tellOfAll_56 rfl (lv_at hl 0 rfl) ?_
    refine li_gf2 hx hb hX2 hown hK hP 40 rfl 1 (by decide) f21 rfl dX2_tellOfAll_57 ?_
    refine li_gf0 hx hb hX0 hown hK hP 0 rfl 1 (by decide) f39 rfl dX2_tellOfAll_60 ?_
    refine li_topi (show σ 17 0 = alT n pl nw ns σ 0 from by rfl) ?_
    exact hEnd 63 ls locs dX2_tellOfAll_63 hS
  · refine lv_tableIn (off := 63) (tgt := 64) hx hb dX2_tellOfAll_1 (by decide) (by decide) rfl (by decide) ?_
    refine lv_aload_n hx hb dX2_tellOfAll_64 rfl (lv_at hl 0 rfl) ?_
    refine li_gf2 hx hb hX2 hown hK hP 40 rfl 0 (by decide) f10 rfl dX2_tellOfAll_65 ?_
    refine li_gf1 hx hb hX1 hown hK hP 16 rfl 0 (by decide) f35 rfl dX2_tellOfAll_68 ?_
    refine li_topi (show nI n = alT n pl nw ns σ 1 from by rfl) ?_
    exact hEnd 71 ls locs dX2_tellOfAll_71 hS
  · refine lv_tableIn (off := 71) (tgt := 72) hx hb dX2_tellOfAll_1 (by decide) (by decide) rfl (by decide) ?_
    refine lv_aload_n hx hb dX2_tellOfAll_72 rfl (lv_at hl 0 rfl) ?_
    refine li_gf2 hx hb hX2 hown hK hP 40 rfl 0 (by decide) f10 rfl dX2_tellOfAll_73 ?_
    refine li_gf1 hx hb hX1 hown hK hP 16 rfl 1 (by decide) f238 rfl dX2_tellOfAll_76 ?_
    refine li_topi (show nI pl = alT n pl nw ns σ 2 from by rfl) ?_
    exact hEnd 79 ls locs dX2_tellOfAll_79 hS
  · refine lv_tableIn (off := 79) (tgt := 80) hx hb dX2_tellOfAll_1 (by decide) (by decide) rfl (by decide) ?_
    refine lv_aload_n hx hb dX2_tellOfAll_80 rfl (lv_at hl 0 rfl) ?_
    refine li_gf2 hx hb hX2 hown hK hP 40 rfl 0 (by decide) f10 rfl dX2_tellOfAll_81 ?_
    refine li_gf1 hx hb hX1 hown hK hP 16 rfl 6 (by decide) f73 rfl dX2_tellOfAll_84 ?_
    refine li_topi (show nI nw = alT n pl nw ns σ 3 from by rfl) ?_
    exact hEnd 87 ls locs dX2_tellOfAll_87 hS
  · refine lv_tableIn (off := 87) (tgt := 88) hx hb dX2_tellOfAll_1 (by decide) (by decide) rfl (by decide) ?_
    refine lv_aload_n hx hb dX2_tellOfAll_88 rfl (lv_at hl 0 rfl) ?_
    refine li_gf2 hx hb hX2 hown hK hP 40 rfl 1 (by decide) f21 rfl dX2_tellOfAll_89 ?_
    refine lv_iconst (v := nI 0) hx hb dX2_tellOfAll_92 rfl ?_
    refine roV (As := [.int (nI 0)]) (q0 := 0) (ci := 0) hx hb hml hown hts (c_X0_howManyAre l D cI cZ cL cO a n pl nw ns σ κ H (nI 0) (hB)) (cwV 1 hts gX2_tellOfAll_X0_howManyAre rfl rfl rfl (by decide +kernel) ⟨by decide, by decide⟩) hK hE (hP.sub (ws' := wP cI cZ a n pl nw ns σ κ) i24 rfl) rfl rfl rfl rfl hl.1 rfl (Nat.le_of_ble_eq_true rfl) hS dX2_tellOfAll_93 ⟨Nat.zero_le _, Nat.zero_le _⟩ (fun locs hS => ?_)
    refine li_topi (show nI (hm σ nw (nI 0)) = alT n pl nw ns σ 4 from by rfl) ?_
    exact hEnd 96 ls locs dX2_tellOfAll_96 hS
  · refine lv_tableIn (off := 96) (tgt := 97) hx hb dX2_tellOfAll_1 (by decide) (by decide) rfl (by decide) ?_
    refine lv_aload_n hx hb dX2_tellOfAll_97 rfl (lv_at hl 0 rfl) ?_
    refine li_gf2 hx hb hX2 hown hK hP 40 rfl 1 (by decide) f21 rfl dX2_tellOfAll_98 ?_
    refine lv_iconst (v := nI 1) hx hb dX2_tellOfAll_101 rfl ?_
    refine roV (As := [.int (nI 1)]) (q0 := 0) (ci := 0) hx hb hml hown hts (c_X0_howManyAre l D cI cZ cL cO a n pl nw ns σ κ H (nI 1) (hB)) (cwV 1 hts gX2_tellOfAll_X0_howManyAre rfl rfl rfl (by decide +kernel) ⟨by decide, by decide⟩) hK hE (hP.sub (ws' := wP cI cZ a n pl nw ns σ κ) i24 rfl) rfl rfl rfl rfl hl.1 rfl (Nat.le_of_ble_eq_true rfl) hS dX2_tellOfAll_102 ⟨Nat.zero_le _, Nat.zero_le _⟩ (fun locs hS => ?_)
    refine li_topi (show nI (hm σ nw (nI 1)) = alT n pl nw ns σ 5 from by rfl) ?_
    exact hEnd 105 ls locs dX2_tellOfAll_105 hS
  · refine lv_tableIn (off := 105) (tgt := 106) hx hb dX2_tellOfAll_1 (by decide) (by decide) rfl (by decide) ?_
    refine lv_aload_n hx hb dX2_tellOfAll_106 rfl (lv_at hl 0 rfl) ?_
    refine li_gf2 hx hb hX2 hown hK hP 40 rfl 1 (by decide) f21 rfl dX2_tellOfAll_107 ?_
    refine lv_iconst (v := nI 2) hx hb dX2_tellOfAll_110 rfl ?_
    refine roV (As := [.int (nI 2)]) (q0 := 0) (ci := 0) hx hb hml hown hts (c_X0_howManyAre l D cI cZ cL cO a n pl nw ns σ κ H (nI 2) (hB)) (cwV 1 hts gX2_tellOfAll_X0_howManyAre rfl rfl rfl (by decide +kernel) ⟨by decide, by decide⟩) hK hE (hP.sub (ws' := wP cI cZ a n pl nw ns σ κ) i24 rfl) rfl rfl rfl rfl hl.1 rfl (Nat.le_of_ble_eq_true rfl) hS dX2_tellOfAll_111 ⟨Nat.zero_le _, Nat.zero_le _⟩ (fun locs hS => ?_)
    refine li_topi (show nI (hm σ nw (nI 2)) = alT n pl nw ns σ 6 from by rfl) ?_
    exact hEnd 114 ls locs dX2_tellOfAll_114 hS
  · refine lv_tableIn (off := 114) (tgt := 115) hx hb dX2_tellOfAll_1 (by decide) (by decide) rfl (by decide) ?_
    refine lv_aload_n hx hb dX2_tellOfAll_115 rfl (lv_at hl 0 rfl) ?_
    refine li_gf2 hx hb hX2 hown hK hP 40 rfl 1 (by decide) f21 rfl dX2_tellOfAll_116 ?_
    refine roV (As := []) (q0 := 0) (ci := 0) hx hb hml hown hts (c_X0_lanternsBurning l D cI cZ cL cO a n pl nw ns σ κ H (hB)) (cwV 0 hts gX2_tellOfAll_X0_lanternsBurning rfl rfl rfl (by decide +kernel) ⟨by decide, by decide⟩) hK hE (hP.sub (ws' := wP cI cZ a n pl nw ns σ κ) i24 rfl) rfl rfl rfl rfl hl.1 rfl (Nat.le_of_ble_eq_true rfl) hS dX2_tellOfAll_119 ⟨Nat.zero_le _, Nat.zero_le _⟩ (fun locs hS => ?_)
    refine li_topi (show nI (lb σ nw) = alT n pl nw ns σ 7 from by rfl) ?_
    exact hEnd 122 ls locs dX2_tellOfAll_122 hS
  · refine lv_tableIn (off := 122) (tgt := 123) hx hb dX2_tellOfAll_1 (by decide) (by decide) rfl (by decide) ?_
    refine lv_aload_n hx hb dX2_tellOfAll_123 rfl (lv_at hl 0 rfl) ?_
    refine li_gf2 hx hb hX2 hown hK hP 40 rfl 0 (by decide) f10 rfl dX2_tellOfAll_124 ?_
    refine li_gf1 hx hb hX1 hown hK hP 16 rfl 9 (by decide) f107 rfl dX2_tellOfAll_127 ?_
    refine li_topi (show nI ns = alT n pl nw ns σ 8 from by rfl) ?_
    exact hEnd 130 ls locs dX2_tellOfAll_130 hS
  · refine lv_tableIn (off := 130) (tgt := 131) hx hb dX2_tellOfAll_1 (by decide) (by decide) rfl (by decide) ?_
    refine lv_aload_n hx hb dX2_tellOfAll_131 rfl (lv_at hl 0 rfl) ?_
    refine li_gf2 hx hb hX2 hown hK hP 40 rfl 1 (by decide) f21 rfl dX2_tellOfAll_132 ?_
    refine roV (As := []) (q0 := 0) (ci := 0) hx hb hml hown hts (c_X0_foremostPlace l D cI cZ cL cO a n pl nw ns σ κ H (hB)) (cwV 0 hts gX2_tellOfAll_X0_foremostPlace rfl rfl rfl (by decide +kernel) ⟨by decide, by decide⟩) hK hE (hP.sub (ws' := wP cI cZ a n pl nw ns σ κ) i24 rfl) rfl rfl rfl rfl hl.1 rfl (Nat.le_of_ble_eq_true rfl) hS dX2_tellOfAll_135 ⟨Nat.zero_le _, Nat.zero_le _⟩ (fun locs hS => ?_)
    refine li_topi (show fm σ nw = alT n pl nw ns σ 9 from by rfl) ?_
    exact hEnd 138 ls locs dX2_tellOfAll_138 hS
  · refine lv_tableOut (tgt := 139) hx hb dX2_tellOfAll_1 (by decide) (by decide) ?_
    refine lv_aload_n hx hb dX2_tellOfAll_139 rfl (lv_at hl 0 rfl) ?_
    refine li_gf2 hx hb hX2 hown hK hP 40 rfl 1 (by decide) f21 rfl dX2_tellOfAll_140 ?_
    refine roV (As := []) (q0 := 0) (ci := 0) hx hb hml hown hts (c_X0_paradeLength l D cI cZ cL cO a n pl nw ns σ κ H (hB)) (cwV 0 hts gX2_tellOfAll_X0_paradeLength rfl rfl rfl (by decide +kernel) ⟨by decide, by decide⟩) hK hE (hP.sub (ws' := wP cI cZ a n pl nw ns σ κ) i24 rfl) rfl rfl rfl rfl hl.1 rfl (Nat.le_of_ble_eq_true rfl) hS dX2_tellOfAll_143 ⟨Nat.zero_le _, Nat.zero_le _⟩ (fun locs hS => ?_)
    refine li_topi (show fm σ nw - ls_ σ (fm σ nw) nw = alT n pl nw ns σ 10 from by rfl) ?_
    exact hEnd 146 ls locs dX2_tellOfAll_146 hS
set_option maxHeartbeats 4000000 in
set_option maxRecDepth 100000 in
theorem c_X2_digestWith (l : Launch) (D : va_G) (cI cZ cL cO : ClassId) (H : Heap) (d9 : Int64) (x9 : Int32) : Met l yX2_digestWith wsX2_digestWith ({ frames := 0, cells := 0, slots := 0, locals := 0 } : Room) (ro_P D (T4 cI cZ cL cO) ([]) H [.long d9, .int x9]) (rl_Q (dg1 d9 x9) H) 0 0 (fun _ => False) := by
  refine rl_of (cc := cX2_digestWith) (maxL := 3) (by decide) rfl (Nat.le_of_ble_eq_true rfl) ?_
  intro p e s m args below meth c Q ls locs hx hb hml hown hts hK hE hP hl hS hEnd
  have hl : lv_has ls 3 [(0, .long d9), (2, .int x9)] := hl
  have g0 : (Cond.constantLong RX2 200 (31)).before args s = true := hts _ (List.mem_of_getElem? (i := 1) rfl)
  refine lv_lload_n hx hb dX2_digestWith_0 rfl (lv_at hl 0 rfl) ?_
  refine lv_ldc2 hx hb hown g0 dX2_digestWith_1 ?_
  refine lv_lmul hx hb dX2_digestWith_4 ?_
  refine lv_iload_n hx hb dX2_digestWith_5 rfl (lv_at hl 1 rfl) ?_
  refine lv_i2l (v := x9.toInt64) hx hb dX2_digestWith_6 rfl ?_
  refine lv_ladd hx hb dX2_digestWith_7 ?_
  refine li_topl (show (d9 * 31) + x9.toInt64 = dg1 d9 x9 from rfl) ?_
  exact hEnd 8 ls locs dX2_digestWith_8 hS
set_option maxHeartbeats 4000000 in
set_option maxRecDepth 100000 in
theorem c_X2_digestOfWalker (l : Launch) (D : va_G) (cI cZ cL cO : ClassId) (a : Nat → Nat) (n pl nw ns : Nat) (σ κ σ' κ' : Sg) (H : Heap) (d9 : Int64) (w : Nat) (hB : n ≤ 10 ∧ pl ≤ 200 ∧ nw ≤ 20 ∧ ns ≤ 6) (hw : w < nw) (hz : bz σ) : Met l yX2_digestOfWalker wsX2_digestOfWalker ({ frames := 3, cells := 0, slots := 0, locals := 67 } : Room) (ro_P D (T4 cI cZ cL cO) (wX cI cZ a n pl nw ns σ κ σ' κ') H [.ref (a 40), .long d9, .int (nI w)]) (rl_Q (dgN (fun s9 => σ 16 (6 * w + s9)) (dgN (waT nw σ w) d9 9) ns) H) 0 0 (fun _ => False) := by
  refine rl_of (cc := cX2_digestOfWalker) (maxL := 7) (by decide) rfl (Nat.le_of_ble_eq_true rfl) ?_
  intro p e s m args below meth c Q ls locs hx hb hml hown hts hK hE hP hl hS hEnd
  have hl : lv_has ls 7 [(0, .ref (a 40)), (1, .long d9), (3, .int (nI w))] := hl
  have hX0 : ∀ w ∈ wsX00, w.before args s = true := fun w h => hts w (List.mem_cons_of_mem _ (List.mem_append_right _ (h)))
  have hX1 : ∀ w ∈ wsX10, w.before args s = true := fun w h => hts w (List.mem_cons_of_mem _ (List.mem_append_left _ (List.mem_append_right _ (h))))
  have hX2 : ∀ w ∈ wsX20, w.before args s = true := fun w h => hts w (List.mem_cons_of_mem _ (List.mem_append_left _ (List.mem_append_left _ (List.mem_append_right _ (h)))))
  have f10 : (Cond.fieldLink RX2 10 "LanternWalk" "setting" "LLanternWalk$Setting;").before args s = true := hts _ (List.mem_of_getElem? (i := 1) rfl)
  have f107 : (Cond.fieldLink RX2 107 "LanternWalk$Setting" "songs" "I").before args s = true := hts _ (List.mem_of_getElem? (i := 2) rfl)
  have f21 : (Cond.fieldLink RX2 21 "LanternWalk" "now" "LLanternWalk$Parade;").before args s = true := hts _ (List.mem_of_getElem? (i := 3) rfl)
  have f126 : (Cond.fieldLink RX2 126 "LanternWalk$Parade" "known" "[I").before args s = true := hts _ (List.mem_of_getElem? (i := 4) rfl)
  refine lv_lload_n hx hb dX2_digestOfWalker_0 rfl (lv_at hl 1 rfl) ?_
  refine lv_lstore (lv' := [(4, .long d9), (0, .ref (a 40)), (1, .long d9), (3, .int (nI w))]) hx hb dX2_digestOfWalker_1 hl (by decide) rfl (fun ls hl => ?_)
  refine lv_iconst (v := nI 0) hx hb dX2_digestOfWalker_3 rfl ?_
  refine lv_istore (lv' := [(6, .int (nI 0)), (4, .long d9), (0, .ref (a 40)), (1, .long d9), (3, .int (nI w))]) hx hb dX2_digestOfWalker_4 hl (by decide) rfl (fun ls hl => ?_)
  have L6_1 : ∀ (fuel : Nat) (j : Nat), (9 - j) < fuel → (j ≤ 9) → ∀ (locs : List Loc), va_S (fun _ => False) H H locs → ∀ (ls : Array Slot), lv_has ls 7 [(6, .int (nI j)), (4, .long (dgN (waT nw σ w) d9 j)), (0, .ref (a 40)), (1, .long d9), (3, .int (nI w))] → W p l e ({ frames := 3, cells := 0, slots := 0, locals := 67 } : Room) s m args below meth c H locs 0 0 Q (F0 m 6 ls []) := by
    intro fuel
    induction fuel with
    | zero =>
      intro j hfuel
      exact absurd hfuel (Nat.not_lt_zero _)
    | succ fuel ih6 =>
      intro j hfuel6 hj locs hS ls hl
      refine lv_iload hx hb dX2_digestOfWalker_6 (lv_at hl 0 rfl) ?_
      refine lv_bipush (v := nI 9) hx hb dX2_digestOfWalker_8 rfl ?_
      refine li_ge (tgt := 33) hx hb dX2_digestOfWalker_10 (by decide) (by omega) (by omega) (fun c2 => ?_) (fun c2 => ?_)
      · skip
        refine lv_iconst (v := nI 0) hx hb dX2_digestOfWalker_33 rfl ?_
        refine lv_istore (lv' := [(6, .int (nI 0)), (4, .long (dgN (waT nw σ w) d9 j)), (0, .ref (a 40)), (1, .long d9), (3, .int (nI w))]) hx hb dX2_digestOfWalker_34 hl (by decide) rfl (fun ls hl => ?_)
        have L36_3 : ∀ (fuel : Nat) (j : Nat), (ns - j) < fuel → (j ≤ ns) → ∀ (locs : List Loc), va_S (fun _ => False) H H locs → ∀ (ls : Array Slot), lv_has ls 7 [(6, .int (nI j)), (4, .long (dgN (fun s9 => σ 16 (6 * w + s9)) (dgN (waT nw σ w) d9 9) j)), (0, .ref (a 40)), (1, .long d9), (3, .int (nI w))] → W p l e ({ frames := 3, cells := 0, slots := 0, locals := 67 } : Room) s m args below meth c H locs 0 0 Q (F0 m 36 ls []) := by
          intro fuel
          induction fuel with
          | zero =>
            intro j hfuel
            exact absurd hfuel (Nat.not_lt_zero _)
          | succ fuel ih36 =>
            intro j hfuel36 hj locs hS ls hl
            refine lv_iload hx hb dX2_digestOfWalker_36 (lv_at hl 0 rfl) ?_
            refine lv_aload_n hx hb dX2_digestOfWalker_38 rfl (lv_at hl 2 rfl) ?_
            refine li_gf2 hx hb hX2 hown hK hP 40 rfl 0 (by decide) f10 rfl dX2_digestOfWalker_39 ?_
            refine li_gf1 hx hb hX1 hown hK hP 16 rfl 9 (by decide) f107 rfl dX2_digestOfWalker_42 ?_
            refine li_ge (tgt := 75) hx hb dX2_digestOfWalker_45 (by decide) (by omega) (by omega) (fun c4 => ?_) (fun c4 => ?_)
            · skip
              refine lv_lload hx hb dX2_digestOfWalker_75 (lv_at hl 1 rfl) ?_
              refine li_topl (show dgN (fun s9 => σ 16 (6 * w + s9)) (dgN (waT nw σ w) d9 9) j = dgN (fun s9 => σ 16 (6 * w + s9)) (dgN (waT nw σ w) d9 9) ns from by rw [show j = ns by omega]) ?_
              exact hEnd 77 ls locs dX2_digestOfWalker_77 hS
            · skip
              refine lv_lload hx hb dX2_digestOfWalker_48 (lv_at hl 1 rfl) ?_
              refine lv_aload_n hx hb dX2_digestOfWalker_50 rfl (lv_at hl 2 rfl) ?_
              refine li_gf2 hx hb hX2 hown hK hP 40 rfl 1 (by decide) f21 rfl dX2_digestOfWalker_51 ?_
              refine li_gf0 hx hb hX0 hown hK hP 0 rfl 11 (by decide) f126 rfl dX2_digestOfWalker_54 ?_
              refine lv_iload_n hx hb dX2_digestOfWalker_57 rfl (lv_at hl 4 rfl) ?_
              refine lv_iload hx hb dX2_digestOfWalker_58 (lv_at hl 0 rfl) ?_
              refine roS (As := [.int (nI w), .int (nI j)]) hx hb hml hown hts (c_X2_cellOf l D cI cZ cL cO a n pl nw ns σ κ H w j hB) (cwS 2 hts gX2_digestOfWalker_X2_cellOf rfl rfl rfl (by decide +kernel) ⟨by decide, by decide⟩) hK hE (hP.sub (ws' := wP cI cZ a n pl nw ns σ κ) i24 rfl) rfl hl.1 rfl (Nat.le_of_ble_eq_true rfl) hS dX2_digestOfWalker_60 ⟨Nat.zero_le _, Nat.zero_le _⟩ (fun locs hS => ?_)
              refine li_ild hx hb hK hP 10 0 rfl rfl (by omega) (by decide) dX2_digestOfWalker_63 ?_
              refine rlS (As := [.long (dgN (fun s9 => σ 16 (6 * w + s9)) (dgN (waT nw σ w) d9 9) j), .int (σ 16 (6 * w + j))]) hx hb hml hown hts (c_X2_digestWith l D cI cZ cL cO H (dgN (fun s9 => σ 16 (6 * w + s9)) (dgN (waT nw σ w) d9 9) j) (σ 16 (6 * w + j))) (cwS 2 hts gX2_digestOfWalker_X2_digestWith rfl rfl rfl (by decide +kernel) ⟨by decide, by decide⟩) hK hE (hP.sub (ws' := []) [] rfl) rfl hl.1 rfl (Nat.le_of_ble_eq_true rfl) hS dX2_digestOfWalker_64 ⟨Nat.zero_le _, Nat.zero_le _⟩ (fun locs hS => ?_)
              refine lv_lstore (lv' := [(4, .long (dg1 (dgN (fun s9 => σ 16 (6 * w + s9)) (dgN (waT nw σ w) d9 9) j) (σ 16 (6 * w + j)))), (6, .int (nI j)), (0, .ref (a 40)), (1, .long d9), (3, .int (nI w))]) hx hb dX2_digestOfWalker_67 hl (by decide) rfl (fun ls hl => ?_)
              refine lv_iinc (v := nI (j + 1)) (lv' := [(6, .int (nI (j + 1))), (4, .long (dg1 (dgN (fun s9 => σ 16 (6 * w + s9)) (dgN (waT nw σ w) d9 9) j) (σ 16 (6 * w + j)))), (0, .ref (a 40)), (1, .long d9), (3, .int (nI w))]) hx hb dX2_digestOfWalker_69 hl (k := 1) rfl (nI_inc _ _) (by decide) rfl (fun ls hl => ?_)
              refine lv_goto (tgt := 36) hx hb dX2_digestOfWalker_72 (by decide) ?_
              have hl9 : lv_has ls 7 [(6, .int (nI (j + 1))), (4, .long (dg1 (dgN (fun s9 => σ 16 (6 * w + s9)) (dgN (waT nw σ w) d9 9) j) (σ 16 (6 * w + j)))), (0, .ref (a 40)), (1, .long d9), (3, .int (nI w))] := lv_sub hl [0, 1, 2, 3, 4] rfl
              have hl9 : lv_has ls 7 [(6, .int (nI (j + 1))), (4, .long (dgN (fun s9 => σ 16 (6 * w + s9)) (dgN (waT nw σ w) d9 9) (j + 1))), (0, .ref (a 40)), (1, .long d9), (3, .int (nI w))] := lv_reg hl9 (i := 1) rfl (congrArg Value.long (show dg1 (dgN (fun s9 => σ 16 (6 * w + s9)) (dgN (waT nw σ w) d9 9) j) (σ 16 (6 * w + j)) = dgN (fun s9 => σ 16 (6 * w + s9)) (dgN (waT nw σ w) d9 9) (j + 1) from rfl))
              exact ih36 (j + 1) (by omega) (by omega) locs hS ls hl9
        have hl9 : lv_has ls 7 [(6, .int (nI 0)), (4, .long (dgN (waT nw σ w) d9 j)), (0, .ref (a 40)), (1, .long d9), (3, .int (nI w))] := lv_sub hl [0, 1, 2, 3, 4] rfl
        have hl9 : lv_has ls 7 [(6, .int (nI 0)), (4, .long (dgN (fun s9 => σ 16 (6 * w + s9)) (dgN (waT nw σ w) d9 9) 0)), (0, .ref (a 40)), (1, .long d9), (3, .int (nI w))] := lv_reg hl9 (i := 1) rfl (congrArg Value.long (show dgN (waT nw σ w) d9 j = dgN (fun s9 => σ 16 (6 * w + s9)) (dgN (waT nw σ w) d9 9) 0 from by rw [show j = 9 by omega]; rfl))
        exact L36_3 ((ns - 0) + 1) 0 (Nat.lt_succ_self _) (by omega) locs hS ls hl9
      · skip
        refine lv_lload hx hb dX2_digestOfWalker_13 (lv_at hl 1 rfl) ?_
        refine lv_aload_n hx hb dX2_digestOfWalker_15 rfl (lv_at hl 2 rfl) ?_
        refine lv_iload_n hx hb dX2_digestOfWalker_16 rfl (lv_at hl 4 rfl) ?_
        refine lv_iload hx hb dX2_digestOfWalker_17 (lv_at hl 0 rfl) ?_
        refine roV (As := [.int (nI w), .int (nI j)]) (q0 := 40) (ci := 2) hx hb hml hown hts (c_X2_tellOfWalker l D cI cZ cL cO a n pl nw ns σ κ σ' κ' H w j (hB) (by omega) (by omega) (hz)) (cwV 2 hts gX2_digestOfWalker_X2_tellOfWalker rfl rfl rfl (by decide +kernel) ⟨by decide, by decide⟩) hK hE hP rfl rfl rfl rfl hl.1 rfl (Nat.le_of_ble_eq_true rfl) hS dX2_digestOfWalker_19 ⟨Nat.zero_le _, Nat.zero_le _⟩ (fun locs hS => ?_)
        refine rlS (As := [.long (dgN (waT nw σ w) d9 j), .int (waT nw σ w j)]) hx hb hml hown hts (c_X2_digestWith l D cI cZ cL cO H (dgN (waT nw σ w) d9 j) (waT nw σ w j)) (cwS 2 hts gX2_digestOfWalker_X2_digestWith rfl rfl rfl (by decide +kernel) ⟨by decide, by decide⟩) hK hE (hP.sub (ws' := []) [] rfl) rfl hl.1 rfl (Nat.le_of_ble_eq_true rfl) hS dX2_digestOfWalker_22 ⟨Nat.zero_le _, Nat.zero_le _⟩ (fun locs hS => ?_)
        refine lv_lstore (lv' := [(4, .long (dg1 (dgN (waT nw σ w) d9 j) (waT nw σ w j))), (6, .int (nI j)), (0, .ref (a 40)), (1, .long d9), (3, .int (nI w))]) hx hb dX2_digestOfWalker_25 hl (by decide) rfl (fun ls hl => ?_)
        refine lv_iinc (v := nI (j + 1)) (lv' := [(6, .int (nI (j + 1))), (4, .long (dg1 (dgN (waT nw σ w) d9 j) (waT nw σ w j))), (0, .ref (a 40)), (1, .long d9), (3, .int (nI w))]) hx hb dX2_digestOfWalker_27 hl (k := 1) rfl (nI_inc _ _) (by decide) rfl (fun ls hl => ?_)
        refine lv_goto (tgt := 6) hx hb dX2_digestOfWalker_30 (by decide) ?_
        have hl9 : lv_has ls 7 [(6, .int (nI (j + 1))), (4, .long (dg1 (dgN (waT nw σ w) d9 j) (waT nw σ w j))), (0, .ref (a 40)), (1, .long d9), (3, .int (nI w))] := lv_sub hl [0, 1, 2, 3, 4] rfl
        have hl9 : lv_has ls 7 [(6, .int (nI (j + 1))), (4, .long (dgN (waT nw σ w) d9 (j + 1))), (0, .ref (a 40)), (1, .long d9), (3, .int (nI w))] := lv_reg hl9 (i := 1) rfl (congrArg Value.long (show dg1 (dgN (waT nw σ w) d9 j) (waT nw σ w j) = dgN (waT nw σ w) d9 (j + 1) from rfl))
        exact ih6 (j + 1) (by omega) (by omega) locs hS ls hl9
  have hl9 : lv_has ls 7 [(6, .int (nI 0)), (4, .long d9), (0, .ref (a 40)), (1, .long d9), (3, .int (nI w))] := lv_sub hl [0, 1, 2, 3, 4] rfl
  have hl9 : lv_has ls 7 [(6, .int (nI 0)), (4, .long (dgN (waT nw σ w) d9 0)), (0, .ref (a 40)), (1, .long d9), (3, .int (nI w))] := lv_reg hl9 (i := 1) rfl (congrArg Value.long (show d9 = dgN (waT nw σ w) d9 0 from rfl))
  exact L6_1 ((9 - 0) + 1) 0 (Nat.lt_succ_self _) (by omega) locs hS ls hl9
set_option maxHeartbeats 4000000 in
set_option maxRecDepth 100000 in
theorem c_X2_digest (l : Launch) (D : va_G) (cI cZ cL cO : ClassId) (a : Nat → Nat) (n pl nw ns : Nat) (σ κ σ' κ' : Sg) (H : Heap) (hB : n ≤ 10 ∧ pl ≤ 200 ∧ nw ≤ 20 ∧ ns ≤ 6) (hz : bz σ) : Met l yX2_digest wsX2_digest ({ frames := 4, cells := 0, slots := 0, locals := 93 } : Room) (ro_P D (T4 cI cZ cL cO) (wX cI cZ a n pl nw ns σ κ σ' κ') H [.ref (a 40)]) (rl_Q (diV n pl nw ns σ) H) 0 0 (fun _ => False) := by
  refine rl_of (cc := cX2_digest) (maxL := 5) (by decide) rfl (Nat.le_of_ble_eq_true rfl) ?_
  intro p e s m args below meth c Q ls locs hx hb hml hown hts hK hE hP hl hS hEnd
  have hl : lv_has ls 5 [(0, .ref (a 40))] := hl
  have hX1 : ∀ w ∈ wsX10, w.before args s = true := fun w h => hts w (List.mem_cons_of_mem _ (List.mem_append_left _ (List.mem_append_right _ (h))))
  have hX2 : ∀ w ∈ wsX20, w.before args s = true := fun w h => hts w (List.mem_cons_of_mem _ (List.mem_append_left _ (List.mem_append_left _ (List.mem_append_right _ (h)))))
  have g0 : (Cond.constantLong RX2 191 (659)).before args s = true := hts _ (List.mem_of_getElem? (i := 1) rfl)
  have f10 : (Cond.fieldLink RX2 10 "LanternWalk" "setting" "LLanternWalk$Setting;").before args s = true := hts _ (List.mem_of_getElem? (i := 2) rfl)
  have f35 : (Cond.fieldLink RX2 35 "LanternWalk$Setting" "stretches" "I").before args s = true := hts _ (List.mem_of_getElem? (i := 4) rfl)
  have f73 : (Cond.fieldLink RX2 73 "LanternWalk$Setting" "walkers" "I").before args s = true := hts _ (List.mem_of_getElem? (i := 5) rfl)
  have f107 : (Cond.fieldLink RX2 107 "LanternWalk$Setting" "songs" "I").before args s = true := hts _ (List.mem_of_getElem? (i := 6) rfl)
  have f141 : (Cond.fieldLink RX2 141 "LanternWalk$Setting" "songLength" "[I").before args s = true := hts _ (List.mem_of_getElem? (i := 7) rfl)
  have f68 : (Cond.fieldLink RX2 68 "LanternWalk$Setting" "wind" "[I").before args s = true := hts _ (List.mem_of_getElem? (i := 3) rfl)
  refine lv_ldc2 hx hb hown g0 dX2_digest_0 ?_
  refine lv_lstore_n (lv' := [(1, .long 659), (0, .ref (a 40))]) hx hb dX2_digest_3 rfl hl (by decide) rfl (fun ls hl => ?_)
  refine lv_iconst (v := nI 0) hx hb dX2_digest_4 rfl ?_
  refine lv_istore_n (lv' := [(3, .int (nI 0)), (1, .long 659), (0, .ref (a 40))]) hx hb dX2_digest_5 rfl hl (by decide) rfl (fun ls hl => ?_)
  have L6_1 : ∀ (fuel : Nat) (k : Nat), (11 - k) < fuel → (k ≤ 11) → ∀ (locs : List Loc), va_S (fun _ => False) H H locs → ∀ (ls : Array Slot), lv_has ls 5 [(3, .int (nI k)), (1, .long (dgN (alT n pl nw ns σ) 659 k)), (0, .ref (a 40))] → W p l e ({ frames := 4, cells := 0, slots := 0, locals := 93 } : Room) s m args below meth c H locs 0 0 Q (F0 m 6 ls []) := by
    intro fuel
    induction fuel with
    | zero =>
      intro k hfuel
      exact absurd hfuel (Nat.not_lt_zero _)
    | succ fuel ih6 =>
      intro k hfuel6 hk locs hS ls hl
      refine lv_iload_n hx hb dX2_digest_6 rfl (lv_at hl 0 rfl) ?_
      refine lv_bipush (v := nI 11) hx hb dX2_digest_7 rfl ?_
      refine li_ge (tgt := 28) hx hb dX2_digest_9 (by decide) (by omega) (by omega) (fun c2 => ?_) (fun c2 => ?_)
      · skip
        refine lv_iconst (v := nI 0) hx hb dX2_digest_28 rfl ?_
        refine lv_istore_n (lv' := [(3, .int (nI 0)), (1, .long (dgN (alT n pl nw ns σ) 659 k)), (0, .ref (a 40))]) hx hb dX2_digest_29 rfl hl (by decide) rfl (fun ls hl => ?_)
        have L30_3 : ∀ (fuel : Nat) (k : Nat), (10 - k) < fuel → (k ≤ 10) → ∀ (locs : List Loc), va_S (fun _ => False) H H locs → ∀ (ls : Array Slot), lv_has ls 5 [(3, .int (nI k)), (1, .long (dgN (σ 3) (dgN (alT n pl nw ns σ) 659 11) k)), (0, .ref (a 40))] → W p l e ({ frames := 4, cells := 0, slots := 0, locals := 93 } : Room) s m args below meth c H locs 0 0 Q (F0 m 30 ls []) := by
          intro fuel
          induction fuel with
          | zero =>
            intro k hfuel
            exact absurd hfuel (Nat.not_lt_zero _)
          | succ fuel ih30 =>
            intro k hfuel30 hk locs hS ls hl
            refine lv_iload_n hx hb dX2_digest_30 rfl (lv_at hl 0 rfl) ?_
            refine lv_bipush (v := nI 10) hx hb dX2_digest_31 rfl ?_
            refine li_ge (tgt := 56) hx hb dX2_digest_33 (by decide) (by omega) (by omega) (fun c4 => ?_) (fun c4 => ?_)
            · skip
              refine lv_iconst (v := nI 0) hx hb dX2_digest_56 rfl ?_
              refine lv_istore_n (lv' := [(3, .int (nI 0)), (1, .long (dgN (σ 3) (dgN (alT n pl nw ns σ) 659 11) k)), (0, .ref (a 40))]) hx hb dX2_digest_57 rfl hl (by decide) rfl (fun ls hl => ?_)
              have L58_5 : ∀ (fuel : Nat) (k : Nat), (n - k) < fuel → (k ≤ n) → ∀ (locs : List Loc), va_S (fun _ => False) H H locs → ∀ (ls : Array Slot), lv_has ls 5 [(3, .int (nI k)), (1, .long (dgS n nw σ (dgN (σ 3) (dgN (alT n pl nw ns σ) 659 11) 10) k)), (0, .ref (a 40))] → W p l e ({ frames := 4, cells := 0, slots := 0, locals := 93 } : Room) s m args below meth c H locs 0 0 Q (F0 m 58 ls []) := by
                intro fuel
                induction fuel with
                | zero =>
                  intro k hfuel
                  exact absurd hfuel (Nat.not_lt_zero _)
                | succ fuel ih58 =>
                  intro k hfuel58 hk locs hS ls hl
                  refine lv_iload_n hx hb dX2_digest_58 rfl (lv_at hl 0 rfl) ?_
                  refine lv_aload_n hx hb dX2_digest_59 rfl (lv_at hl 2 rfl) ?_
                  refine li_gf2 hx hb hX2 hown hK hP 40 rfl 0 (by decide) f10 rfl dX2_digest_60 ?_
                  refine li_gf1 hx hb hX1 hown hK hP 16 rfl 0 (by decide) f35 rfl dX2_digest_63 ?_
                  refine li_ge (tgt := 103) hx hb dX2_digest_66 (by decide) (by omega) (by omega) (fun c6 => ?_) (fun c6 => ?_)
                  · skip
                    refine lv_iconst (v := nI 0) hx hb dX2_digest_103 rfl ?_
                    refine lv_istore_n (lv' := [(3, .int (nI 0)), (1, .long (dgS n nw σ (dgN (σ 3) (dgN (alT n pl nw ns σ) 659 11) 10) k)), (0, .ref (a 40))]) hx hb dX2_digest_104 rfl hl (by decide) rfl (fun ls hl => ?_)
                    have L105_7 : ∀ (fuel : Nat) (k : Nat), (nw - k) < fuel → (k ≤ nw) → ∀ (locs : List Loc), va_S (fun _ => False) H H locs → ∀ (ls : Array Slot), lv_has ls 5 [(3, .int (nI k)), (1, .long (dgW nw ns σ (dgS n nw σ (dgN (σ 3) (dgN (alT n pl nw ns σ) 659 11) 10) n) k)), (0, .ref (a 40))] → W p l e ({ frames := 4, cells := 0, slots := 0, locals := 93 } : Room) s m args below meth c H locs 0 0 Q (F0 m 105 ls []) := by
                      intro fuel
                      induction fuel with
                      | zero =>
                        intro k hfuel
                        exact absurd hfuel (Nat.not_lt_zero _)
                      | succ fuel ih105 =>
                        intro k hfuel105 hk locs hS ls hl
                        refine lv_iload_n hx hb dX2_digest_105 rfl (lv_at hl 0 rfl) ?_
                        refine lv_aload_n hx hb dX2_digest_106 rfl (lv_at hl 2 rfl) ?_
                        refine li_gf2 hx hb hX2 hown hK hP 40 rfl 0 (by decide) f10 rfl dX2_digest_107 ?_
                        refine li_gf1 hx hb hX1 hown hK hP 16 rfl 6 (by decide) f73 rfl dX2_digest_110 ?_
                        refine li_ge (tgt := 129) hx hb dX2_digest_113 (by decide) (by omega) (by omega) (fun c8 => ?_) (fun c8 => ?_)
                        · skip
                          refine lv_iconst (v := nI 0) hx hb dX2_digest_129 rfl ?_
                          refine lv_istore_n (lv' := [(3, .int (nI 0)), (1, .long (dgW nw ns σ (dgS n nw σ (dgN (σ 3) (dgN (alT n pl nw ns σ) 659 11) 10) n) k)), (0, .ref (a 40))]) hx hb dX2_digest_130 rfl hl (by decide) rfl (fun ls hl => ?_)
                          have L131_9 : ∀ (fuel : Nat) (k : Nat), (ns - k) < fuel → (k ≤ ns) → ∀ (locs : List Loc), va_S (fun _ => False) H H locs → ∀ (ls : Array Slot), lv_has ls 5 [(3, .int (nI k)), (1, .long (dgN (σ 6) (dgW nw ns σ (dgS n nw σ (dgN (σ 3) (dgN (alT n pl nw ns σ) 659 11) 10) n) nw) k)), (0, .ref (a 40))] → W p l e ({ frames := 4, cells := 0, slots := 0, locals := 93 } : Room) s m args below meth c H locs 0 0 Q (F0 m 131 ls []) := by
                            intro fuel
                            induction fuel with
                            | zero =>
                              intro k hfuel
                              exact absurd hfuel (Nat.not_lt_zero _)
                            | succ fuel ih131 =>
                              intro k hfuel131 hk locs hS ls hl
                              refine lv_iload_n hx hb dX2_digest_131 rfl (lv_at hl 0 rfl) ?_
                              refine lv_aload_n hx hb dX2_digest_132 rfl (lv_at hl 2 rfl) ?_
                              refine li_gf2 hx hb hX2 hown hK hP 40 rfl 0 (by decide) f10 rfl dX2_digest_133 ?_
                              refine li_gf1 hx hb hX1 hown hK hP 16 rfl 9 (by decide) f107 rfl dX2_digest_136 ?_
                              refine li_ge (tgt := 162) hx hb dX2_digest_139 (by decide) (by omega) (by omega) (fun c10 => ?_) (fun c10 => ?_)
                              · skip
                                refine lv_lload_n hx hb dX2_digest_162 rfl (lv_at hl 1 rfl) ?_
                                refine li_topl (show dgN (σ 6) (dgW nw ns σ (dgS n nw σ (dgN (σ 3) (dgN (alT n pl nw ns σ) 659 11) 10) n) nw) k = diV n pl nw ns σ from by rw [show k = ns by omega]; rfl) ?_
                                exact hEnd 163 ls locs dX2_digest_163 hS
                              · skip
                                refine lv_lload_n hx hb dX2_digest_142 rfl (lv_at hl 1 rfl) ?_
                                refine lv_aload_n hx hb dX2_digest_143 rfl (lv_at hl 2 rfl) ?_
                                refine li_gf2 hx hb hX2 hown hK hP 40 rfl 0 (by decide) f10 rfl dX2_digest_144 ?_
                                refine li_gf1 hx hb hX1 hown hK hP 16 rfl 10 (by decide) f141 rfl dX2_digest_147 ?_
                                refine lv_iload_n hx hb dX2_digest_150 rfl (lv_at hl 0 rfl) ?_
                                refine li_ild hx hb hK hP 23 0 rfl rfl (by omega) (by decide) dX2_digest_151 ?_
                                refine rlS (As := [.long (dgN (σ 6) (dgW nw ns σ (dgS n nw σ (dgN (σ 3) (dgN (alT n pl nw ns σ) 659 11) 10) n) nw) k), .int (σ 6 k)]) hx hb hml hown hts (c_X2_digestWith l D cI cZ cL cO H (dgN (σ 6) (dgW nw ns σ (dgS n nw σ (dgN (σ 3) (dgN (alT n pl nw ns σ) 659 11) 10) n) nw) k) (σ 6 k)) (cwS 2 hts gX2_digest_X2_digestWith rfl rfl rfl (by decide +kernel) ⟨by decide, by decide⟩) hK hE (hP.sub (ws' := []) [] rfl) rfl hl.1 rfl (Nat.le_of_ble_eq_true rfl) hS dX2_digest_152 ⟨Nat.zero_le _, Nat.zero_le _⟩ (fun locs hS => ?_)
                                refine lv_lstore_n (lv' := [(1, .long (dg1 (dgN (σ 6) (dgW nw ns σ (dgS n nw σ (dgN (σ 3) (dgN (alT n pl nw ns σ) 659 11) 10) n) nw) k) (σ 6 k))), (3, .int (nI k)), (0, .ref (a 40))]) hx hb dX2_digest_155 rfl hl (by decide) rfl (fun ls hl => ?_)
                                refine lv_iinc (v := nI (k + 1)) (lv' := [(3, .int (nI (k + 1))), (1, .long (dg1 (dgN (σ 6) (dgW nw ns σ (dgS n nw σ (dgN (σ 3) (dgN (alT n pl nw ns σ) 659 11) 10) n) nw) k) (σ 6 k))), (0, .ref (a 40))]) hx hb dX2_digest_156 hl (k := 1) rfl (nI_inc _ _) (by decide) rfl (fun ls hl => ?_)
                                refine lv_goto (tgt := 131) hx hb dX2_digest_159 (by decide) ?_
                                have hl9 : lv_has ls 5 [(3, .int (nI (k + 1))), (1, .long (dg1 (dgN (σ 6) (dgW nw ns σ (dgS n nw σ (dgN (σ 3) (dgN (alT n pl nw ns σ) 659 11) 10) n) nw) k) (σ 6 k))), (0, .ref (a 40))] := lv_sub hl [0, 1, 2] rfl
                                have hl9 : lv_has ls 5 [(3, .int (nI (k + 1))), (1, .long (dgN (σ 6) (dgW nw ns σ (dgS n nw σ (dgN (σ 3) (dgN (alT n pl nw ns σ) 659 11) 10) n) nw) (k + 1))), (0, .ref (a 40))] := lv_reg hl9 (i := 1) rfl (congrArg Value.long (show dg1 (dgN (σ 6) (dgW nw ns σ (dgS n nw σ (dgN (σ 3) (dgN (alT n pl nw ns σ) 659 11) 10) n) nw) k) (σ 6 k) = dgN (σ 6) (dgW nw ns σ (dgS n nw σ (dgN (σ 3) (dgN (alT n pl nw ns σ) 659 11) 10) n) nw) (k + 1) from rfl))
                                exact ih131 (k + 1) (by omega) (by omega) locs hS ls hl9
                          have hl9 : lv_has ls 5 [(3, .int (nI 0)), (1, .long (dgW nw ns σ (dgS n nw σ (dgN (σ 3) (dgN (alT n pl nw ns σ) 659 11) 10) n) k)), (0, .ref (a 40))] := lv_sub hl [0, 1, 2] rfl
                          have hl9 : lv_has ls 5 [(3, .int (nI 0)), (1, .long (dgN (σ 6) (dgW nw ns σ (dgS n nw σ (dgN (σ 3) (dgN (alT n pl nw ns σ) 659 11) 10) n) nw) 0)), (0, .ref (a 40))] := lv_reg hl9 (i := 1) rfl (congrArg Value.long (show dgW nw ns σ (dgS n nw σ (dgN (σ 3) (dgN (alT n pl nw ns σ) 659 11) 10) n) k = dgN (σ 6) (dgW nw ns σ (dgS n nw σ (dgN (σ 3) (dgN (alT n pl nw ns σ) 659 11) 10) n) nw) 0 from by rw [show k = nw by omega]; rfl))
                          exact L131_9 ((ns - 0) + 1) 0 (Nat.lt_succ_self _) (by omega) locs hS ls hl9
                        · skip
                          refine lv_aload_n hx hb dX2_digest_116 rfl (lv_at hl 2 rfl) ?_
                          refine lv_lload_n hx hb dX2_digest_117 rfl (lv_at hl 1 rfl) ?_
                          refine lv_iload_n hx hb dX2_digest_118 rfl (lv_at hl 0 rfl) ?_
                          refine rlV (As := [.long (dgW nw ns σ (dgS n nw σ (dgN (σ 3) (dgN (alT n pl nw ns σ) 659 11) 10) n) k), .int (nI k)]) (q0 := 40) (ci := 2) hx hb hml hown hts (c_X2_digestOfWalker l D cI cZ cL cO a n pl nw ns σ κ σ' κ' H (dgW nw ns σ (dgS n nw σ (dgN (σ 3) (dgN (alT n pl nw ns σ) 659 11) 10) n) k) k (hB) (by omega) (hz)) (cwV 2 hts gX2_digest_X2_digestOfWalker rfl rfl rfl (by decide +kernel) ⟨by decide, by decide⟩) hK hE hP rfl rfl rfl rfl hl.1 rfl (Nat.le_of_ble_eq_true rfl) hS dX2_digest_119 ⟨Nat.zero_le _, Nat.zero_le _⟩ (fun locs hS => ?_)
                          refine lv_lstore_n (lv' := [(1, .long (dgN (fun s9 => σ 16 (6 * k + s9)) (dgN (waT nw σ k) (dgW nw ns σ (dgS n nw σ (dgN (σ 3) (dgN (alT n pl nw ns σ) 659 11) 10) n) k) 9) ns)), (3, .int (nI k)), (0, .ref (a 40))]) hx hb dX2_digest_122 rfl hl (by decide) rfl (fun ls hl => ?_)
                          refine lv_iinc (v := nI (k + 1)) (lv' := [(3, .int (nI (k + 1))), (1, .long (dgN (fun s9 => σ 16 (6 * k + s9)) (dgN (waT nw σ k) (dgW nw ns σ (dgS n nw σ (dgN (σ 3) (dgN (alT n pl nw ns σ) 659 11) 10) n) k) 9) ns)), (0, .ref (a 40))]) hx hb dX2_digest_123 hl (k := 1) rfl (nI_inc _ _) (by decide) rfl (fun ls hl => ?_)
                          refine lv_goto (tgt := 105) hx hb dX2_digest_126 (by decide) ?_
                          have hl9 : lv_has ls 5 [(3, .int (nI (k + 1))), (1, .long (dgN (fun s9 => σ 16 (6 * k + s9)) (dgN (waT nw σ k) (dgW nw ns σ (dgS n nw σ (dgN (σ 3) (dgN (alT n pl nw ns σ) 659 11) 10) n) k) 9) ns)), (0, .ref (a 40))] := lv_sub hl [0, 1, 2] rfl
                          have hl9 : lv_has ls 5 [(3, .int (nI (k + 1))), (1, .long (dgW nw ns σ (dgS n nw σ (dgN (σ 3) (dgN (alT n pl nw ns σ) 659 11) 10) n) (k + 1))), (0, .ref (a 40))] := lv_reg hl9 (i := 1) rfl (congrArg Value.long (show dgN (fun s9 => σ 16 (6 * k + s9)) (dgN (waT nw σ k) (dgW nw ns σ (dgS n nw σ (dgN (σ 3) (dgN (alT n pl nw ns σ) 659 11) 10) n) k) 9) ns = dgW nw ns σ (dgS n nw σ (dgN (σ 3) (dgN (alT n pl nw ns σ) 659 11) 10) n) (k + 1) from rfl))
                          exact ih105 (k + 1) (by omega) (by omega) locs hS ls hl9
                    have hl9 : lv_has ls 5 [(3, .int (nI 0)), (1, .long (dgS n nw σ (dgN (σ 3) (dgN (alT n pl nw ns σ) 659 11) 10) k)), (0, .ref (a 40))] := lv_sub hl [0, 1, 2] rfl
                    have hl9 : lv_has ls 5 [(3, .int (nI 0)), (1, .long (dgW nw ns σ (dgS n nw σ (dgN (σ 3) (dgN (alT n pl nw ns σ) 659 11) 10) n) 0)), (0, .ref (a 40))] := lv_reg hl9 (i := 1) rfl (congrArg Value.long (show dgS n nw σ (dgN (σ 3) (dgN (alT n pl nw ns σ) 659 11) 10) k = dgW nw ns σ (dgS n nw σ (dgN (σ 3) (dgN (alT n pl nw ns σ) 659 11) 10) n) 0 from by rw [show k = n by omega]; rfl))
                    exact L105_7 ((nw - 0) + 1) 0 (Nat.lt_succ_self _) (by omega) locs hS ls hl9
                  · skip
                    refine lv_iconst (v := nI 0) hx hb dX2_digest_69 rfl ?_
                    refine lv_istore (lv' := [(4, .int (nI 0)), (3, .int (nI k)), (1, .long (dgS n nw σ (dgN (σ 3) (dgN (alT n pl nw ns σ) 659 11) 10) k)), (0, .ref (a 40))]) hx hb dX2_digest_70 hl (by decide) rfl (fun ls hl => ?_)
                    have L72_11 : ∀ (fuel : Nat) (j : Nat), (6 - j) < fuel → (j ≤ 6) → ∀ (locs : List Loc), va_S (fun _ => False) H H locs → ∀ (ls : Array Slot), lv_has ls 5 [(4, .int (nI j)), (3, .int (nI k)), (1, .long (dgN (stT n nw σ k) (dgS n nw σ (dgN (σ 3) (dgN (alT n pl nw ns σ) 659 11) 10) k) j)), (0, .ref (a 40))] → W p l e ({ frames := 4, cells := 0, slots := 0, locals := 93 } : Room) s m args below meth c H locs 0 0 Q (F0 m 72 ls []) := by
                      intro fuel
                      induction fuel with
                      | zero =>
                        intro j hfuel
                        exact absurd hfuel (Nat.not_lt_zero _)
                      | succ fuel ih72 =>
                        intro j hfuel72 hj locs hS ls hl
                        refine lv_iload hx hb dX2_digest_72 (lv_at hl 0 rfl) ?_
                        refine lv_bipush (v := nI 6) hx hb dX2_digest_74 rfl ?_
                        refine li_ge (tgt := 97) hx hb dX2_digest_76 (by decide) (by omega) (by omega) (fun c12 => ?_) (fun c12 => ?_)
                        · skip
                          refine lv_iinc (v := nI (k + 1)) (lv' := [(3, .int (nI (k + 1))), (4, .int (nI j)), (1, .long (dgN (stT n nw σ k) (dgS n nw σ (dgN (σ 3) (dgN (alT n pl nw ns σ) 659 11) 10) k) j)), (0, .ref (a 40))]) hx hb dX2_digest_97 hl (k := 1) rfl (nI_inc _ _) (by decide) rfl (fun ls hl => ?_)
                          refine lv_goto (tgt := 58) hx hb dX2_digest_100 (by decide) ?_
                          have hl9 : lv_has ls 5 [(3, .int (nI (k + 1))), (1, .long (dgN (stT n nw σ k) (dgS n nw σ (dgN (σ 3) (dgN (alT n pl nw ns σ) 659 11) 10) k) j)), (0, .ref (a 40))] := lv_sub hl [0, 2, 3] rfl
                          have hl9 : lv_has ls 5 [(3, .int (nI (k + 1))), (1, .long (dgS n nw σ (dgN (σ 3) (dgN (alT n pl nw ns σ) 659 11) 10) (k + 1))), (0, .ref (a 40))] := lv_reg hl9 (i := 1) rfl (congrArg Value.long (show dgN (stT n nw σ k) (dgS n nw σ (dgN (σ 3) (dgN (alT n pl nw ns σ) 659 11) 10) k) j = dgS n nw σ (dgN (σ 3) (dgN (alT n pl nw ns σ) 659 11) 10) (k + 1) from by rw [show j = 6 by omega]; rfl))
                          exact ih58 (k + 1) (by omega) (by omega) locs hS ls hl9
                        · skip
                          refine lv_lload_n hx hb dX2_digest_79 rfl (lv_at hl 2 rfl) ?_
                          refine lv_aload_n hx hb dX2_digest_80 rfl (lv_at hl 3 rfl) ?_
                          refine lv_iload_n hx hb dX2_digest_81 rfl (lv_at hl 1 rfl) ?_
                          refine lv_iload hx hb dX2_digest_82 (lv_at hl 0 rfl) ?_
                          refine roV (As := [.int (nI k), .int (nI j)]) (q0 := 40) (ci := 2) hx hb hml hown hts (c_X2_tellOfStretch l D cI cZ cL cO a n pl nw ns σ κ σ' κ' H k j (hB) (by omega) (by omega)) (cwV 2 hts gX2_digest_X2_tellOfStretch rfl rfl rfl (by decide +kernel) ⟨by decide, by decide⟩) hK hE hP rfl rfl rfl rfl hl.1 rfl (Nat.le_of_ble_eq_true rfl) hS dX2_digest_84 ⟨Nat.zero_le _, Nat.zero_le _⟩ (fun locs hS => ?_)
                          refine rlS (As := [.long (dgN (stT n nw σ k) (dgS n nw σ (dgN (σ 3) (dgN (alT n pl nw ns σ) 659 11) 10) k) j), .int (stT n nw σ k j)]) hx hb hml hown hts (c_X2_digestWith l D cI cZ cL cO H (dgN (stT n nw σ k) (dgS n nw σ (dgN (σ 3) (dgN (alT n pl nw ns σ) 659 11) 10) k) j) (stT n nw σ k j)) (cwS 2 hts gX2_digest_X2_digestWith rfl rfl rfl (by decide +kernel) ⟨by decide, by decide⟩) hK hE (hP.sub (ws' := []) [] rfl) rfl hl.1 rfl (Nat.le_of_ble_eq_true rfl) hS dX2_digest_87 ⟨Nat.zero_le _, Nat.zero_le _⟩ (fun locs hS => ?_)
                          refine lv_lstore_n (lv' := [(1, .long (dg1 (dgN (stT n nw σ k) (dgS n nw σ (dgN (σ 3) (dgN (alT n pl nw ns σ) 659 11) 10) k) j) (stT n nw σ k j))), (4, .int (nI j)), (3, .int (nI k)), (0, .ref (a 40))]) hx hb dX2_digest_90 rfl hl (by decide) rfl (fun ls hl => ?_)
                          refine lv_iinc (v := nI (j + 1)) (lv' := [(4, .int (nI (j + 1))), (1, .long (dg1 (dgN (stT n nw σ k) (dgS n nw σ (dgN (σ 3) (dgN (alT n pl nw ns σ) 659 11) 10) k) j) (stT n nw σ k j))), (3, .int (nI k)), (0, .ref (a 40))]) hx hb dX2_digest_91 hl (k := 1) rfl (nI_inc _ _) (by decide) rfl (fun ls hl => ?_)
                          refine lv_goto (tgt := 72) hx hb dX2_digest_94 (by decide) ?_
                          have hl9 : lv_has ls 5 [(4, .int (nI (j + 1))), (3, .int (nI k)), (1, .long (dg1 (dgN (stT n nw σ k) (dgS n nw σ (dgN (σ 3) (dgN (alT n pl nw ns σ) 659 11) 10) k) j) (stT n nw σ k j))), (0, .ref (a 40))] := lv_sub hl [0, 2, 1, 3] rfl
                          have hl9 : lv_has ls 5 [(4, .int (nI (j + 1))), (3, .int (nI k)), (1, .long (dgN (stT n nw σ k) (dgS n nw σ (dgN (σ 3) (dgN (alT n pl nw ns σ) 659 11) 10) k) (j + 1))), (0, .ref (a 40))] := lv_reg hl9 (i := 2) rfl (congrArg Value.long (show dg1 (dgN (stT n nw σ k) (dgS n nw σ (dgN (σ 3) (dgN (alT n pl nw ns σ) 659 11) 10) k) j) (stT n nw σ k j) = dgN (stT n nw σ k) (dgS n nw σ (dgN (σ 3) (dgN (alT n pl nw ns σ) 659 11) 10) k) (j + 1) from rfl))
                          exact ih72 (j + 1) (by omega) (by omega) locs hS ls hl9
                    have hl9 : lv_has ls 5 [(4, .int (nI 0)), (3, .int (nI k)), (1, .long (dgS n nw σ (dgN (σ 3) (dgN (alT n pl nw ns σ) 659 11) 10) k)), (0, .ref (a 40))] := lv_sub hl [0, 1, 2, 3] rfl
                    have hl9 : lv_has ls 5 [(4, .int (nI 0)), (3, .int (nI k)), (1, .long (dgN (stT n nw σ k) (dgS n nw σ (dgN (σ 3) (dgN (alT n pl nw ns σ) 659 11) 10) k) 0)), (0, .ref (a 40))] := lv_reg hl9 (i := 2) rfl (congrArg Value.long (show dgS n nw σ (dgN (σ 3) (dgN (alT n pl nw ns σ) 659 11) 10) k = dgN (stT n nw σ k) (dgS n nw σ (dgN (σ 3) (dgN (alT n pl nw ns σ) 659 11) 10) k) 0 from rfl))
                    exact L72_11 ((6 - 0) + 1) 0 (Nat.lt_succ_self _) (by omega) locs hS ls hl9
              have hl9 : lv_has ls 5 [(3, .int (nI 0)), (1, .long (dgN (σ 3) (dgN (alT n pl nw ns σ) 659 11) k)), (0, .ref (a 40))] := lv_sub hl [0, 1, 2] rfl
              have hl9 : lv_has ls 5 [(3, .int (nI 0)), (1, .long (dgS n nw σ (dgN (σ 3) (dgN (alT n pl nw ns σ) 659 11) 10) 0)), (0, .ref (a 40))] := lv_reg hl9 (i := 1) rfl (congrArg Value.long (show dgN (σ 3) (dgN (alT n pl nw ns σ) 659 11) k = dgS n nw σ (dgN (σ 3) (dgN (alT n pl nw ns σ) 659 11) 10) 0 from by rw [show k = 10 by omega]; rfl))
              exact L58_5 ((n - 0) + 1) 0 (Nat.lt_succ_self _) (by omega) locs hS ls hl9
            · skip
              refine lv_lload_n hx hb dX2_digest_36 rfl (lv_at hl 1 rfl) ?_
              refine lv_aload_n hx hb dX2_digest_37 rfl (lv_at hl 2 rfl) ?_
              refine li_gf2 hx hb hX2 hown hK hP 40 rfl 0 (by decide) f10 rfl dX2_digest_38 ?_
              refine li_gf1 hx hb hX1 hown hK hP 16 rfl 5 (by decide) f68 rfl dX2_digest_41 ?_
              refine lv_iload_n hx hb dX2_digest_44 rfl (lv_at hl 0 rfl) ?_
              refine li_ild hx hb hK hP 20 0 rfl rfl (by omega) (by decide) dX2_digest_45 ?_
              refine rlS (As := [.long (dgN (σ 3) (dgN (alT n pl nw ns σ) 659 11) k), .int (σ 3 k)]) hx hb hml hown hts (c_X2_digestWith l D cI cZ cL cO H (dgN (σ 3) (dgN (alT n pl nw ns σ) 659 11) k) (σ 3 k)) (cwS 2 hts gX2_digest_X2_digestWith rfl rfl rfl (by decide +kernel) ⟨by decide, by decide⟩) hK hE (hP.sub (ws' := []) [] rfl) rfl hl.1 rfl (Nat.le_of_ble_eq_true rfl) hS dX2_digest_46 ⟨Nat.zero_le _, Nat.zero_le _⟩ (fun locs hS => ?_)
              refine lv_lstore_n (lv' := [(1, .long (dg1 (dgN (σ 3) (dgN (alT n pl nw ns σ) 659 11) k) (σ 3 k))), (3, .int (nI k)), (0, .ref (a 40))]) hx hb dX2_digest_49 rfl hl (by decide) rfl (fun ls hl => ?_)
              refine lv_iinc (v := nI (k + 1)) (lv' := [(3, .int (nI (k + 1))), (1, .long (dg1 (dgN (σ 3) (dgN (alT n pl nw ns σ) 659 11) k) (σ 3 k))), (0, .ref (a 40))]) hx hb dX2_digest_50 hl (k := 1) rfl (nI_inc _ _) (by decide) rfl (fun ls hl => ?_)
              refine lv_goto (tgt := 30) hx hb dX2_digest_53 (by decide) ?_
              have hl9 : lv_has ls 5 [(3, .int (nI (k + 1))), (1, .long (dg1 (dgN (σ 3) (dgN (alT n pl nw ns σ) 659 11) k) (σ 3 k))), (0, .ref (a 40))] := lv_sub hl [0, 1, 2] rfl
              have hl9 : lv_has ls 5 [(3, .int (nI (k + 1))), (1, .long (dgN (σ 3) (dgN (alT n pl nw ns σ) 659 11) (k + 1))), (0, .ref (a 40))] := lv_reg hl9 (i := 1) rfl (congrArg Value.long (show dg1 (dgN (σ 3) (dgN (alT n pl nw ns σ) 659 11) k) (σ 3 k) = dgN (σ 3) (dgN (alT n pl nw ns σ) 659 11) (k + 1) from rfl))
              exact ih30 (k + 1) (by omega) (by omega) locs hS ls hl9
        have hl9 : lv_has ls 5 [(3, .int (nI 0)), (1, .long (dgN (alT n pl nw ns σ) 659 k)), (0, .ref (a 40))] := lv_sub hl [0, 1, 2] rfl
        have hl9 : lv_has ls 5 [(3, .int (nI 0)), (1, .long (dgN (σ 3) (dgN (alT n pl nw ns σ) 659 11) 0)), (0, .ref (a 40))] := lv_reg hl9 (i := 1) rfl (congrArg Value.long (show dgN (alT n pl nw ns σ) 659 k = dgN (σ 3) (dgN (alT n pl nw ns σ) 659 11) 0 from by rw [show k = 11 by omega]; rfl))
        exact L30_3 ((10 - 0) + 1) 0 (Nat.lt_succ_self _) (by omega) locs hS ls hl9
      · skip
        refine lv_lload_n hx hb dX2_digest_12 rfl (lv_at hl 1 rfl) ?_
        refine lv_aload_n hx hb dX2_digest_13 rfl (lv_at hl 2 rfl) ?_
        refine lv_iload_n hx hb dX2_digest_14 rfl (lv_at hl 0 rfl) ?_
        refine roV (As := [.int (nI k)]) (q0 := 40) (ci := 2) hx hb hml hown hts (c_X2_tellOfAll l D cI cZ cL cO a n pl nw ns σ κ σ' κ' H k (hB) (by omega)) (cwV 1 hts gX2_digest_X2_tellOfAll rfl rfl rfl (by decide +kernel) ⟨by decide, by decide⟩) hK hE hP rfl rfl rfl rfl hl.1 rfl (Nat.le_of_ble_eq_true rfl) hS dX2_digest_15 ⟨Nat.zero_le _, Nat.zero_le _⟩ (fun locs hS => ?_)
        refine rlS (As := [.long (dgN (alT n pl nw ns σ) 659 k), .int (alT n pl nw ns σ k)]) hx hb hml hown hts (c_X2_digestWith l D cI cZ cL cO H (dgN (alT n pl nw ns σ) 659 k) (alT n pl nw ns σ k)) (cwS 2 hts gX2_digest_X2_digestWith rfl rfl rfl (by decide +kernel) ⟨by decide, by decide⟩) hK hE (hP.sub (ws' := []) [] rfl) rfl hl.1 rfl (Nat.le_of_ble_eq_true rfl) hS dX2_digest_18 ⟨Nat.zero_le _, Nat.zero_le _⟩ (fun locs hS => ?_)
        refine lv_lstore_n (lv' := [(1, .long (dg1 (dgN (alT n pl nw ns σ) 659 k) (alT n pl nw ns σ k))), (3, .int (nI k)), (0, .ref (a 40))]) hx hb dX2_digest_21 rfl hl (by decide) rfl (fun ls hl => ?_)
        refine lv_iinc (v := nI (k + 1)) (lv' := [(3, .int (nI (k + 1))), (1, .long (dg1 (dgN (alT n pl nw ns σ) 659 k) (alT n pl nw ns σ k))), (0, .ref (a 40))]) hx hb dX2_digest_22 hl (k := 1) rfl (nI_inc _ _) (by decide) rfl (fun ls hl => ?_)
        refine lv_goto (tgt := 6) hx hb dX2_digest_25 (by decide) ?_
        have hl9 : lv_has ls 5 [(3, .int (nI (k + 1))), (1, .long (dg1 (dgN (alT n pl nw ns σ) 659 k) (alT n pl nw ns σ k))), (0, .ref (a 40))] := lv_sub hl [0, 1, 2] rfl
        have hl9 : lv_has ls 5 [(3, .int (nI (k + 1))), (1, .long (dgN (alT n pl nw ns σ) 659 (k + 1))), (0, .ref (a 40))] := lv_reg hl9 (i := 1) rfl (congrArg Value.long (show dg1 (dgN (alT n pl nw ns σ) 659 k) (alT n pl nw ns σ k) = dgN (alT n pl nw ns σ) 659 (k + 1) from rfl))
        exact ih6 (k + 1) (by omega) (by omega) locs hS ls hl9
  have hl9 : lv_has ls 5 [(3, .int (nI 0)), (1, .long 659), (0, .ref (a 40))] := lv_sub hl [0, 1, 2] rfl
  have hl9 : lv_has ls 5 [(3, .int (nI 0)), (1, .long (dgN (alT n pl nw ns σ) 659 0)), (0, .ref (a 40))] := lv_reg hl9 (i := 1) rfl (congrArg Value.long (show 659 = dgN (alT n pl nw ns σ) 659 0 from rfl))
  exact L6_1 ((11 - 0) + 1) 0 (Nat.lt_succ_self _) (by omega) locs hS ls hl9
set_option maxHeartbeats 4000000 in
set_option maxRecDepth 100000 in
theorem c_X2_light (l : Launch) (D : va_G) (cI cZ cL cO : ClassId) (a : Nat → Nat) (n pl nw ns : Nat) (σ κ σ' κ' : Sg) (H : Heap) (A : Nat → Prop) (hA : okP A a 41) (hB : n ≤ 10 ∧ pl ≤ 200 ∧ nw ≤ 20 ∧ ns ≤ 6) : Met l yX2_light wsX2_light ({ frames := 1, cells := 0, slots := 0, locals := 23 } : Room) (ro_P D (T4 cI cZ cL cO) (wX cI cZ a n pl nw ns σ κ σ' κ') H [.ref (a 40)]) (md_Q D (liV nw σ) (wX cI cZ a n pl nw ns σ κ σ' κ') A) 0 0 A := by
  refine mdz_of (cc := cX2_light) (maxL := 2) (by decide) rfl (Nat.le_of_ble_eq_true rfl) ?_
  intro p e s m args below meth c Q ls locs hx hb hml hown hts hK hE hP hl hS hEnd
  have hl : lv_has ls 2 [(0, .ref (a 40))] := hl
  have hX2 : ∀ w ∈ wsX20, w.before args s = true := fun w h => hts w (List.mem_cons_of_mem _ (List.mem_append_left _ (List.mem_append_left _ (List.mem_append_right _ (h)))))
  have f21 : (Cond.fieldLink RX2 21 "LanternWalk" "now" "LLanternWalk$Parade;").before args s = true := hts _ (List.mem_of_getElem? (i := 1) rfl)
  refine lv_aload_n hx hb dX2_light_0 rfl (lv_at hl 0 rfl) ?_
  refine li_gf2 hx hb hX2 hown hK hP 40 rfl 1 (by decide) f21 rfl dX2_light_1 ?_
  refine lv_iconst (v := nI 1) hx hb dX2_light_4 rfl ?_
  refine roV (As := [.int (nI 1)]) (q0 := 0) (ci := 0) hx hb hml hown hts (c_X0_howManyAre l D cI cZ cL cO a n pl nw ns σ κ H (nI 1) (hB)) (cwV 1 hts gX2_light_X0_howManyAre rfl rfl rfl (by decide +kernel) ⟨by decide, by decide⟩) hK hE (hP.sub (ws' := wP cI cZ a n pl nw ns σ κ) i24 rfl) rfl rfl rfl rfl hl.1 rfl (Nat.le_of_ble_eq_true rfl) hS dX2_light_5 ⟨Nat.zero_le _, Nat.zero_le _⟩ (fun locs hS => ?_)
  refine lv_istore_n (lv' := [(1, .int (nI (hm σ nw (nI 1)))), (0, .ref (a 40))]) hx hb dX2_light_8 rfl hl (by decide) rfl (fun ls hl => ?_)
  refine lv_iload_n hx hb dX2_light_9 rfl (lv_at hl 0 rfl) ?_
  refine li_ne0 (tgt := 15) hx hb dX2_light_10 (by decide) (by first | omega | (have := hm_le (σ := σ) (nw := nw) (x := nI 1); omega)) (fun c1 => ?_) (fun c1 => ?_)
  · skip
    refine lv_aload_n hx hb dX2_light_15 rfl (lv_at hl 1 rfl) ?_
    refine li_gf2 hx hb hX2 hown hK hP 40 rfl 1 (by decide) f21 rfl dX2_light_16 ?_
    refine roV (As := []) (q0 := 0) (ci := 0) hx hb hml hown hts (c_X0_lanternsBurning l D cI cZ cL cO a n pl nw ns σ κ H (hB)) (cwV 0 hts gX2_light_X0_lanternsBurning rfl rfl rfl (by decide +kernel) ⟨by decide, by decide⟩) hK hE (hP.sub (ws' := wP cI cZ a n pl nw ns σ κ) i24 rfl) rfl rfl rfl rfl hl.1 rfl (Nat.le_of_ble_eq_true rfl) hS dX2_light_19 ⟨Nat.zero_le _, Nat.zero_le _⟩ (fun locs hS => ?_)
    refine lv_i2d hx hb dX2_light_22 ?_
    refine lv_iload_n hx hb dX2_light_23 rfl (lv_at hl 0 rfl) ?_
    refine lv_i2d hx hb dX2_light_24 ?_
    refine lv_ddiv hx hb dX2_light_25 (nd_li hB.2.2.1 (by omega)) ?_
    refine li_topd (show FP.ddiv (FP.i2d (nI (lb σ nw))) (FP.i2d (nI (hm σ nw (nI 1)))) = liV nw σ from by unfold liV; first | rw [if_pos (by omega)] | rw [if_neg (by omega)]) ?_
    exact hEnd 26 ls H locs dX2_light_26 hP hS
  · skip
    refine lv_dconst0 hx hb dX2_light_13 ?_
    refine li_topd (show FP.dconst0 = liV nw σ from by unfold liV; first | rw [if_pos (by omega)] | rw [if_neg (by omega)]) ?_
    exact hEnd 14 ls H locs dX2_light_14 hP hS
