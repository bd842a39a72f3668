/-! the class: becomeLike, the setting's rows -/
theorem bz_0 {σ : Sg} {w : Nat} (c : σ 11 w = 0) : nI 0 = σ 11 w := by rw [c]; rfl
theorem bz_1 {σ : Sg} {w : Nat} (h : bz σ) (c : ¬ σ 11 w = 0) : nI 1 = σ 11 w := by
  rcases h w with q | q
  · exact absurd (q.trans nI_0) c
  · exact q.symm
set_option maxHeartbeats 4000000 in
set_option maxRecDepth 100000 in
theorem c_X0_becomeLike (l : Launch) (D : va_G) (cI cZ cL cO : ClassId) (a : Nat → Nat) (n pl nw ns : Nat) (σ κ σ' κ' : Sg) (H : Heap) (A : Nat → Prop) (hA : okP A a 41) (hB : n ≤ 10 ∧ pl ≤ 200 ∧ nw ≤ 20 ∧ ns ≤ 6) (hz : bz σ) : Met l yX0_becomeLike wsX0_becomeLike ({ frames := 2, cells := 0, slots := 0, locals := 51 } : Room) (ro_P D (T4 cI cZ cL cO) (wX cI cZ a n pl nw ns σ κ σ' κ') H [.ref (a 24), .ref (a 0)]) (mu_Q D (wX cI cZ a n pl nw ns σ κ σ κ') A) 0 0 A := by
  refine mu_of (cc := cX0_becomeLike) (maxL := 2) (by decide) rfl (Nat.le_of_ble_eq_true rfl) ?_
  intro p e s m args below meth c Q ls locs hx hb hml hown hts hK hE hP hl hS hEnd
  have hl : lv_has ls 2 [(0, .ref (a 24)), (1, .ref (a 0))] := hl
  have hX0 : ∀ w ∈ wsX00, w.before args s = true := fun w h => hts w (List.mem_cons_of_mem _ (List.mem_append_right _ (h)))
  have f68 : (Cond.fieldLink RX0 68 "LanternWalk$Parade" "step" "I").before args s = true := hts _ (List.mem_of_getElem? (i := 1) rfl)
  have f9 : (Cond.fieldLink RX0 9 "LanternWalk$Parade" "corner" "[I").before args s = true := hts _ (List.mem_of_getElem? (i := 2) rfl)
  have f15 : (Cond.fieldLink RX0 15 "LanternWalk$Parade" "passed" "[I").before args s = true := hts _ (List.mem_of_getElem? (i := 3) rfl)
  have f18 : (Cond.fieldLink RX0 18 "LanternWalk$Parade" "stopped" "[I").before args s = true := hts _ (List.mem_of_getElem? (i := 4) rfl)
  have f21 : (Cond.fieldLink RX0 21 "LanternWalk$Parade" "wick" "[I").before args s = true := hts _ (List.mem_of_getElem? (i := 5) rfl)
  have f24 : (Cond.fieldLink RX0 24 "LanternWalk$Parade" "burns" "[Z").before args s = true := hts _ (List.mem_of_getElem? (i := 6) rfl)
  have f28 : (Cond.fieldLink RX0 28 "LanternWalk$Parade" "stage" "[I").before args s = true := hts _ (List.mem_of_getElem? (i := 7) rfl)
  have f31 : (Cond.fieldLink RX0 31 "LanternWalk$Parade" "place" "[I").before args s = true := hts _ (List.mem_of_getElem? (i := 8) rfl)
  have f34 : (Cond.fieldLink RX0 34 "LanternWalk$Parade" "dark" "[I").before args s = true := hts _ (List.mem_of_getElem? (i := 9) rfl)
  have f37 : (Cond.fieldLink RX0 37 "LanternWalk$Parade" "cameHome" "[I").before args s = true := hts _ (List.mem_of_getElem? (i := 10) rfl)
  have f40 : (Cond.fieldLink RX0 40 "LanternWalk$Parade" "known" "[I").before args s = true := hts _ (List.mem_of_getElem? (i := 11) rfl)
  refine lv_aload_n hx hb dX0_becomeLike_0 rfl (lv_at hl 0 rfl) ?_
  refine lv_aload_n hx hb dX0_becomeLike_1 rfl (lv_at hl 1 rfl) ?_
  refine li_gf0 hx hb hX0 hown hK hP 0 rfl 1 (by decide) f68 rfl dX0_becomeLike_2 ?_
  refine li_pf0 hx hb hX0 hown hK hP hA.DX41 hS 24 rfl 1 (by decide) f68 rfl rfl rfl (Nat.le_of_ble_eq_true rfl) stY_17 dX0_becomeLike_5 (fun G locs hP hS => ?_)
  refine lv_aload_n hx hb dX0_becomeLike_8 rfl (lv_at hl 1 rfl) ?_
  refine li_gf0 hx hb hX0 hown hK hP 0 rfl 2 (by decide) f9 rfl dX0_becomeLike_9 ?_
  refine lv_aload_n hx hb dX0_becomeLike_12 rfl (lv_at hl 0 rfl) ?_
  refine li_gf0 hx hb hX0 hown hK hP 24 rfl 2 (by decide) f9 rfl dX0_becomeLike_13 ?_
  refine cpS (q0 := 1) (q1 := 25) hx hb hml hown hts (c_X0_copyNumbers l D cI cZ cL cO G (a 1) (a 25) 2 (σ 7) ((up2 σ' 17 0 (σ 17 0)) 7) (fun q => q = a 1 ∨ q = a 25) (fun _ _ => D2_ (hA.ne (i := 1) (j := 25) (by decide) (by decide) (by decide)) (Or.inl rfl) (Or.inr rfl)) (by decide)) (cwS 2 hts gX0_becomeLike_X0_copyNumbers rfl rfl rfl (by decide +kernel) ⟨by decide, by decide⟩) hK hE hP hA.DX41 rfl rfl (by decide) srY_7 hl.1 (Nat.le_of_ble_eq_true rfl) hS dX0_becomeLike_16 ⟨Nat.zero_le _, Nat.zero_le _⟩ (fun G locs hP hS => ?_)
  refine lv_aload_n hx hb dX0_becomeLike_19 rfl (lv_at hl 1 rfl) ?_
  refine li_gf0 hx hb hX0 hown hK hP 0 rfl 3 (by decide) f15 rfl dX0_becomeLike_20 ?_
  refine lv_aload_n hx hb dX0_becomeLike_23 rfl (lv_at hl 0 rfl) ?_
  refine li_gf0 hx hb hX0 hown hK hP 24 rfl 3 (by decide) f15 rfl dX0_becomeLike_24 ?_
  refine cpS (q0 := 2) (q1 := 26) hx hb hml hown hts (c_X0_copyNumbers l D cI cZ cL cO G (a 2) (a 26) 10 (σ 8) ((va_up (up2 σ' 17 0 (σ 17 0)) 7 (σ 7)) 8) (fun q => q = a 2 ∨ q = a 26) (fun _ _ => D2_ (hA.ne (i := 2) (j := 26) (by decide) (by decide) (by decide)) (Or.inl rfl) (Or.inr rfl)) (by decide)) (cwS 2 hts gX0_becomeLike_X0_copyNumbers rfl rfl rfl (by decide +kernel) ⟨by decide, by decide⟩) hK hE hP hA.DX41 rfl rfl (by decide) srY_8 hl.1 (Nat.le_of_ble_eq_true rfl) hS dX0_becomeLike_27 ⟨Nat.zero_le _, Nat.zero_le _⟩ (fun G locs hP hS => ?_)
  refine lv_aload_n hx hb dX0_becomeLike_30 rfl (lv_at hl 1 rfl) ?_
  refine li_gf0 hx hb hX0 hown hK hP 0 rfl 4 (by decide) f18 rfl dX0_becomeLike_31 ?_
  refine lv_aload_n hx hb dX0_becomeLike_34 rfl (lv_at hl 0 rfl) ?_
  refine li_gf0 hx hb hX0 hown hK hP 24 rfl 4 (by decide) f18 rfl dX0_becomeLike_35 ?_
  refine cpS (q0 := 3) (q1 := 27) hx hb hml hown hts (c_X0_copyNumbers l D cI cZ cL cO G (a 3) (a 27) 10 (σ 9) ((va_up (va_up (up2 σ' 17 0 (σ 17 0)) 7 (σ 7)) 8 (σ 8)) 9) (fun q => q = a 3 ∨ q = a 27) (fun _ _ => D2_ (hA.ne (i := 3) (j := 27) (by decide) (by decide) (by decide)) (Or.inl rfl) (Or.inr rfl)) (by decide)) (cwS 2 hts gX0_becomeLike_X0_copyNumbers rfl rfl rfl (by decide +kernel) ⟨by decide, by decide⟩) hK hE hP hA.DX41 rfl rfl (by decide) srY_9 hl.1 (Nat.le_of_ble_eq_true rfl) hS dX0_becomeLike_38 ⟨Nat.zero_le _, Nat.zero_le _⟩ (fun G locs hP hS => ?_)
  refine lv_aload_n hx hb dX0_becomeLike_41 rfl (lv_at hl 1 rfl) ?_
  refine li_gf0 hx hb hX0 hown hK hP 0 rfl 5 (by decide) f21 rfl dX0_becomeLike_42 ?_
  refine lv_aload_n hx hb dX0_becomeLike_45 rfl (lv_at hl 0 rfl) ?_
  refine li_gf0 hx hb hX0 hown hK hP 24 rfl 5 (by decide) f21 rfl dX0_becomeLike_46 ?_
  refine cpS (q0 := 4) (q1 := 28) hx hb hml hown hts (c_X0_copyNumbers l D cI cZ cL cO G (a 4) (a 28) 20 (σ 10) ((va_up (va_up (va_up (up2 σ' 17 0 (σ 17 0)) 7 (σ 7)) 8 (σ 8)) 9 (σ 9)) 10) (fun q => q = a 4 ∨ q = a 28) (fun _ _ => D2_ (hA.ne (i := 4) (j := 28) (by decide) (by decide) (by decide)) (Or.inl rfl) (Or.inr rfl)) (by decide)) (cwS 2 hts gX0_becomeLike_X0_copyNumbers rfl rfl rfl (by decide +kernel) ⟨by decide, by decide⟩) hK hE hP hA.DX41 rfl rfl (by decide) srY_10 hl.1 (Nat.le_of_ble_eq_true rfl) hS dX0_becomeLike_49 ⟨Nat.zero_le _, Nat.zero_le _⟩ (fun G locs hP hS => ?_)
  refine lv_aload_n hx hb dX0_becomeLike_52 rfl (lv_at hl 1 rfl) ?_
  refine li_gf0 hx hb hX0 hown hK hP 0 rfl 6 (by decide) f24 rfl dX0_becomeLike_53 ?_
  refine lv_aload_n hx hb dX0_becomeLike_56 rfl (lv_at hl 0 rfl) ?_
  refine li_gf0 hx hb hX0 hown hK hP 24 rfl 6 (by decide) f24 rfl dX0_becomeLike_57 ?_
  refine cpS (q0 := 5) (q1 := 29) hx hb hml hown hts (c_X0_copyFlags l D cI cZ cL cO G (a 5) (a 29) 20 (σ 11) ((va_up (va_up (va_up (va_up (up2 σ' 17 0 (σ 17 0)) 7 (σ 7)) 8 (σ 8)) 9 (σ 9)) 10 (σ 10)) 11) (fun q => q = a 5 ∨ q = a 29) (fun _ _ => D2_ (hA.ne (i := 5) (j := 29) (by decide) (by decide) (by decide)) (Or.inl rfl) (Or.inr rfl)) (by decide) (fun i _ => bz_v hz i)) (cwS 2 hts gX0_becomeLike_X0_copyFlags rfl rfl rfl (by decide +kernel) ⟨by decide, by decide⟩) hK hE hP hA.DX41 rfl rfl (by decide) srY_11 hl.1 (Nat.le_of_ble_eq_true rfl) hS dX0_becomeLike_60 ⟨Nat.zero_le _, Nat.zero_le _⟩ (fun G locs hP hS => ?_)
  refine lv_aload_n hx hb dX0_becomeLike_63 rfl (lv_at hl 1 rfl) ?_
  refine li_gf0 hx hb hX0 hown hK hP 0 rfl 7 (by decide) f28 rfl dX0_becomeLike_64 ?_
  refine lv_aload_n hx hb dX0_becomeLike_67 rfl (lv_at hl 0 rfl) ?_
  refine li_gf0 hx hb hX0 hown hK hP 24 rfl 7 (by decide) f28 rfl dX0_becomeLike_68 ?_
  refine cpS (q0 := 6) (q1 := 30) hx hb hml hown hts (c_X0_copyNumbers l D cI cZ cL cO G (a 6) (a 30) 20 (σ 12) ((va_up (va_up (va_up (va_up (va_up (up2 σ' 17 0 (σ 17 0)) 7 (σ 7)) 8 (σ 8)) 9 (σ 9)) 10 (σ 10)) 11 (σ 11)) 12) (fun q => q = a 6 ∨ q = a 30) (fun _ _ => D2_ (hA.ne (i := 6) (j := 30) (by decide) (by decide) (by decide)) (Or.inl rfl) (Or.inr rfl)) (by decide)) (cwS 2 hts gX0_becomeLike_X0_copyNumbers rfl rfl rfl (by decide +kernel) ⟨by decide, by decide⟩) hK hE hP hA.DX41 rfl rfl (by decide) srY_12 hl.1 (Nat.le_of_ble_eq_true rfl) hS dX0_becomeLike_71 ⟨Nat.zero_le _, Nat.zero_le _⟩ (fun G locs hP hS => ?_)
  refine lv_aload_n hx hb dX0_becomeLike_74 rfl (lv_at hl 1 rfl) ?_
  refine li_gf0 hx hb hX0 hown hK hP 0 rfl 8 (by decide) f31 rfl dX0_becomeLike_75 ?_
  refine lv_aload_n hx hb dX0_becomeLike_78 rfl (lv_at hl 0 rfl) ?_
  refine li_gf0 hx hb hX0 hown hK hP 24 rfl 8 (by decide) f31 rfl dX0_becomeLike_79 ?_
  refine cpS (q0 := 7) (q1 := 31) hx hb hml hown hts (c_X0_copyNumbers l D cI cZ cL cO G (a 7) (a 31) 20 (σ 13) ((va_up (va_up (va_up (va_up (va_up (va_up (up2 σ' 17 0 (σ 17 0)) 7 (σ 7)) 8 (σ 8)) 9 (σ 9)) 10 (σ 10)) 11 (σ 11)) 12 (σ 12)) 13) (fun q => q = a 7 ∨ q = a 31) (fun _ _ => D2_ (hA.ne (i := 7) (j := 31) (by decide) (by decide) (by decide)) (Or.inl rfl) (Or.inr rfl)) (by decide)) (cwS 2 hts gX0_becomeLike_X0_copyNumbers rfl rfl rfl (by decide +kernel) ⟨by decide, by decide⟩) hK hE hP hA.DX41 rfl rfl (by decide) srY_13 hl.1 (Nat.le_of_ble_eq_true rfl) hS dX0_becomeLike_82 ⟨Nat.zero_le _, Nat.zero_le _⟩ (fun G locs hP hS => ?_)
  refine lv_aload_n hx hb dX0_becomeLike_85 rfl (lv_at hl 1 rfl) ?_
  refine li_gf0 hx hb hX0 hown hK hP 0 rfl 9 (by decide) f34 rfl dX0_becomeLike_86 ?_
  refine lv_aload_n hx hb dX0_becomeLike_89 rfl (lv_at hl 0 rfl) ?_
  refine li_gf0 hx hb hX0 hown hK hP 24 rfl 9 (by decide) f34 rfl dX0_becomeLike_90 ?_
  refine cpS (q0 := 8) (q1 := 32) hx hb hml hown hts (c_X0_copyNumbers l D cI cZ cL cO G (a 8) (a 32) 20 (σ 14) ((va_up (va_up (va_up (va_up (va_up (va_up (va_up (up2 σ' 17 0 (σ 17 0)) 7 (σ 7)) 8 (σ 8)) 9 (σ 9)) 10 (σ 10)) 11 (σ 11)) 12 (σ 12)) 13 (σ 13)) 14) (fun q => q = a 8 ∨ q = a 32) (fun _ _ => D2_ (hA.ne (i := 8) (j := 32) (by decide) (by decide) (by decide)) (Or.inl rfl) (Or.inr rfl)) (by decide)) (cwS 2 hts gX0_becomeLike_X0_copyNumbers rfl rfl rfl (by decide +kernel) ⟨by decide, by decide⟩) hK hE hP hA.DX41 rfl rfl (by decide) srY_14 hl.1 (Nat.le_of_ble_eq_true rfl) hS dX0_becomeLike_93 ⟨Nat.zero_le _, Nat.zero_le _⟩ (fun G locs hP hS => ?_)
  refine lv_aload_n hx hb dX0_becomeLike_96 rfl (lv_at hl 1 rfl) ?_
  refine li_gf0 hx hb hX0 hown hK hP 0 rfl 10 (by decide) f37 rfl dX0_becomeLike_97 ?_
  refine lv_aload_n hx hb dX0_becomeLike_100 rfl (lv_at hl 0 rfl) ?_
  refine li_gf0 hx hb hX0 hown hK hP 24 rfl 10 (by decide) f37 rfl dX0_becomeLike_101 ?_
  refine cpS (q0 := 9) (q1 := 33) hx hb hml hown hts (c_X0_copyNumbers l D cI cZ cL cO G (a 9) (a 33) 20 (σ 15) ((va_up (va_up (va_up (va_up (va_up (va_up (va_up (va_up (up2 σ' 17 0 (σ 17 0)) 7 (σ 7)) 8 (σ 8)) 9 (σ 9)) 10 (σ 10)) 11 (σ 11)) 12 (σ 12)) 13 (σ 13)) 14 (σ 14)) 15) (fun q => q = a 9 ∨ q = a 33) (fun _ _ => D2_ (hA.ne (i := 9) (j := 33) (by decide) (by decide) (by decide)) (Or.inl rfl) (Or.inr rfl)) (by decide)) (cwS 2 hts gX0_becomeLike_X0_copyNumbers rfl rfl rfl (by decide +kernel) ⟨by decide, by decide⟩) hK hE hP hA.DX41 rfl rfl (by decide) srY_15 hl.1 (Nat.le_of_ble_eq_true rfl) hS dX0_becomeLike_104 ⟨Nat.zero_le _, Nat.zero_le _⟩ (fun G locs hP hS => ?_)
  refine lv_aload_n hx hb dX0_becomeLike_107 rfl (lv_at hl 1 rfl) ?_
  refine li_gf0 hx hb hX0 hown hK hP 0 rfl 11 (by decide) f40 rfl dX0_becomeLike_108 ?_
  refine lv_aload_n hx hb dX0_becomeLike_111 rfl (lv_at hl 0 rfl) ?_
  refine li_gf0 hx hb hX0 hown hK hP 24 rfl 11 (by decide) f40 rfl dX0_becomeLike_112 ?_
  refine cpS (q0 := 10) (q1 := 34) hx hb hml hown hts (c_X0_copyNumbers l D cI cZ cL cO G (a 10) (a 34) 120 (σ 16) ((va_up (va_up (va_up (va_up (va_up (va_up (va_up (va_up (va_up (up2 σ' 17 0 (σ 17 0)) 7 (σ 7)) 8 (σ 8)) 9 (σ 9)) 10 (σ 10)) 11 (σ 11)) 12 (σ 12)) 13 (σ 13)) 14 (σ 14)) 15 (σ 15)) 16) (fun q => q = a 10 ∨ q = a 34) (fun _ _ => D2_ (hA.ne (i := 10) (j := 34) (by decide) (by decide) (by decide)) (Or.inl rfl) (Or.inr rfl)) (by decide)) (cwS 2 hts gX0_becomeLike_X0_copyNumbers rfl rfl rfl (by decide +kernel) ⟨by decide, by decide⟩) hK hE hP hA.DX41 rfl rfl (by decide) srY_16 hl.1 (Nat.le_of_ble_eq_true rfl) hS dX0_becomeLike_115 ⟨Nat.zero_le _, Nat.zero_le _⟩ (fun G locs hP hS => ?_)
  replace hP : va_P D vwCl (wX cI cZ a n pl nw ns σ κ σ κ') G := hP
  exact hEnd 118 ls G locs dX0_becomeLike_118 hP hS
set_option maxHeartbeats 4000000 in
set_option maxRecDepth 100000 in
theorem c_X1_appendStretch (l : Launch) (D : va_G) (cI cZ cL cO : ClassId) (a : Nat → Nat) (n pl nw ns : Nat) (σ κ : Nat → Nat → Int32) (H : Heap) (L9 : Nat) (t9 : Int32) (A : Nat → Prop) (hA : okP A a 24) (hB : n ≤ 10 ∧ pl ≤ 200 ∧ nw ≤ 20 ∧ ns ≤ 6) (hn9 : n < 10) : Met l yX1_appendStretch wsX1_appendStretch ({ frames := 0, cells := 0, slots := 0, locals := 0 } : Room) (ro_P D (T4 cI cZ cL cO) (wP cI cZ a n pl nw ns σ κ) H [.ref (a 16), .int (nI L9), .int t9]) (mi_Q D (nI n) (wP cI cZ a (n + 1) (pl + L9) nw ns (up2 (up2 (up2 σ 0 n (nI L9)) 1 n t9) 2 n (nI pl)) κ) A) 0 0 A := by
  refine mi_of (cc := cX1_appendStretch) (maxL := 4) (by decide) rfl (Nat.le_of_ble_eq_true rfl) rfl ?_
  intro p e s m args below meth c Q ls locs hx hb hml hown hts hK hE hP hl hS hEnd
  have hl : lv_has ls 4 [(0, .ref (a 16)), (1, .int (nI L9)), (2, .int t9)] := hl
  have hX1 : ∀ w ∈ wsX10, w.before args s = true := fun w h => hts w (List.mem_cons_of_mem _ (List.mem_append_right _ (h)))
  have f33 : (Cond.fieldLink RX1 33 "LanternWalk$Setting" "stretches" "I").before args s = true := hts _ (List.mem_of_getElem? (i := 1) rfl)
  have f9 : (Cond.fieldLink RX1 9 "LanternWalk$Setting" "length" "[I").before args s = true := hts _ (List.mem_of_getElem? (i := 2) rfl)
  have f15 : (Cond.fieldLink RX1 15 "LanternWalk$Setting" "lets" "[I").before args s = true := hts _ (List.mem_of_getElem? (i := 3) rfl)
  have f18 : (Cond.fieldLink RX1 18 "LanternWalk$Setting" "first" "[I").before args s = true := hts _ (List.mem_of_getElem? (i := 4) rfl)
  have f43 : (Cond.fieldLink RX1 43 "LanternWalk$Setting" "places" "I").before args s = true := hts _ (List.mem_of_getElem? (i := 5) rfl)
  refine lv_aload_n hx hb dX1_appendStretch_0 rfl (lv_at hl 0 rfl) ?_
  refine li_gf1 hx hb hX1 hown hK hP 16 rfl 0 (by decide) f33 rfl dX1_appendStretch_1 ?_
  refine lv_istore_n (lv' := [(3, .int (nI n)), (0, .ref (a 16)), (1, .int (nI L9)), (2, .int t9)]) hx hb dX1_appendStretch_4 rfl hl (by decide) rfl (fun ls hl => ?_)
  refine lv_aload_n hx hb dX1_appendStretch_5 rfl (lv_at hl 1 rfl) ?_
  refine li_gf1 hx hb hX1 hown hK hP 16 rfl 2 (by decide) f9 rfl dX1_appendStretch_6 ?_
  refine lv_iload_n hx hb dX1_appendStretch_9 rfl (lv_at hl 0 rfl) ?_
  refine lv_iload_n hx hb dX1_appendStretch_10 rfl (lv_at hl 2 rfl) ?_
  refine li_ist hx hb hK hP hA.D hS 17 0 rfl rfl (by omega) (by decide) stP_0 dX1_appendStretch_11 (fun G locs hP hS => ?_)
  refine lv_aload_n hx hb dX1_appendStretch_12 rfl (lv_at hl 1 rfl) ?_
  refine li_gf1 hx hb hX1 hown hK hP 16 rfl 3 (by decide) f15 rfl dX1_appendStretch_13 ?_
  refine lv_iload_n hx hb dX1_appendStretch_16 rfl (lv_at hl 0 rfl) ?_
  refine lv_iload_n hx hb dX1_appendStretch_17 rfl (lv_at hl 3 rfl) ?_
  refine li_ist hx hb hK hP hA.D hS 18 0 rfl rfl (by omega) (by decide) stP_1 dX1_appendStretch_18 (fun G locs hP hS => ?_)
  refine lv_aload_n hx hb dX1_appendStretch_19 rfl (lv_at hl 1 rfl) ?_
  refine li_gf1 hx hb hX1 hown hK hP 16 rfl 4 (by decide) f18 rfl dX1_appendStretch_20 ?_
  refine lv_iload_n hx hb dX1_appendStretch_23 rfl (lv_at hl 0 rfl) ?_
  refine lv_aload_n hx hb dX1_appendStretch_24 rfl (lv_at hl 1 rfl) ?_
  refine li_gf1 hx hb hX1 hown hK hP 16 rfl 1 (by decide) f43 rfl dX1_appendStretch_25 ?_
  refine li_ist hx hb hK hP hA.D hS 19 0 rfl rfl (by omega) (by decide) stP_2 dX1_appendStretch_28 (fun G locs hP hS => ?_)
  refine lv_aload_n hx hb dX1_appendStretch_29 rfl (lv_at hl 1 rfl) ?_
  refine lv_dup hx hb dX1_appendStretch_30 rfl ?_
  refine li_gf1 hx hb hX1 hown hK hP 16 rfl 1 (by decide) f43 rfl dX1_appendStretch_31 ?_
  refine lv_iload_n hx hb dX1_appendStretch_34 rfl (lv_at hl 2 rfl) ?_
  refine lv_iadd hx hb dX1_appendStretch_35 ?_
  refine li_topi (nI_add _ _) ?_
  refine li_pf1 hx hb hX1 hown hK hP hA.D hS 16 rfl 1 (by decide) f43 rfl rfl rfl (Nat.le_of_ble_eq_true rfl) (w' := wP cI cZ a n (pl + L9) nw ns (up2 (up2 (up2 σ 0 n (nI L9)) 1 n t9) 2 n (nI pl)) κ) rfl dX1_appendStretch_36 (fun G locs hP hS => ?_)
  refine lv_aload_n hx hb dX1_appendStretch_39 rfl (lv_at hl 1 rfl) ?_
  refine lv_dup hx hb dX1_appendStretch_40 rfl ?_
  refine li_gf1 hx hb hX1 hown hK hP 16 rfl 0 (by decide) f33 rfl dX1_appendStretch_41 ?_
  refine lv_iconst (v := nI 1) hx hb dX1_appendStretch_44 rfl ?_
  refine lv_iadd hx hb dX1_appendStretch_45 ?_
  refine li_topi (nI_add _ _) ?_
  refine li_pf1 hx hb hX1 hown hK hP hA.D hS 16 rfl 0 (by decide) f33 rfl rfl rfl (Nat.le_of_ble_eq_true rfl) (w' := wP cI cZ a (n + 1) (pl + L9) nw ns (up2 (up2 (up2 σ 0 n (nI L9)) 1 n t9) 2 n (nI pl)) κ) rfl dX1_appendStretch_46 (fun G locs hP hS => ?_)
  refine lv_iload_n hx hb dX1_appendStretch_49 rfl (lv_at hl 0 rfl) ?_
  exact hEnd 50 ls G locs dX1_appendStretch_50 hP hS
set_option maxHeartbeats 4000000 in
set_option maxRecDepth 100000 in
theorem c_X1_appendWalker (l : Launch) (D : va_G) (cI cZ cL cO : ClassId) (a : Nat → Nat) (n pl nw ns : Nat) (σ κ : Nat → Nat → Int32) (H : Heap) (p9 : Int32) (v9 : Int32) (A : Nat → Prop) (hA : okP A a 24) (hB : n ≤ 10 ∧ pl ≤ 200 ∧ nw ≤ 20 ∧ ns ≤ 6) (hn9 : nw < 20) : Met l yX1_appendWalker wsX1_appendWalker ({ frames := 0, cells := 0, slots := 0, locals := 0 } : Room) (ro_P D (T4 cI cZ cL cO) (wP cI cZ a n pl nw ns σ κ) H [.ref (a 16), .int p9, .int v9]) (mi_Q D (nI nw) (wP cI cZ a n pl (nw + 1) ns (up2 (up2 σ 4 nw p9) 5 nw v9) κ) A) 0 0 A := by
  refine mi_of (cc := cX1_appendWalker) (maxL := 4) (by decide) rfl (Nat.le_of_ble_eq_true rfl) rfl ?_
  intro p e s m args below meth c Q ls locs hx hb hml hown hts hK hE hP hl hS hEnd
  have hl : lv_has ls 4 [(0, .ref (a 16)), (1, .int p9), (2, .int v9)] := hl
  have hX1 : ∀ w ∈ wsX10, w.before args s = true := fun w h => hts w (List.mem_cons_of_mem _ (List.mem_append_right _ (h)))
  have f37 : (Cond.fieldLink RX1 37 "LanternWalk$Setting" "walkers" "I").before args s = true := hts _ (List.mem_of_getElem? (i := 1) rfl)
  have f24 : (Cond.fieldLink RX1 24 "LanternWalk$Setting" "pace" "[I").before args s = true := hts _ (List.mem_of_getElem? (i := 2) rfl)
  have f27 : (Cond.fieldLink RX1 27 "LanternWalk$Setting" "voice" "[I").before args s = true := hts _ (List.mem_of_getElem? (i := 3) rfl)
  refine lv_aload_n hx hb dX1_appendWalker_0 rfl (lv_at hl 0 rfl) ?_
  refine li_gf1 hx hb hX1 hown hK hP 16 rfl 6 (by decide) f37 rfl dX1_appendWalker_1 ?_
  refine lv_istore_n (lv' := [(3, .int (nI nw)), (0, .ref (a 16)), (1, .int p9), (2, .int v9)]) hx hb dX1_appendWalker_4 rfl hl (by decide) rfl (fun ls hl => ?_)
  refine lv_aload_n hx hb dX1_appendWalker_5 rfl (lv_at hl 1 rfl) ?_
  refine li_gf1 hx hb hX1 hown hK hP 16 rfl 7 (by decide) f24 rfl dX1_appendWalker_6 ?_
  refine lv_iload_n hx hb dX1_appendWalker_9 rfl (lv_at hl 0 rfl) ?_
  refine lv_iload_n hx hb dX1_appendWalker_10 rfl (lv_at hl 2 rfl) ?_
  refine li_ist hx hb hK hP hA.D hS 21 0 rfl rfl (by omega) (by decide) stP_4 dX1_appendWalker_11 (fun G locs hP hS => ?_)
  refine lv_aload_n hx hb dX1_appendWalker_12 rfl (lv_at hl 1 rfl) ?_
  refine li_gf1 hx hb hX1 hown hK hP 16 rfl 8 (by decide) f27 rfl dX1_appendWalker_13 ?_
  refine lv_iload_n hx hb dX1_appendWalker_16 rfl (lv_at hl 0 rfl) ?_
  refine lv_iload_n hx hb dX1_appendWalker_17 rfl (lv_at hl 3 rfl) ?_
  refine li_ist hx hb hK hP hA.D hS 22 0 rfl rfl (by omega) (by decide) stP_5 dX1_appendWalker_18 (fun G locs hP hS => ?_)
  refine lv_aload_n hx hb dX1_appendWalker_19 rfl (lv_at hl 1 rfl) ?_
  refine lv_dup hx hb dX1_appendWalker_20 rfl ?_
  refine li_gf1 hx hb hX1 hown hK hP 16 rfl 6 (by decide) f37 rfl dX1_appendWalker_21 ?_
  refine lv_iconst (v := nI 1) hx hb dX1_appendWalker_24 rfl ?_
  refine lv_iadd hx hb dX1_appendWalker_25 ?_
  refine li_topi (nI_add _ _) ?_
  refine li_pf1 hx hb hX1 hown hK hP hA.D hS 16 rfl 6 (by decide) f37 rfl rfl rfl (Nat.le_of_ble_eq_true rfl) (w' := wP cI cZ a n pl (nw + 1) ns (up2 (up2 σ 4 nw p9) 5 nw v9) κ) rfl dX1_appendWalker_26 (fun G locs hP hS => ?_)
  refine lv_iload_n hx hb dX1_appendWalker_29 rfl (lv_at hl 0 rfl) ?_
  exact hEnd 30 ls G locs dX1_appendWalker_30 hP hS
set_option maxHeartbeats 4000000 in
set_option maxRecDepth 100000 in
theorem c_X1_appendSong (l : Launch) (D : va_G) (cI cZ cL cO : ClassId) (a : Nat → Nat) (n pl nw ns : Nat) (σ κ : Nat → Nat → Int32) (H : Heap) (t9 : Int32) (A : Nat → Prop) (hA : okP A a 24) (hB : n ≤ 10 ∧ pl ≤ 200 ∧ nw ≤ 20 ∧ ns ≤ 6) (hn9 : ns < 6) : Met l yX1_appendSong wsX1_appendSong ({ frames := 0, cells := 0, slots := 0, locals := 0 } : Room) (ro_P D (T4 cI cZ cL cO) (wP cI cZ a n pl nw ns σ κ) H [.ref (a 16), .int t9]) (mi_Q D (nI ns) (wP cI cZ a n pl nw (ns + 1) (up2 σ 6 ns t9) κ) A) 0 0 A := by
  refine mi_of (cc := cX1_appendSong) (maxL := 3) (by decide) rfl (Nat.le_of_ble_eq_true rfl) rfl ?_
  intro p e s m args below meth c Q ls locs hx hb hml hown hts hK hE hP hl hS hEnd
  have hl : lv_has ls 3 [(0, .ref (a 16)), (1, .int t9)] := hl
  have hX1 : ∀ w ∈ wsX10, w.before args s = true := fun w h => hts w (List.mem_cons_of_mem _ (List.mem_append_right _ (h)))
  have f40 : (Cond.fieldLink RX1 40 "LanternWalk$Setting" "songs" "I").before args s = true := hts _ (List.mem_of_getElem? (i := 1) rfl)
  have f30 : (Cond.fieldLink RX1 30 "LanternWalk$Setting" "songLength" "[I").before args s = true := hts _ (List.mem_of_getElem? (i := 2) rfl)
  refine lv_aload_n hx hb dX1_appendSong_0 rfl (lv_at hl 0 rfl) ?_
  refine li_gf1 hx hb hX1 hown hK hP 16 rfl 9 (by decide) f40 rfl dX1_appendSong_1 ?_
  refine lv_istore_n (lv' := [(2, .int (nI ns)), (0, .ref (a 16)), (1, .int t9)]) hx hb dX1_appendSong_4 rfl hl (by decide) rfl (fun ls hl => ?_)
  refine lv_aload_n hx hb dX1_appendSong_5 rfl (lv_at hl 1 rfl) ?_
  refine li_gf1 hx hb hX1 hown hK hP 16 rfl 10 (by decide) f30 rfl dX1_appendSong_6 ?_
  refine lv_iload_n hx hb dX1_appendSong_9 rfl (lv_at hl 0 rfl) ?_
  refine lv_iload_n hx hb dX1_appendSong_10 rfl (lv_at hl 2 rfl) ?_
  refine li_ist hx hb hK hP hA.D hS 23 0 rfl rfl (by omega) (by decide) stP_6 dX1_appendSong_11 (fun G locs hP hS => ?_)
  refine lv_aload_n hx hb dX1_appendSong_12 rfl (lv_at hl 1 rfl) ?_
  refine lv_dup hx hb dX1_appendSong_13 rfl ?_
  refine li_gf1 hx hb hX1 hown hK hP 16 rfl 9 (by decide) f40 rfl dX1_appendSong_14 ?_
  refine lv_iconst (v := nI 1) hx hb dX1_appendSong_17 rfl ?_
  refine lv_iadd hx hb dX1_appendSong_18 ?_
  refine li_topi (nI_add _ _) ?_
  refine li_pf1 hx hb hX1 hown hK hP hA.D hS 16 rfl 9 (by decide) f40 rfl rfl rfl (Nat.le_of_ble_eq_true rfl) (w' := wP cI cZ a n pl nw (ns + 1) (up2 σ 6 ns t9) κ) rfl dX1_appendSong_19 (fun G locs hP hS => ?_)
  refine lv_iload_n hx hb dX1_appendSong_22 rfl (lv_at hl 0 rfl) ?_
  exact hEnd 23 ls G locs dX1_appendSong_23 hP hS
