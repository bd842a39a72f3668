/-! the model: bringBack -/
set_option maxHeartbeats 2000000 in
set_option maxRecDepth 100000 in
theorem c_X3_bringBack (l : Launch) (D : va_G) (cI cZ cL cO : ClassId) (b : Nat → Nat) (th : Int32) (n nw ns : Nat) (σ' σ η : Sg) (H : Heap) (A : Nat → Prop) (hA : okP A b 19) (h3 : σ' 3 = σ 3) (h6 : σ' 6 = σ 6) : Met l yX3_bringBack wsX3_bringBack ({ frames := 1, cells := 1, slots := 5, locals := 40 } : Room) (ro_P D (T4 cI cZ cL cO) (wMK cI cZ cO b th n nw ns σ' σ η) H [.ref (b 0), .ref (b 13)]) (mu_Q D (wMK cI cZ cO b th n nw ns σ σ η) (AN A H)) 1 5 (AN A H) := by
  refine muz_of (cc := cX3_bringBack) (maxL := 4) (by decide) rfl (Nat.le_of_ble_eq_true rfl) ?_
  intro p e s m args below meth c Q ls locs hx hb hml hown hts hK hE hP hl hS hEnd
  replace hA := hA.AN (H := H)
  have hl : lv_has ls 4 [(0, .ref (b 0)), (1, .ref (b 13))] := hl
  have hX3 : ∀ w ∈ wsX30, w.before args s = true := fun w h => hts w (List.mem_cons_of_mem _ (List.mem_append_right _ (h)))
  have hcl := (show (Cond.classLink RX3 170 "[I").before args s = true from hts _ (List.mem_of_getElem? (i := 1) rfl))
  have w1 := (show (Cond.methodLink RX3 76 arraycopyName).before args s = true from hts _ (List.mem_of_getElem? (i := 7) rfl))
  have w2 := (show (Cond.native arraycopyName).before args s = true from hts _ (List.mem_of_getElem? (i := 8) rfl))
  have w3 := (show (Cond.static arraycopyName).before args s = true from hts _ (List.mem_of_getElem? (i := 9) rfl))
  have w4 := (show (Cond.initialized "java/lang/System").before args s = true from hts _ (List.mem_of_getElem? (i := 10) rfl))
  refine lv_iconst (v := nI 5) hx hb dX3_bringBack_0 rfl ?_
  refine li_newA (N := 5) hx hb hown hcl hE.2.2.2 hK hP hA.DK hS (fun q hq => Or.inr hq) (by decide) (Nat.le_of_ble_eq_true rfl) (Nat.le_of_ble_eq_true rfl) dX3_bringBack_1 (fun q1 G hP hD hS => ?_)
  refine lv_dup hx hb dX3_bringBack_4 rfl ?_
  refine lv_iconst (v := nI 0) hx hb dX3_bringBack_5 rfl ?_
  refine lv_aload_n hx hb dX3_bringBack_6 rfl (lv_at hl 0 rfl) ?_
  refine li_gf3 hx hb hX3 hown hK hP 0 rfl 2 (by decide) (show (Cond.fieldLink RX3 9 "LanternWalkModel" "route" "[I").before args s = true from hts _ (List.mem_of_getElem? (i := 2) rfl)) rfl dX3_bringBack_7 ?_
  refine li_aast hx hb hE.2.2.2 hK hP hD hS 19 1 rfl rfl (by decide) (by decide) dX3_bringBack_10 (fun G locs hP hD hS => ?_)
  refine lv_dup hx hb dX3_bringBack_11 rfl ?_
  refine lv_iconst (v := nI 1) hx hb dX3_bringBack_12 rfl ?_
  refine lv_aload_n hx hb dX3_bringBack_13 rfl (lv_at hl 0 rfl) ?_
  refine li_gf3 hx hb hX3 hown hK hP 0 rfl 3 (by decide) (show (Cond.fieldLink RX3 13 "LanternWalkModel" "stewards" "[I").before args s = true from hts _ (List.mem_of_getElem? (i := 3) rfl)) rfl dX3_bringBack_14 ?_
  refine li_aast hx hb hE.2.2.2 hK hP hD hS 19 2 rfl rfl (by decide) (by decide) dX3_bringBack_17 (fun G locs hP hD hS => ?_)
  refine lv_dup hx hb dX3_bringBack_18 rfl ?_
  refine lv_iconst (v := nI 2) hx hb dX3_bringBack_19 rfl ?_
  refine lv_aload_n hx hb dX3_bringBack_20 rfl (lv_at hl 0 rfl) ?_
  refine li_gf3 hx hb hX3 hown hK hP 0 rfl 6 (by decide) (show (Cond.fieldLink RX3 19 "LanternWalkModel" "people" "[I").before args s = true from hts _ (List.mem_of_getElem? (i := 4) rfl)) rfl dX3_bringBack_21 ?_
  refine li_aast hx hb hE.2.2.2 hK hP hD hS 19 4 rfl rfl (by decide) (by decide) dX3_bringBack_24 (fun G locs hP hD hS => ?_)
  refine lv_dup hx hb dX3_bringBack_25 rfl ?_
  refine lv_iconst (v := nI 3) hx hb dX3_bringBack_26 rfl ?_
  refine lv_aload_n hx hb dX3_bringBack_27 rfl (lv_at hl 0 rfl) ?_
  refine li_gf3 hx hb hX3 hown hK hP 0 rfl 9 (by decide) (show (Cond.fieldLink RX3 25 "LanternWalkModel" "known" "[I").before args s = true from hts _ (List.mem_of_getElem? (i := 5) rfl)) rfl dX3_bringBack_28 ?_
  refine li_aast hx hb hE.2.2.2 hK hP hD hS 19 6 rfl rfl (by decide) (by decide) dX3_bringBack_31 (fun G locs hP hD hS => ?_)
  refine lv_dup hx hb dX3_bringBack_32 rfl ?_
  refine lv_iconst (v := nI 4) hx hb dX3_bringBack_33 rfl ?_
  refine lv_aload_n hx hb dX3_bringBack_34 rfl (lv_at hl 0 rfl) ?_
  refine li_gf3 hx hb hX3 hown hK hP 0 rfl 10 (by decide) (show (Cond.fieldLink RX3 28 "LanternWalkModel" "step" "[I").before args s = true from hts _ (List.mem_of_getElem? (i := 6) rfl)) rfl dX3_bringBack_35 ?_
  refine li_aast hx hb hE.2.2.2 hK hP hD hS 19 7 rfl rfl (by decide) (by decide) dX3_bringBack_38 (fun G locs hP hD hS => ?_)
  replace hP : va_P D vwCl (wMB cI cZ cO b th n nw ns (encR σ') (σ' 7) (encP nw σ') (σ' 16) (σ' 17) σ' σ η q1) G := hP
  replace hD : va_D (AN A H) (wMB cI cZ cO b th n nw ns (encR σ') (σ' 7) (encP nw σ') (σ' 16) (σ' 17) σ' σ η q1) := va_D_map hD rfl
  refine lv_astore_n (lv' := [(2, .ref q1), (0, .ref (b 0)), (1, .ref (b 13))]) hx hb dX3_bringBack_39 rfl hl (by decide) rfl (fun ls hl => ?_)
  refine lv_iconst (v := nI 0) hx hb dX3_bringBack_40 rfl ?_
  refine lv_istore_n (lv' := [(3, .int (nI 0)), (2, .ref q1), (0, .ref (b 0)), (1, .ref (b 13))]) hx hb dX3_bringBack_41 rfl hl (by decide) rfl (fun ls hl => ?_)
  refine lv_iload_n hx hb dX3_bringBack_42 rfl (lv_at hl 0 rfl) ?_
  refine lv_aload_n hx hb dX3_bringBack_43 rfl (lv_at hl 1 rfl) ?_
  refine li_alen hx hb hK hP 19 3 rfl rfl dX3_bringBack_44 ?_
  refine li_ge (tgt := 69) hx hb dX3_bringBack_45 (by decide) (by decide) (by decide) (fun c0 => ?_) (fun c0 => ?_)
  · exact absurd c0 (by decide)
  refine lv_aload_n hx hb dX3_bringBack_48 rfl (lv_at hl 3 rfl) ?_
  refine lv_iload_n hx hb dX3_bringBack_49 rfl (lv_at hl 0 rfl) ?_
  refine li_aald hx hb hK hP 13 (v := b 14) rfl (i := 0) (by decide) (by decide) rfl dX3_bringBack_50 ?_
  refine lv_iconst (v := nI 0) hx hb dX3_bringBack_51 rfl ?_
  refine lv_aload_n hx hb dX3_bringBack_52 rfl (lv_at hl 1 rfl) ?_
  refine lv_iload_n hx hb dX3_bringBack_53 rfl (lv_at hl 0 rfl) ?_
  refine li_aald hx hb hK hP 19 (v := b 1) rfl (i := 0) (by decide) (by decide) rfl dX3_bringBack_54 ?_
  refine lv_iconst (v := nI 0) hx hb dX3_bringBack_55 rfl ?_
  refine lv_aload_n hx hb dX3_bringBack_56 rfl (lv_at hl 1 rfl) ?_
  refine lv_iload_n hx hb dX3_bringBack_57 rfl (lv_at hl 0 rfl) ?_
  refine li_aald hx hb hK hP 19 (v := b 1) rfl (i := 0) (by decide) (by decide) rfl dX3_bringBack_58 ?_
  refine li_alen hx hb hK hP 1 0 rfl rfl dX3_bringBack_59 ?_
  refine va_copyi hx hb (hml.trans hl.1.symm) hown w1 w2 w3 w4 hK hP hD hS 14 1 0 0 rfl rfl rfl rfl rfl (by decide) (by decide) (nI_pos (by decide)) (by decide) (by decide) (fun _ _ => rfl) (by decide) (Nat.le_of_ble_eq_true rfl) dX3_bringBack_60 (fun G locs hP hD hS => ?_)
  replace hP := va_P_row hP (q0 := 1) rfl (cpy_all (N := 50) (by decide))
  replace hP : va_P D vwCl (wMB cI cZ cO b th n nw ns (encR σ) (σ' 7) (encP nw σ') (σ' 16) (σ' 17) σ' σ η q1) G := hP
  replace hD : va_D (AN A H) (wMB cI cZ cO b th n nw ns (encR σ) (σ' 7) (encP nw σ') (σ' 16) (σ' 17) σ' σ η q1) := va_D_map hD rfl
  refine lv_iinc (v := nI 1) (lv' := [(3, .int (nI 1)), (2, .ref q1), (0, .ref (b 0)), (1, .ref (b 13))]) hx hb dX3_bringBack_63 hl (k := 0) rfl (by decide) (by decide) rfl (fun ls hl => ?_)
  refine lv_goto (tgt := 42) hx hb dX3_bringBack_66 (by decide) ?_
  refine lv_iload_n hx hb dX3_bringBack_42 rfl (lv_at hl 0 rfl) ?_
  refine lv_aload_n hx hb dX3_bringBack_43 rfl (lv_at hl 1 rfl) ?_
  refine li_alen hx hb hK hP 19 3 rfl rfl dX3_bringBack_44 ?_
  refine li_ge (tgt := 69) hx hb dX3_bringBack_45 (by decide) (by decide) (by decide) (fun c1 => ?_) (fun c1 => ?_)
  · exact absurd c1 (by decide)
  refine lv_aload_n hx hb dX3_bringBack_48 rfl (lv_at hl 3 rfl) ?_
  refine lv_iload_n hx hb dX3_bringBack_49 rfl (lv_at hl 0 rfl) ?_
  refine li_aald hx hb hK hP 13 (v := b 15) rfl (i := 1) (by decide) (by decide) rfl dX3_bringBack_50 ?_
  refine lv_iconst (v := nI 0) hx hb dX3_bringBack_51 rfl ?_
  refine lv_aload_n hx hb dX3_bringBack_52 rfl (lv_at hl 1 rfl) ?_
  refine lv_iload_n hx hb dX3_bringBack_53 rfl (lv_at hl 0 rfl) ?_
  refine li_aald hx hb hK hP 19 (v := b 2) rfl (i := 1) (by decide) (by decide) rfl dX3_bringBack_54 ?_
  refine lv_iconst (v := nI 0) hx hb dX3_bringBack_55 rfl ?_
  refine lv_aload_n hx hb dX3_bringBack_56 rfl (lv_at hl 1 rfl) ?_
  refine lv_iload_n hx hb dX3_bringBack_57 rfl (lv_at hl 0 rfl) ?_
  refine li_aald hx hb hK hP 19 (v := b 2) rfl (i := 1) (by decide) (by decide) rfl dX3_bringBack_58 ?_
  refine li_alen hx hb hK hP 2 0 rfl rfl dX3_bringBack_59 ?_
  refine va_copyi hx hb (hml.trans hl.1.symm) hown w1 w2 w3 w4 hK hP hD hS 15 2 0 0 rfl rfl rfl rfl rfl (by decide) (by decide) (nI_pos (by decide)) (by decide) (by decide) (fun _ _ => rfl) (by decide) (Nat.le_of_ble_eq_true rfl) dX3_bringBack_60 (fun G locs hP hD hS => ?_)
  replace hP := va_P_row hP (q0 := 2) rfl (cpy_all (N := 2) (by decide))
  replace hP : va_P D vwCl (wMB cI cZ cO b th n nw ns (encR σ) (σ 7) (encP nw σ') (σ' 16) (σ' 17) σ' σ η q1) G := hP
  replace hD : va_D (AN A H) (wMB cI cZ cO b th n nw ns (encR σ) (σ 7) (encP nw σ') (σ' 16) (σ' 17) σ' σ η q1) := va_D_map hD rfl
  refine lv_iinc (v := nI 2) (lv' := [(3, .int (nI 2)), (2, .ref q1), (0, .ref (b 0)), (1, .ref (b 13))]) hx hb dX3_bringBack_63 hl (k := 0) rfl (by decide) (by decide) rfl (fun ls hl => ?_)
  refine lv_goto (tgt := 42) hx hb dX3_bringBack_66 (by decide) ?_
  refine lv_iload_n hx hb dX3_bringBack_42 rfl (lv_at hl 0 rfl) ?_
  refine lv_aload_n hx hb dX3_bringBack_43 rfl (lv_at hl 1 rfl) ?_
  refine li_alen hx hb hK hP 19 3 rfl rfl dX3_bringBack_44 ?_
  refine li_ge (tgt := 69) hx hb dX3_bringBack_45 (by decide) (by decide) (by decide) (fun c2 => ?_) (fun c2 => ?_)
  · exact absurd c2 (by decide)
  refine lv_aload_n hx hb dX3_bringBack_48 rfl (lv_at hl 3 rfl) ?_
  refine lv_iload_n hx hb dX3_bringBack_49 rfl (lv_at hl 0 rfl) ?_
  refine li_aald hx hb hK hP 13 (v := b 16) rfl (i := 2) (by decide) (by decide) rfl dX3_bringBack_50 ?_
  refine lv_iconst (v := nI 0) hx hb dX3_bringBack_51 rfl ?_
  refine lv_aload_n hx hb dX3_bringBack_52 rfl (lv_at hl 1 rfl) ?_
  refine lv_iload_n hx hb dX3_bringBack_53 rfl (lv_at hl 0 rfl) ?_
  refine li_aald hx hb hK hP 19 (v := b 4) rfl (i := 2) (by decide) (by decide) rfl dX3_bringBack_54 ?_
  refine lv_iconst (v := nI 0) hx hb dX3_bringBack_55 rfl ?_
  refine lv_aload_n hx hb dX3_bringBack_56 rfl (lv_at hl 1 rfl) ?_
  refine lv_iload_n hx hb dX3_bringBack_57 rfl (lv_at hl 0 rfl) ?_
  refine li_aald hx hb hK hP 19 (v := b 4) rfl (i := 2) (by decide) (by decide) rfl dX3_bringBack_58 ?_
  refine li_alen hx hb hK hP 4 0 rfl rfl dX3_bringBack_59 ?_
  refine va_copyi hx hb (hml.trans hl.1.symm) hown w1 w2 w3 w4 hK hP hD hS 16 4 0 0 rfl rfl rfl rfl rfl (by decide) (by decide) (nI_pos (by decide)) (by decide) (by decide) (fun _ _ => rfl) (by decide) (Nat.le_of_ble_eq_true rfl) dX3_bringBack_60 (fun G locs hP hD hS => ?_)
  replace hP := va_P_row hP (q0 := 4) rfl (cpy_all (N := 160) (by decide))
  replace hP : va_P D vwCl (wMB cI cZ cO b th n nw ns (encR σ) (σ 7) (encP nw σ) (σ' 16) (σ' 17) σ' σ η q1) G := hP
  replace hD : va_D (AN A H) (wMB cI cZ cO b th n nw ns (encR σ) (σ 7) (encP nw σ) (σ' 16) (σ' 17) σ' σ η q1) := va_D_map hD rfl
  refine lv_iinc (v := nI 3) (lv' := [(3, .int (nI 3)), (2, .ref q1), (0, .ref (b 0)), (1, .ref (b 13))]) hx hb dX3_bringBack_63 hl (k := 0) rfl (by decide) (by decide) rfl (fun ls hl => ?_)
  refine lv_goto (tgt := 42) hx hb dX3_bringBack_66 (by decide) ?_
  refine lv_iload_n hx hb dX3_bringBack_42 rfl (lv_at hl 0 rfl) ?_
  refine lv_aload_n hx hb dX3_bringBack_43 rfl (lv_at hl 1 rfl) ?_
  refine li_alen hx hb hK hP 19 3 rfl rfl dX3_bringBack_44 ?_
  refine li_ge (tgt := 69) hx hb dX3_bringBack_45 (by decide) (by decide) (by decide) (fun c3 => ?_) (fun c3 => ?_)
  · exact absurd c3 (by decide)
  refine lv_aload_n hx hb dX3_bringBack_48 rfl (lv_at hl 3 rfl) ?_
  refine lv_iload_n hx hb dX3_bringBack_49 rfl (lv_at hl 0 rfl) ?_
  refine li_aald hx hb hK hP 13 (v := b 17) rfl (i := 3) (by decide) (by decide) rfl dX3_bringBack_50 ?_
  refine lv_iconst (v := nI 0) hx hb dX3_bringBack_51 rfl ?_
  refine lv_aload_n hx hb dX3_bringBack_52 rfl (lv_at hl 1 rfl) ?_
  refine lv_iload_n hx hb dX3_bringBack_53 rfl (lv_at hl 0 rfl) ?_
  refine li_aald hx hb hK hP 19 (v := b 6) rfl (i := 3) (by decide) (by decide) rfl dX3_bringBack_54 ?_
  refine lv_iconst (v := nI 0) hx hb dX3_bringBack_55 rfl ?_
  refine lv_aload_n hx hb dX3_bringBack_56 rfl (lv_at hl 1 rfl) ?_
  refine lv_iload_n hx hb dX3_bringBack_57 rfl (lv_at hl 0 rfl) ?_
  refine li_aald hx hb hK hP 19 (v := b 6) rfl (i := 3) (by decide) (by decide) rfl dX3_bringBack_58 ?_
  refine li_alen hx hb hK hP 6 0 rfl rfl dX3_bringBack_59 ?_
  refine va_copyi hx hb (hml.trans hl.1.symm) hown w1 w2 w3 w4 hK hP hD hS 17 6 0 0 rfl rfl rfl rfl rfl (by decide) (by decide) (nI_pos (by decide)) (by decide) (by decide) (fun _ _ => rfl) (by decide) (Nat.le_of_ble_eq_true rfl) dX3_bringBack_60 (fun G locs hP hD hS => ?_)
  replace hP := va_P_row hP (q0 := 6) rfl (cpy_all (N := 120) (by decide))
  replace hP : va_P D vwCl (wMB cI cZ cO b th n nw ns (encR σ) (σ 7) (encP nw σ) (σ 16) (σ' 17) σ' σ η q1) G := hP
  replace hD : va_D (AN A H) (wMB cI cZ cO b th n nw ns (encR σ) (σ 7) (encP nw σ) (σ 16) (σ' 17) σ' σ η q1) := va_D_map hD rfl
  refine lv_iinc (v := nI 4) (lv' := [(3, .int (nI 4)), (2, .ref q1), (0, .ref (b 0)), (1, .ref (b 13))]) hx hb dX3_bringBack_63 hl (k := 0) rfl (by decide) (by decide) rfl (fun ls hl => ?_)
  refine lv_goto (tgt := 42) hx hb dX3_bringBack_66 (by decide) ?_
  refine lv_iload_n hx hb dX3_bringBack_42 rfl (lv_at hl 0 rfl) ?_
  refine lv_aload_n hx hb dX3_bringBack_43 rfl (lv_at hl 1 rfl) ?_
  refine li_alen hx hb hK hP 19 3 rfl rfl dX3_bringBack_44 ?_
  refine li_ge (tgt := 69) hx hb dX3_bringBack_45 (by decide) (by decide) (by decide) (fun c4 => ?_) (fun c4 => ?_)
  · exact absurd c4 (by decide)
  refine lv_aload_n hx hb dX3_bringBack_48 rfl (lv_at hl 3 rfl) ?_
  refine lv_iload_n hx hb dX3_bringBack_49 rfl (lv_at hl 0 rfl) ?_
  refine li_aald hx hb hK hP 13 (v := b 18) rfl (i := 4) (by decide) (by decide) rfl dX3_bringBack_50 ?_
  refine lv_iconst (v := nI 0) hx hb dX3_bringBack_51 rfl ?_
  refine lv_aload_n hx hb dX3_bringBack_52 rfl (lv_at hl 1 rfl) ?_
  refine lv_iload_n hx hb dX3_bringBack_53 rfl (lv_at hl 0 rfl) ?_
  refine li_aald hx hb hK hP 19 (v := b 7) rfl (i := 4) (by decide) (by decide) rfl dX3_bringBack_54 ?_
  refine lv_iconst (v := nI 0) hx hb dX3_bringBack_55 rfl ?_
  refine lv_aload_n hx hb dX3_bringBack_56 rfl (lv_at hl 1 rfl) ?_
  refine lv_iload_n hx hb dX3_bringBack_57 rfl (lv_at hl 0 rfl) ?_
  refine li_aald hx hb hK hP 19 (v := b 7) rfl (i := 4) (by decide) (by decide) rfl dX3_bringBack_58 ?_
  refine li_alen hx hb hK hP 7 0 rfl rfl dX3_bringBack_59 ?_
  refine va_copyi hx hb (hml.trans hl.1.symm) hown w1 w2 w3 w4 hK hP hD hS 18 7 0 0 rfl rfl rfl rfl rfl (by decide) (by decide) (nI_pos (by decide)) (by decide) (by decide) (fun _ _ => rfl) (by decide) (Nat.le_of_ble_eq_true rfl) dX3_bringBack_60 (fun G locs hP hD hS => ?_)
  replace hP := va_P_row hP (q0 := 7) rfl (cpy_all (N := 1) (by decide))
  replace hP : va_P D vwCl (wMB cI cZ cO b th n nw ns (encR σ) (σ 7) (encP nw σ) (σ 16) (σ 17) σ' σ η q1) G := hP
  replace hD : va_D (AN A H) (wMB cI cZ cO b th n nw ns (encR σ) (σ 7) (encP nw σ) (σ 16) (σ 17) σ' σ η q1) := va_D_map hD rfl
  refine lv_iinc (v := nI 5) (lv' := [(3, .int (nI 5)), (2, .ref q1), (0, .ref (b 0)), (1, .ref (b 13))]) hx hb dX3_bringBack_63 hl (k := 0) rfl (by decide) (by decide) rfl (fun ls hl => ?_)
  refine lv_goto (tgt := 42) hx hb dX3_bringBack_66 (by decide) ?_
  refine lv_iload_n hx hb dX3_bringBack_42 rfl (lv_at hl 0 rfl) ?_
  refine lv_aload_n hx hb dX3_bringBack_43 rfl (lv_at hl 1 rfl) ?_
  refine li_alen hx hb hK hP 19 3 rfl rfl dX3_bringBack_44 ?_
  refine li_ge (tgt := 69) hx hb dX3_bringBack_45 (by decide) (by decide) (by decide) (fun c5 => ?_) (fun c5 => ?_)
  · exact hEnd 69 ls G locs _ _ (by decide) (Nat.le_of_ble_eq_true rfl) dX3_bringBack_69 (wMB_end h3 h6 hP) hS
  · exact absurd c5 (by decide)
