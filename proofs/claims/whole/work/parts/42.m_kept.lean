/-! the model: kept -/
set_option maxHeartbeats 4000000 in
set_option maxRecDepth 100000 in
theorem c_X3_kept (l : Launch) (D : va_G) (cI cZ cL cO : ClassId) (a : Nat → Nat) (th : Int32) (n nw ns : Nat) (σ η : Sg) (H : Heap) (A : Nat → Prop) (hA : okP A a 13) : Met l yX3_kept wsX3_kept ({ frames := 1, cells := 6, slots := 338, locals := 40 } : Room) (ro_P D (T4 cI cZ cL cO) (wM cI cZ a th n nw ns σ η) H [.ref (a 0)]) (kr_Q D cI cZ cO a th n nw ns σ η (AN A H)) 6 338 (AN A H) := by
  refine kr_of (cc := cX3_kept) (maxL := 1) (by decide) rfl (Nat.le_of_ble_eq_true rfl) (Or.inr ⟨_, rfl⟩) ?_
  intro p e s m args below meth c Q ls locs hx hb hml hown hts hK hE hP hl hS hEnd
  replace hA := hA.AN (H := H)
  have hl : lv_has ls 1 [(0, .ref (a 0))] := hl
  have hX3 : ∀ w ∈ wsX30, w.before args s = true := fun w h => hts w (List.mem_cons_of_mem _ (List.mem_append_right _ (h)))
  have hI : s.vm.findClass "[I" = some cI := va_nm_int (hK.2 0 _ rfl).2
  have hcl : (Cond.classLink RX3 170 "[I").before args s = true := (hts _ (List.mem_of_getElem? (i := 1) rfl))
  have w1 : (Cond.methodLink RX3 171 ⟨"[I", "clone", "()Ljava/lang/Object;"⟩).before args s = true := (hts _ (List.mem_of_getElem? (i := 3) rfl))
  have w2 : (Cond.sameMethod "[I" "java/lang/Object" "clone" "()Ljava/lang/Object;").before args s = true := (hts _ (List.mem_of_getElem? (i := 4) rfl))
  have w3 : (Cond.native ⟨"java/lang/Object", "clone", "()Ljava/lang/Object;"⟩).before args s = true := (hts _ (List.mem_of_getElem? (i := 5) rfl))
  have w4 : (Cond.instanceMethod ⟨"java/lang/Object", "clone", "()Ljava/lang/Object;"⟩).before args s = true := (hts _ (List.mem_of_getElem? (i := 6) rfl))
  have w5 : (Cond.selects "[I" ⟨"[I", "clone", "()Ljava/lang/Object;"⟩ ⟨"java/lang/Object", "clone", "()Ljava/lang/Object;"⟩).before args s = true := (hts _ (List.mem_of_getElem? (i := 7) rfl))
  refine lv_iconst (v := nI 5) hx hb dX3_kept_0 rfl ?_
  refine li_newA (N := 5) hx hb hown hcl hE.2.2.2 hK hP hA.DM hS (fun q hq => Or.inr hq) (by decide) (Nat.le_of_ble_eq_true rfl) (Nat.le_of_ble_eq_true rfl) dX3_kept_1 (fun q0 G hP hD hS => ?_)
  refine lv_dup hx hb dX3_kept_4 rfl ?_
  refine lv_iconst (v := nI 0) hx hb dX3_kept_5 rfl ?_
  refine lv_aload_n hx hb dX3_kept_6 rfl (lv_at hl 0 rfl) ?_
  refine li_gf3 hx hb hX3 hown hK hP 0 rfl 2 (by decide) (show (Cond.fieldLink RX3 9 "LanternWalkModel" "route" "[I").before args s = true from hts _ (List.mem_of_getElem? (i := 2) rfl)) rfl dX3_kept_7 ?_
  refine va_clone (own := RX3) (ad := "[I") (index := 171) (A := AN A H) (cA := cI) (ty := .int) hx hb (hml.trans hl.1.symm) hown w1 w2 w3 w4 w5 hE.2.2.1 hK hP hD hS (fun q hq => Or.inr hq) 1 0 (x := (50, .inl (encR σ))) rfl rfl hI (li_fit _) (by decide) (Nat.le_of_ble_eq_true rfl) (Nat.le_of_ble_eq_true rfl) (Nat.le_of_ble_eq_true rfl) dX3_kept_10 (fun q1 G _ hP hD hS => ?_)
  refine va_castA hx hb hown hcl hP 14 rfl hI dX3_kept_13 ?_
  refine li_aast hx hb hE.2.2.2 hK hP hD hS 13 14 rfl rfl (by decide) (by decide) dX3_kept_16 (fun G locs hP hD hS => ?_)
  refine lv_dup hx hb dX3_kept_17 rfl ?_
  refine lv_iconst (v := nI 1) hx hb dX3_kept_18 rfl ?_
  refine lv_aload_n hx hb dX3_kept_19 rfl (lv_at hl 0 rfl) ?_
  refine li_gf3 hx hb hX3 hown hK hP 0 rfl 3 (by decide) (show (Cond.fieldLink RX3 13 "LanternWalkModel" "stewards" "[I").before args s = true from hts _ (List.mem_of_getElem? (i := 8) rfl)) rfl dX3_kept_20 ?_
  refine va_clone (own := RX3) (ad := "[I") (index := 171) (A := AN A H) (cA := cI) (ty := .int) hx hb (hml.trans hl.1.symm) hown w1 w2 w3 w4 w5 hE.2.2.1 hK hP hD hS (fun q hq => Or.inr hq) 2 0 (x := (2, .inl (σ 7))) rfl rfl hI (li_fit _) (by decide) (Nat.le_of_ble_eq_true rfl) (Nat.le_of_ble_eq_true rfl) (Nat.le_of_ble_eq_true rfl) dX3_kept_23 (fun q2 G _ hP hD hS => ?_)
  refine va_castA hx hb hown hcl hP 15 rfl hI dX3_kept_26 ?_
  refine li_aast hx hb hE.2.2.2 hK hP hD hS 13 15 rfl rfl (by decide) (by decide) dX3_kept_29 (fun G locs hP hD hS => ?_)
  refine lv_dup hx hb dX3_kept_30 rfl ?_
  refine lv_iconst (v := nI 2) hx hb dX3_kept_31 rfl ?_
  refine lv_aload_n hx hb dX3_kept_32 rfl (lv_at hl 0 rfl) ?_
  refine li_gf3 hx hb hX3 hown hK hP 0 rfl 6 (by decide) (show (Cond.fieldLink RX3 19 "LanternWalkModel" "people" "[I").before args s = true from hts _ (List.mem_of_getElem? (i := 9) rfl)) rfl dX3_kept_33 ?_
  refine va_clone (own := RX3) (ad := "[I") (index := 171) (A := AN A H) (cA := cI) (ty := .int) hx hb (hml.trans hl.1.symm) hown w1 w2 w3 w4 w5 hE.2.2.1 hK hP hD hS (fun q hq => Or.inr hq) 4 0 (x := (160, .inl (encP nw σ))) rfl rfl hI (li_fit _) (by decide) (Nat.le_of_ble_eq_true rfl) (Nat.le_of_ble_eq_true rfl) (Nat.le_of_ble_eq_true rfl) dX3_kept_36 (fun q3 G _ hP hD hS => ?_)
  refine va_castA hx hb hown hcl hP 16 rfl hI dX3_kept_39 ?_
  refine li_aast hx hb hE.2.2.2 hK hP hD hS 13 16 rfl rfl (by decide) (by decide) dX3_kept_42 (fun G locs hP hD hS => ?_)
  refine lv_dup hx hb dX3_kept_43 rfl ?_
  refine lv_iconst (v := nI 3) hx hb dX3_kept_44 rfl ?_
  refine lv_aload_n hx hb dX3_kept_45 rfl (lv_at hl 0 rfl) ?_
  refine li_gf3 hx hb hX3 hown hK hP 0 rfl 9 (by decide) (show (Cond.fieldLink RX3 25 "LanternWalkModel" "known" "[I").before args s = true from hts _ (List.mem_of_getElem? (i := 10) rfl)) rfl dX3_kept_46 ?_
  refine va_clone (own := RX3) (ad := "[I") (index := 171) (A := AN A H) (cA := cI) (ty := .int) hx hb (hml.trans hl.1.symm) hown w1 w2 w3 w4 w5 hE.2.2.1 hK hP hD hS (fun q hq => Or.inr hq) 6 0 (x := (120, .inl (σ 16))) rfl rfl hI (li_fit _) (by decide) (Nat.le_of_ble_eq_true rfl) (Nat.le_of_ble_eq_true rfl) (Nat.le_of_ble_eq_true rfl) dX3_kept_49 (fun q4 G _ hP hD hS => ?_)
  refine va_castA hx hb hown hcl hP 17 rfl hI dX3_kept_52 ?_
  refine li_aast hx hb hE.2.2.2 hK hP hD hS 13 17 rfl rfl (by decide) (by decide) dX3_kept_55 (fun G locs hP hD hS => ?_)
  refine lv_dup hx hb dX3_kept_56 rfl ?_
  refine lv_iconst (v := nI 4) hx hb dX3_kept_57 rfl ?_
  refine lv_aload_n hx hb dX3_kept_58 rfl (lv_at hl 0 rfl) ?_
  refine li_gf3 hx hb hX3 hown hK hP 0 rfl 10 (by decide) (show (Cond.fieldLink RX3 28 "LanternWalkModel" "step" "[I").before args s = true from hts _ (List.mem_of_getElem? (i := 11) rfl)) rfl dX3_kept_59 ?_
  refine va_clone (own := RX3) (ad := "[I") (index := 171) (A := AN A H) (cA := cI) (ty := .int) hx hb (hml.trans hl.1.symm) hown w1 w2 w3 w4 w5 hE.2.2.1 hK hP hD hS (fun q hq => Or.inr hq) 7 0 (x := (1, .inl (σ 17))) rfl rfl hI (li_fit _) (by decide) (Nat.le_of_ble_eq_true rfl) (Nat.le_of_ble_eq_true rfl) (Nat.le_of_ble_eq_true rfl) dX3_kept_62 (fun q5 G _ hP hD hS => ?_)
  refine va_castA hx hb hown hcl hP 18 rfl hI dX3_kept_65 ?_
  refine li_aast hx hb hE.2.2.2 hK hP hD hS 13 18 rfl rfl (by decide) (by decide) dX3_kept_68 (fun G locs hP hD hS => ?_)
  have hP : va_P D vwCl (wMK cI cZ cO (fun k => if k < 13 then a k else [q0, q1, q2, q3, q4, q5].getD (k - 13) 0) th n nw ns σ σ η) G := hP
  have hD : va_D (AN A H) (wMK cI cZ cO (fun k => if k < 13 then a k else [q0, q1, q2, q3, q4, q5].getD (k - 13) 0) th n nw ns σ σ η) := hD
  exact hEnd 69 ls G locs _ _ (fun k => if k < 13 then a k else [q0, q1, q2, q3, q4, q5].getD (k - 13) 0) (by decide) (Nat.le_of_ble_eq_true rfl) dX3_kept_69 (fun k hk => if_pos hk) (okP.ofK hD) hP hS
