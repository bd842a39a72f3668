/-! the parade: what a step changes, on -/
set_option maxHeartbeats 4000000 in
set_option maxRecDepth 100000 in
theorem c_X0_listenAround (l : Launch) (D : va_G) (cI cZ cL cO : ClassId) (a : Nat → Nat) (n pl nw ns : Nat) (σ κ : Nat → Nat → Int32) (H : Heap) (lr : Nat) (A : Nat → Prop) (hA : okP A a 24) (hB : n ≤ 10 ∧ pl ≤ 200 ∧ nw ≤ 20 ∧ ns ≤ 6) (hlr : lr < 20) : Met l yX0_listenAround wsX0_listenAround ({ frames := 2, cells := 0, slots := 0, locals := 49 } : Room) (ro_P D (T4 cI cZ cL cO) (wP cI cZ a n pl nw ns σ κ) H [.ref (a 0), .int (nI lr)]) (mu_Q D (wP cI cZ a n pl nw ns ((laF nw ns lr (σ, κ)).1) ((laF nw ns lr (σ, κ)).2)) A) 0 0 A := by
  refine mu_of (cc := cX0_listenAround) (maxL := 3) (by decide) rfl (Nat.le_of_ble_eq_true rfl) ?_
  intro p e s m args below meth c Q ls locs hx hb hml hown hts hK hE hP hl hS hEnd
  have hl : lv_has ls 3 [(0, .ref (a 0)), (1, .int (nI lr))] := hl
  have hX0 : ∀ w ∈ wsX00, w.before args s = true := fun w h => hts w (List.mem_cons_of_mem _ (List.mem_append_left _ (List.mem_append_right _ (h))))
  have hX1 : ∀ w ∈ wsX10, w.before args s = true := fun w h => hts w (List.mem_cons_of_mem _ (List.mem_append_right _ (h)))
  have f49 : (Cond.fieldLink RX0 49 "LanternWalk$Parade" "loudest" "[I").before args s = true := hts _ (List.mem_of_getElem? (i := 1) rfl)
  have f58 : (Cond.fieldLink RX0 58 "LanternWalk$Parade" "setting" "LLanternWalk$Setting;").before args s = true := hts _ (List.mem_of_getElem? (i := 2) rfl)
  have f92 : (Cond.fieldLink RX0 92 "LanternWalk$Setting" "walkers" "I").before args s = true := hts _ (List.mem_of_getElem? (i := 3) rfl)
  refine lv_aload_n hx hb dX0_listenAround_0 rfl (lv_at hl 0 rfl) ?_
  refine li_gf0 hx hb hX0 hown hK hP 0 rfl 14 (by decide) f49 rfl dX0_listenAround_1 ?_
  refine lv_iconst (v := (-1)) hx hb dX0_listenAround_4 rfl ?_
  refine flS (q0 := 13) hx hb hml hown hts (c_J7_fill_53178 l D cI cZ cL cO H (a 13) 6 (κ 2) (fun q => q = a 13) (fun _ => D1_ rfl) (-1) (by decide)) (va_cwS 2 hts gX0_listenAround_J7_fill_53178 rfl rfl rfl (by decide +kernel) ⟨by decide, by decide⟩) hK hE hP hA.D rfl srw_K2 hl.1 (Nat.le_of_ble_eq_true rfl) hS dX0_listenAround_5 ⟨Nat.zero_le _, Nat.zero_le _⟩ (fun G locs hP hS => ?_)
  refine lv_iconst (v := nI 0) hx hb dX0_listenAround_8 rfl ?_
  refine lv_istore_n (lv' := [(2, .int (nI 0)), (0, .ref (a 0)), (1, .int (nI lr))]) hx hb dX0_listenAround_9 rfl hl (by decide) rfl (fun ls hl => ?_)
  have L10_1 : ∀ (fuel : Nat) (k : Nat), (nw - k) < fuel → (k ≤ nw) → ∀ (G : Heap) (locs : List Loc), va_P D vwCl (wP cI cZ a n pl nw ns ((foldN (la1 ns lr) k (σ, va_up κ 2 (fun _ => -1))).1) ((foldN (la1 ns lr) k (σ, va_up κ 2 (fun _ => -1))).2)) G → va_S A H G locs → ∀ (ls : Array Slot), lv_has ls 3 [(2, .int (nI k)), (0, .ref (a 0)), (1, .int (nI lr))] → W p l e ({ frames := 2, cells := 0, slots := 0, locals := 49 } : Room) s m args below meth c G locs 0 0 Q (F0 m 10 ls []) := by
    intro fuel
    induction fuel with
    | zero =>
      intro k hfuel
      exact absurd hfuel (Nat.not_lt_zero _)
    | succ fuel ih10 =>
      intro k hfuel10 hk G locs hP hS ls hl
      refine lv_iload_n hx hb dX0_listenAround_10 rfl (lv_at hl 0 rfl) ?_
      refine lv_aload_n hx hb dX0_listenAround_11 rfl (lv_at hl 1 rfl) ?_
      refine li_gf0 hx hb hX0 hown hK hP 0 rfl 0 (by decide) f58 rfl dX0_listenAround_12 ?_
      refine li_gf1 hx hb hX1 hown hK hP 16 rfl 6 (by decide) f92 rfl dX0_listenAround_15 ?_
      refine li_ge (tgt := 42) hx hb dX0_listenAround_18 (by decide) (by omega) (by omega) (fun c2 => ?_) (fun c2 => ?_)
      · skip
        have hw9 : (foldN (la1 ns lr) k (σ, va_up κ 2 (fun _ => -1))).1 = (laF nw ns lr (σ, κ)).1 := by rw [show k = nw by omega]; rfl
        have hP : va_P D vwCl (wP cI cZ a n pl nw ns ((laF nw ns lr (σ, κ)).1) ((foldN (la1 ns lr) k (σ, va_up κ 2 (fun _ => -1))).2)) G := Eq.mp (congrArg (fun z9 => va_P D vwCl (wP cI cZ a n pl nw ns z9 ((foldN (la1 ns lr) k (σ, va_up κ 2 (fun _ => -1))).2)) G) hw9) hP
        clear hw9
        have hw9 : (foldN (la1 ns lr) k (σ, va_up κ 2 (fun _ => -1))).2 = (laF nw ns lr (σ, κ)).2 := by rw [show k = nw by omega]; rfl
        have hP : va_P D vwCl (wP cI cZ a n pl nw ns ((laF nw ns lr (σ, κ)).1) ((laF nw ns lr (σ, κ)).2)) G := Eq.mp (congrArg (fun z9 => va_P D vwCl (wP cI cZ a n pl nw ns ((laF nw ns lr (σ, κ)).1) z9) G) hw9) hP
        clear hw9
        exact hEnd 42 ls G locs dX0_listenAround_42 hP hS
      · skip
        refine lv_aload_n hx hb dX0_listenAround_21 rfl (lv_at hl 1 rfl) ?_
        refine lv_iload_n hx hb dX0_listenAround_22 rfl (lv_at hl 2 rfl) ?_
        refine lv_iload_n hx hb dX0_listenAround_23 rfl (lv_at hl 0 rfl) ?_
        refine roV (As := [.int (nI lr), .int (nI k)]) (q0 := 0) (ci := 0) hx hb hml hown hts (c_X0_areNeighbours l D cI cZ cL cO a n pl nw ns ((foldN (la1 ns lr) k (σ, va_up κ 2 (fun _ => -1))).1) ((foldN (la1 ns lr) k (σ, va_up κ 2 (fun _ => -1))).2) G lr k (hB) (by omega) (by omega)) (cwV 2 hts gX0_listenAround_X0_areNeighbours rfl rfl rfl (by decide +kernel) ⟨by decide, by decide⟩) hK hE hP rfl rfl rfl rfl hl.1 rfl (Nat.le_of_ble_eq_true rfl) hS dX0_listenAround_24 ⟨Nat.zero_le _, Nat.zero_le _⟩ (fun locs hS => ?_)
        refine li_zeq (tgt := 36) hx hb dX0_listenAround_27 (by decide) (fun c3 => ?_) (fun c3 => ?_)
        · skip
          refine lv_iinc (v := nI (k + 1)) (lv' := [(2, .int (nI (k + 1))), (0, .ref (a 0)), (1, .int (nI lr))]) hx hb dX0_listenAround_36 hl (k := 0) rfl (nI_inc _ _) (by decide) rfl (fun ls hl => ?_)
          refine lv_goto (tgt := 10) hx hb dX0_listenAround_39 (by decide) ?_
          have hw9 : (foldN (la1 ns lr) k (σ, va_up κ 2 (fun _ => -1))).1 = (foldN (la1 ns lr) (k + 1) (σ, va_up κ 2 (fun _ => -1))).1 := by first | exact (congrArg Prod.fst (la1_f (by assumption))).symm | exact (congrArg Prod.fst (la1_t (by assumption))).symm
          have hP : va_P D vwCl (wP cI cZ a n pl nw ns ((foldN (la1 ns lr) (k + 1) (σ, va_up κ 2 (fun _ => -1))).1) ((foldN (la1 ns lr) k (σ, va_up κ 2 (fun _ => -1))).2)) G := Eq.mp (congrArg (fun z9 => va_P D vwCl (wP cI cZ a n pl nw ns z9 ((foldN (la1 ns lr) k (σ, va_up κ 2 (fun _ => -1))).2)) G) hw9) hP
          clear hw9
          have hw9 : (foldN (la1 ns lr) k (σ, va_up κ 2 (fun _ => -1))).2 = (foldN (la1 ns lr) (k + 1) (σ, va_up κ 2 (fun _ => -1))).2 := by first | exact (congrArg Prod.snd (la1_f (by assumption))).symm | exact (congrArg Prod.snd (la1_t (by assumption))).symm
          have hP : va_P D vwCl (wP cI cZ a n pl nw ns ((foldN (la1 ns lr) (k + 1) (σ, va_up κ 2 (fun _ => -1))).1) ((foldN (la1 ns lr) (k + 1) (σ, va_up κ 2 (fun _ => -1))).2)) G := Eq.mp (congrArg (fun z9 => va_P D vwCl (wP cI cZ a n pl nw ns ((foldN (la1 ns lr) (k + 1) (σ, va_up κ 2 (fun _ => -1))).1) z9) G) hw9) hP
          clear hw9
          have hl9 : lv_has ls 3 [(2, .int (nI (k + 1))), (0, .ref (a 0)), (1, .int (nI lr))] := lv_sub hl [0, 1, 2] rfl
          exact ih10 (k + 1) (by omega) (by omega) G locs hP hS ls hl9
        · skip
          refine lv_aload_n hx hb dX0_listenAround_30 rfl (lv_at hl 1 rfl) ?_
          refine lv_iload_n hx hb dX0_listenAround_31 rfl (lv_at hl 0 rfl) ?_
          refine lv_iload_n hx hb dX0_listenAround_32 rfl (lv_at hl 2 rfl) ?_
          refine muV (As := [.int (nI k), .int (nI lr)]) (q0 := 0) (ci := 0) hx hb hml hown hts (c_X0_listenTo l D cI cZ cL cO a n pl nw ns ((foldN (la1 ns lr) k (σ, va_up κ 2 (fun _ => -1))).1) ((foldN (la1 ns lr) k (σ, va_up κ 2 (fun _ => -1))).2) G k lr A hA (hB) (by omega) (by omega)) (cwV 2 hts gX0_listenAround_X0_listenTo rfl rfl rfl (by decide +kernel) ⟨by decide, by decide⟩) hK hE hP rfl rfl rfl rfl hl.1 rfl (Nat.le_of_ble_eq_true rfl) hS (fun _ h => h) dX0_listenAround_33 ⟨Nat.zero_le _, Nat.zero_le _⟩ (fun G locs hP _ _ hS => ?_)
          refine lv_iinc (v := nI (k + 1)) (lv' := [(2, .int (nI (k + 1))), (0, .ref (a 0)), (1, .int (nI lr))]) hx hb dX0_listenAround_36 hl (k := 0) rfl (nI_inc _ _) (by decide) rfl (fun ls hl => ?_)
          refine lv_goto (tgt := 10) hx hb dX0_listenAround_39 (by decide) ?_
          have hw9 : (lisF lr k ns (((foldN (la1 ns lr) k (σ, va_up κ 2 (fun _ => -1))).1), ((foldN (la1 ns lr) k (σ, va_up κ 2 (fun _ => -1))).2))).1 = (foldN (la1 ns lr) (k + 1) (σ, va_up κ 2 (fun _ => -1))).1 := by first | exact (congrArg Prod.fst (la1_f (by assumption))).symm | exact (congrArg Prod.fst (la1_t (by assumption))).symm
          have hP : va_P D vwCl (wP cI cZ a n pl nw ns ((foldN (la1 ns lr) (k + 1) (σ, va_up κ 2 (fun _ => -1))).1) ((lisF lr k ns (((foldN (la1 ns lr) k (σ, va_up κ 2 (fun _ => -1))).1), ((foldN (la1 ns lr) k (σ, va_up κ 2 (fun _ => -1))).2))).2)) G := Eq.mp (congrArg (fun z9 => va_P D vwCl (wP cI cZ a n pl nw ns z9 ((lisF lr k ns (((foldN (la1 ns lr) k (σ, va_up κ 2 (fun _ => -1))).1), ((foldN (la1 ns lr) k (σ, va_up κ 2 (fun _ => -1))).2))).2)) G) hw9) hP
          clear hw9
          have hw9 : (lisF lr k ns (((foldN (la1 ns lr) k (σ, va_up κ 2 (fun _ => -1))).1), ((foldN (la1 ns lr) k (σ, va_up κ 2 (fun _ => -1))).2))).2 = (foldN (la1 ns lr) (k + 1) (σ, va_up κ 2 (fun _ => -1))).2 := by first | exact (congrArg Prod.snd (la1_f (by assumption))).symm | exact (congrArg Prod.snd (la1_t (by assumption))).symm
          have hP : va_P D vwCl (wP cI cZ a n pl nw ns ((foldN (la1 ns lr) (k + 1) (σ, va_up κ 2 (fun _ => -1))).1) ((foldN (la1 ns lr) (k + 1) (σ, va_up κ 2 (fun _ => -1))).2)) G := Eq.mp (congrArg (fun z9 => va_P D vwCl (wP cI cZ a n pl nw ns ((foldN (la1 ns lr) (k + 1) (σ, va_up κ 2 (fun _ => -1))).1) z9) G) hw9) hP
          clear hw9
          have hl9 : lv_has ls 3 [(2, .int (nI (k + 1))), (0, .ref (a 0)), (1, .int (nI lr))] := lv_sub hl [0, 1, 2] rfl
          exact ih10 (k + 1) (by omega) (by omega) G locs hP hS ls hl9
  have hw9 : σ = (foldN (la1 ns lr) 0 (σ, va_up κ 2 (fun _ => -1))).1 := rfl
  have hP : va_P D vwCl (wP cI cZ a n pl nw ns ((foldN (la1 ns lr) 0 (σ, va_up κ 2 (fun _ => -1))).1) (va_up κ 2 (fun _ => (-1)))) G := Eq.mp (congrArg (fun z9 => va_P D vwCl (wP cI cZ a n pl nw ns z9 (va_up κ 2 (fun _ => (-1)))) G) hw9) hP
  clear hw9
  have hw9 : va_up κ 2 (fun _ => (-1)) = (foldN (la1 ns lr) 0 (σ, va_up κ 2 (fun _ => -1))).2 := rfl
  have hP : va_P D vwCl (wP cI cZ a n pl nw ns ((foldN (la1 ns lr) 0 (σ, va_up κ 2 (fun _ => -1))).1) ((foldN (la1 ns lr) 0 (σ, va_up κ 2 (fun _ => -1))).2)) G := Eq.mp (congrArg (fun z9 => va_P D vwCl (wP cI cZ a n pl nw ns ((foldN (la1 ns lr) 0 (σ, va_up κ 2 (fun _ => -1))).1) z9) G) hw9) hP
  clear hw9
  have hl9 : lv_has ls 3 [(2, .int (nI 0)), (0, .ref (a 0)), (1, .int (nI lr))] := lv_sub hl [0, 1, 2] rfl
  exact L10_1 ((nw - 0) + 1) 0 (Nat.lt_succ_self _) (by omega) G locs hP hS ls hl9
set_option maxHeartbeats 4000000 in
set_option maxRecDepth 100000 in
theorem c_X0_singToEachOther (l : Launch) (D : va_G) (cI cZ cL cO : ClassId) (a : Nat → Nat) (n pl nw ns : Nat) (σ κ : Nat → Nat → Int32) (H : Heap) (A : Nat → Prop) (hA : okP A a 24) (hB : n ≤ 10 ∧ pl ≤ 200 ∧ nw ≤ 20 ∧ ns ≤ 6) : Met l yX0_singToEachOther wsX0_singToEachOther ({ frames := 3, cells := 0, slots := 0, locals := 71 } : Room) (ro_P D (T4 cI cZ cL cO) (wP cI cZ a n pl nw ns σ κ) H [.ref (a 0)]) (mu_Q D (wP cI cZ a n pl nw ns ((sgF nw ns (σ, κ)).1) ((sgF nw ns (σ, κ)).2)) A) 0 0 A := by
  refine mu_of (cc := cX0_singToEachOther) (maxL := 2) (by decide) rfl (Nat.le_of_ble_eq_true rfl) ?_
  intro p e s m args below meth c Q ls locs hx hb hml hown hts hK hE hP hl hS hEnd
  have hl : lv_has ls 2 [(0, .ref (a 0))] := hl
  have hX0 : ∀ w ∈ wsX00, w.before args s = true := fun w h => hts w (List.mem_cons_of_mem _ (List.mem_append_left _ (List.mem_append_right _ (h))))
  have hX1 : ∀ w ∈ wsX10, w.before args s = true := fun w h => hts w (List.mem_cons_of_mem _ (List.mem_append_right _ (h)))
  have f40 : (Cond.fieldLink RX0 40 "LanternWalk$Parade" "known" "[I").before args s = true := hts _ (List.mem_of_getElem? (i := 1) rfl)
  have f46 : (Cond.fieldLink RX0 46 "LanternWalk$Parade" "knownBefore" "[I").before args s = true := hts _ (List.mem_of_getElem? (i := 2) rfl)
  have f58 : (Cond.fieldLink RX0 58 "LanternWalk$Parade" "setting" "LLanternWalk$Setting;").before args s = true := hts _ (List.mem_of_getElem? (i := 3) rfl)
  have f92 : (Cond.fieldLink RX0 92 "LanternWalk$Setting" "walkers" "I").before args s = true := hts _ (List.mem_of_getElem? (i := 4) rfl)
  have f28 : (Cond.fieldLink RX0 28 "LanternWalk$Parade" "stage" "[I").before args s = true := hts _ (List.mem_of_getElem? (i := 5) rfl)
  refine lv_aload_n hx hb dX0_singToEachOther_0 rfl (lv_at hl 0 rfl) ?_
  refine li_gf0 hx hb hX0 hown hK hP 0 rfl 11 (by decide) f40 rfl dX0_singToEachOther_1 ?_
  refine lv_aload_n hx hb dX0_singToEachOther_4 rfl (lv_at hl 0 rfl) ?_
  refine li_gf0 hx hb hX0 hown hK hP 0 rfl 13 (by decide) f46 rfl dX0_singToEachOther_5 ?_
  refine cpS (q0 := 10) (q1 := 12) hx hb hml hown hts (c_X0_copyNumbers l D cI cZ cL cO H (a 10) (a 12) 120 (σ 16) (κ 1) (fun q => q = a 10 ∨ q = a 12) (fun _ _ => D2_ (hA.ne (i := 10) (j := 12) (by decide) (by decide) (by decide)) (Or.inl rfl) (Or.inr rfl)) (by decide)) (cwS 2 hts gX0_singToEachOther_X0_copyNumbers rfl rfl rfl (by decide +kernel) ⟨by decide, by decide⟩) hK hE hP hA.D rfl rfl (by decide) srw_K1 hl.1 (Nat.le_of_ble_eq_true rfl) hS dX0_singToEachOther_8 ⟨Nat.zero_le _, Nat.zero_le _⟩ (fun G locs hP hS => ?_)
  refine lv_iconst (v := nI 0) hx hb dX0_singToEachOther_11 rfl ?_
  refine lv_istore_n (lv' := [(1, .int (nI 0)), (0, .ref (a 0))]) hx hb dX0_singToEachOther_12 rfl hl (by decide) rfl (fun ls hl => ?_)
  have L13_1 : ∀ (fuel : Nat) (k : Nat), (nw - k) < fuel → (k ≤ nw) → ∀ (G : Heap) (locs : List Loc), va_P D vwCl (wP cI cZ a n pl nw ns ((foldN (sg1 nw ns) k (σ, va_up κ 1 (σ 16))).1) ((foldN (sg1 nw ns) k (σ, va_up κ 1 (σ 16))).2)) G → va_S A H G locs → ∀ (ls : Array Slot), lv_has ls 2 [(1, .int (nI k)), (0, .ref (a 0))] → W p l e ({ frames := 3, cells := 0, slots := 0, locals := 71 } : Room) s m args below meth c G locs 0 0 Q (F0 m 13 ls []) := by
    intro fuel
    induction fuel with
    | zero =>
      intro k hfuel
      exact absurd hfuel (Nat.not_lt_zero _)
    | succ fuel ih13 =>
      intro k hfuel13 hk G locs hP hS ls hl
      refine lv_iload_n hx hb dX0_singToEachOther_13 rfl (lv_at hl 0 rfl) ?_
      refine lv_aload_n hx hb dX0_singToEachOther_14 rfl (lv_at hl 1 rfl) ?_
      refine li_gf0 hx hb hX0 hown hK hP 0 rfl 0 (by decide) f58 rfl dX0_singToEachOther_15 ?_
      refine li_gf1 hx hb hX1 hown hK hP 16 rfl 6 (by decide) f92 rfl dX0_singToEachOther_18 ?_
      refine li_ge (tgt := 45) hx hb dX0_singToEachOther_21 (by decide) (by omega) (by omega) (fun c2 => ?_) (fun c2 => ?_)
      · skip
        have hw9 : (foldN (sg1 nw ns) k (σ, va_up κ 1 (σ 16))).1 = (sgF nw ns (σ, κ)).1 := by rw [show k = nw by omega]; rfl
        have hP : va_P D vwCl (wP cI cZ a n pl nw ns ((sgF nw ns (σ, κ)).1) ((foldN (sg1 nw ns) k (σ, va_up κ 1 (σ 16))).2)) G := Eq.mp (congrArg (fun z9 => va_P D vwCl (wP cI cZ a n pl nw ns z9 ((foldN (sg1 nw ns) k (σ, va_up κ 1 (σ 16))).2)) G) hw9) hP
        clear hw9
        have hw9 : (foldN (sg1 nw ns) k (σ, va_up κ 1 (σ 16))).2 = (sgF nw ns (σ, κ)).2 := by rw [show k = nw by omega]; rfl
        have hP : va_P D vwCl (wP cI cZ a n pl nw ns ((sgF nw ns (σ, κ)).1) ((sgF nw ns (σ, κ)).2)) G := Eq.mp (congrArg (fun z9 => va_P D vwCl (wP cI cZ a n pl nw ns ((sgF nw ns (σ, κ)).1) z9) G) hw9) hP
        clear hw9
        exact hEnd 45 ls G locs dX0_singToEachOther_45 hP hS
      · skip
        refine lv_aload_n hx hb dX0_singToEachOther_24 rfl (lv_at hl 1 rfl) ?_
        refine li_gf0 hx hb hX0 hown hK hP 0 rfl 7 (by decide) f28 rfl dX0_singToEachOther_25 ?_
        refine lv_iload_n hx hb dX0_singToEachOther_28 rfl (lv_at hl 0 rfl) ?_
        refine li_ild hx hb hK hP 6 0 rfl rfl (by omega) (by decide) dX0_singToEachOther_29 ?_
        refine lv_iconst (v := nI 1) hx hb dX0_singToEachOther_30 rfl ?_
        refine lv_icmp_ne (tgt := 39) hx hb dX0_singToEachOther_31 (by decide) (fun c3 => ?_) (fun c3 => ?_)
        · skip
          refine lv_iinc (v := nI (k + 1)) (lv' := [(1, .int (nI (k + 1))), (0, .ref (a 0))]) hx hb dX0_singToEachOther_39 hl (k := 0) rfl (nI_inc _ _) (by decide) rfl (fun ls hl => ?_)
          refine lv_goto (tgt := 13) hx hb dX0_singToEachOther_42 (by decide) ?_
          have hw9 : (foldN (sg1 nw ns) k (σ, va_up κ 1 (σ 16))).1 = (foldN (sg1 nw ns) (k + 1) (σ, va_up κ 1 (σ 16))).1 := by first | exact (congrArg Prod.fst (sg1_f (by assumption))).symm | exact (congrArg Prod.fst (sg1_t (by assumption))).symm
          have hP : va_P D vwCl (wP cI cZ a n pl nw ns ((foldN (sg1 nw ns) (k + 1) (σ, va_up κ 1 (σ 16))).1) ((foldN (sg1 nw ns) k (σ, va_up κ 1 (σ 16))).2)) G := Eq.mp (congrArg (fun z9 => va_P D vwCl (wP cI cZ a n pl nw ns z9 ((foldN (sg1 nw ns) k (σ, va_up κ 1 (σ 16))).2)) G) hw9) hP
          clear hw9
          have hw9 : (foldN (sg1 nw ns) k (σ, va_up κ 1 (σ 16))).2 = (foldN (sg1 nw ns) (k + 1) (σ, va_up κ 1 (σ 16))).2 := by first | exact (congrArg Prod.snd (sg1_f (by assumption))).symm | exact (congrArg Prod.snd (sg1_t (by assumption))).symm
          have hP : va_P D vwCl (wP cI cZ a n pl nw ns ((foldN (sg1 nw ns) (k + 1) (σ, va_up κ 1 (σ 16))).1) ((foldN (sg1 nw ns) (k + 1) (σ, va_up κ 1 (σ 16))).2)) G := Eq.mp (congrArg (fun z9 => va_P D vwCl (wP cI cZ a n pl nw ns ((foldN (sg1 nw ns) (k + 1) (σ, va_up κ 1 (σ 16))).1) z9) G) hw9) hP
          clear hw9
          have hl9 : lv_has ls 2 [(1, .int (nI (k + 1))), (0, .ref (a 0))] := lv_sub hl [0, 1] rfl
          exact ih13 (k + 1) (by omega) (by omega) G locs hP hS ls hl9
        · skip
          refine lv_aload_n hx hb dX0_singToEachOther_34 rfl (lv_at hl 1 rfl) ?_
          refine lv_iload_n hx hb dX0_singToEachOther_35 rfl (lv_at hl 0 rfl) ?_
          refine muV (As := [.int (nI k)]) (q0 := 0) (ci := 0) hx hb hml hown hts (c_X0_listenAround l D cI cZ cL cO a n pl nw ns ((foldN (sg1 nw ns) k (σ, va_up κ 1 (σ 16))).1) ((foldN (sg1 nw ns) k (σ, va_up κ 1 (σ 16))).2) G k A hA (hB) (by omega)) (cwV 1 hts gX0_singToEachOther_X0_listenAround rfl rfl rfl (by decide +kernel) ⟨by decide, by decide⟩) hK hE hP rfl rfl rfl rfl hl.1 rfl (Nat.le_of_ble_eq_true rfl) hS (fun _ h => h) dX0_singToEachOther_36 ⟨Nat.zero_le _, Nat.zero_le _⟩ (fun G locs hP _ _ hS => ?_)
          refine lv_iinc (v := nI (k + 1)) (lv' := [(1, .int (nI (k + 1))), (0, .ref (a 0))]) hx hb dX0_singToEachOther_39 hl (k := 0) rfl (nI_inc _ _) (by decide) rfl (fun ls hl => ?_)
          refine lv_goto (tgt := 13) hx hb dX0_singToEachOther_42 (by decide) ?_
          have hw9 : (laF nw ns k (((foldN (sg1 nw ns) k (σ, va_up κ 1 (σ 16))).1), ((foldN (sg1 nw ns) k (σ, va_up κ 1 (σ 16))).2))).1 = (foldN (sg1 nw ns) (k + 1) (σ, va_up κ 1 (σ 16))).1 := by first | exact (congrArg Prod.fst (sg1_f (by assumption))).symm | exact (congrArg Prod.fst (sg1_t (by assumption))).symm
          have hP : va_P D vwCl (wP cI cZ a n pl nw ns ((foldN (sg1 nw ns) (k + 1) (σ, va_up κ 1 (σ 16))).1) ((laF nw ns k (((foldN (sg1 nw ns) k (σ, va_up κ 1 (σ 16))).1), ((foldN (sg1 nw ns) k (σ, va_up κ 1 (σ 16))).2))).2)) G := Eq.mp (congrArg (fun z9 => va_P D vwCl (wP cI cZ a n pl nw ns z9 ((laF nw ns k (((foldN (sg1 nw ns) k (σ, va_up κ 1 (σ 16))).1), ((foldN (sg1 nw ns) k (σ, va_up κ 1 (σ 16))).2))).2)) G) hw9) hP
          clear hw9
          have hw9 : (laF nw ns k (((foldN (sg1 nw ns) k (σ, va_up κ 1 (σ 16))).1), ((foldN (sg1 nw ns) k (σ, va_up κ 1 (σ 16))).2))).2 = (foldN (sg1 nw ns) (k + 1) (σ, va_up κ 1 (σ 16))).2 := by first | exact (congrArg Prod.snd (sg1_f (by assumption))).symm | exact (congrArg Prod.snd (sg1_t (by assumption))).symm
          have hP : va_P D vwCl (wP cI cZ a n pl nw ns ((foldN (sg1 nw ns) (k + 1) (σ, va_up κ 1 (σ 16))).1) ((foldN (sg1 nw ns) (k + 1) (σ, va_up κ 1 (σ 16))).2)) G := Eq.mp (congrArg (fun z9 => va_P D vwCl (wP cI cZ a n pl nw ns ((foldN (sg1 nw ns) (k + 1) (σ, va_up κ 1 (σ 16))).1) z9) G) hw9) hP
          clear hw9
          have hl9 : lv_has ls 2 [(1, .int (nI (k + 1))), (0, .ref (a 0))] := lv_sub hl [0, 1] rfl
          exact ih13 (k + 1) (by omega) (by omega) G locs hP hS ls hl9
  have hw9 : σ = (foldN (sg1 nw ns) 0 (σ, va_up κ 1 (σ 16))).1 := rfl
  have hP : va_P D vwCl (wP cI cZ a n pl nw ns ((foldN (sg1 nw ns) 0 (σ, va_up κ 1 (σ 16))).1) (va_up κ 1 (σ 16))) G := Eq.mp (congrArg (fun z9 => va_P D vwCl (wP cI cZ a n pl nw ns z9 (va_up κ 1 (σ 16))) G) hw9) hP
  clear hw9
  have hw9 : va_up κ 1 (σ 16) = (foldN (sg1 nw ns) 0 (σ, va_up κ 1 (σ 16))).2 := rfl
  have hP : va_P D vwCl (wP cI cZ a n pl nw ns ((foldN (sg1 nw ns) 0 (σ, va_up κ 1 (σ 16))).1) ((foldN (sg1 nw ns) 0 (σ, va_up κ 1 (σ 16))).2)) G := Eq.mp (congrArg (fun z9 => va_P D vwCl (wP cI cZ a n pl nw ns ((foldN (sg1 nw ns) 0 (σ, va_up κ 1 (σ 16))).1) z9) G) hw9) hP
  clear hw9
  have hl9 : lv_has ls 2 [(1, .int (nI 0)), (0, .ref (a 0))] := lv_sub hl [0, 1] rfl
  exact L13_1 ((nw - 0) + 1) 0 (Nat.lt_succ_self _) (by omega) G locs hP hS ls hl9
set_option maxHeartbeats 4000000 in
set_option maxRecDepth 100000 in
theorem c_X0_passCorner (l : Launch) (D : va_G) (cI cZ cL cO : ClassId) (a : Nat → Nat) (n pl nw ns : Nat) (σ κ : Nat → Nat → Int32) (H : Heap) (sx : Nat) (A : Nat → Prop) (hA : okP A a 24) (hB : n ≤ 10 ∧ pl ≤ 200 ∧ nw ≤ 20 ∧ ns ≤ 6) (hsx : sx < 10) : Met l yX0_passCorner wsX0_passCorner ({ frames := 0, cells := 0, slots := 0, locals := 0 } : Room) (ro_P D (T4 cI cZ cL cO) (wP cI cZ a n pl nw ns σ κ) H [.ref (a 0), .int (nI sx)]) (mi_Q D (zI (pcB sx (σ, κ))) (wP cI cZ a n pl nw ns ((pcQ sx (σ, κ)).1) ((pcQ sx (σ, κ)).2)) A) 0 0 A := by
  refine mi_of (cc := cX0_passCorner) (maxL := 2) (by decide) rfl (Nat.le_of_ble_eq_true rfl) (zI_n _) ?_
  intro p e s m args below meth c Q ls locs hx hb hml hown hts hK hE hP hl hS hEnd
  have hl : lv_has ls 2 [(0, .ref (a 0)), (1, .int (nI sx))] := hl
  have hX0 : ∀ w ∈ wsX00, w.before args s = true := fun w h => hts w (List.mem_cons_of_mem _ (List.mem_append_right _ (h)))
  have f52 : (Cond.fieldLink RX0 52 "LanternWalk$Parade" "stillLets" "[I").before args s = true := hts _ (List.mem_of_getElem? (i := 1) rfl)
  have f15 : (Cond.fieldLink RX0 15 "LanternWalk$Parade" "passed" "[I").before args s = true := hts _ (List.mem_of_getElem? (i := 3) rfl)
  have f18 : (Cond.fieldLink RX0 18 "LanternWalk$Parade" "stopped" "[I").before args s = true := hts _ (List.mem_of_getElem? (i := 2) rfl)
  refine lv_aload_n hx hb dX0_passCorner_0 rfl (lv_at hl 0 rfl) ?_
  refine li_gf0 hx hb hX0 hown hK hP 0 rfl 15 (by decide) f52 rfl dX0_passCorner_1 ?_
  refine lv_iload_n hx hb dX0_passCorner_4 rfl (lv_at hl 1 rfl) ?_
  refine li_ild hx hb hK hP 14 0 rfl rfl (by omega) (by decide) dX0_passCorner_5 ?_
  refine lv_if_gt (tgt := 21) hx hb dX0_passCorner_6 (by decide) (fun c1 => ?_) (fun c1 => ?_)
  · skip
    refine lv_aload_n hx hb dX0_passCorner_21 rfl (lv_at hl 0 rfl) ?_
    refine li_gf0 hx hb hX0 hown hK hP 0 rfl 15 (by decide) f52 rfl dX0_passCorner_22 ?_
    refine lv_iload_n hx hb dX0_passCorner_25 rfl (lv_at hl 1 rfl) ?_
    refine lv_dup2_11 hx hb dX0_passCorner_26 rfl rfl ?_
    refine li_ild hx hb hK hP 14 0 rfl rfl (by omega) (by decide) dX0_passCorner_27 ?_
    refine lv_iconst (v := nI 1) hx hb dX0_passCorner_28 rfl ?_
    refine lv_isub hx hb dX0_passCorner_29 ?_
    refine li_ist hx hb hK hP hA.D hS 14 0 rfl rfl (by omega) (by decide) stK_3 dX0_passCorner_30 (fun G locs hP hS => ?_)
    refine lv_aload_n hx hb dX0_passCorner_31 rfl (lv_at hl 0 rfl) ?_
    refine li_gf0 hx hb hX0 hown hK hP 0 rfl 3 (by decide) f15 rfl dX0_passCorner_32 ?_
    refine lv_iload_n hx hb dX0_passCorner_35 rfl (lv_at hl 1 rfl) ?_
    refine lv_dup2_11 hx hb dX0_passCorner_36 rfl rfl ?_
    refine li_ild hx hb hK hP 2 0 rfl rfl (by omega) (by decide) dX0_passCorner_37 ?_
    refine lv_iconst (v := nI 1) hx hb dX0_passCorner_38 rfl ?_
    refine lv_iadd hx hb dX0_passCorner_39 ?_
    refine li_ist hx hb hK hP hA.D hS 2 0 rfl rfl (by omega) (by decide) stP_8 dX0_passCorner_40 (fun G locs hP hS => ?_)
    refine lv_iconst (v := nI 1) hx hb dX0_passCorner_41 rfl ?_
    refine li_topi (show nI 1 = zI (pcB sx (σ, κ)) from by unfold pcB; simp [zI, c1]) ?_
    have hw9 : up2 σ 8 sx ((σ 8 sx) + (nI 1)) = (pcQ sx (σ, κ)).1 := by unfold pcQ; simp [c1]
    have hP : va_P D vwCl (wP cI cZ a n pl nw ns ((pcQ sx (σ, κ)).1) (up2 κ 3 sx ((κ 3 sx) - (nI 1)))) G := Eq.mp (congrArg (fun z9 => va_P D vwCl (wP cI cZ a n pl nw ns z9 (up2 κ 3 sx ((κ 3 sx) - (nI 1)))) G) hw9) hP
    clear hw9
    have hw9 : up2 κ 3 sx ((κ 3 sx) - (nI 1)) = (pcQ sx (σ, κ)).2 := by unfold pcQ; simp [c1]
    have hP : va_P D vwCl (wP cI cZ a n pl nw ns ((pcQ sx (σ, κ)).1) ((pcQ sx (σ, κ)).2)) G := Eq.mp (congrArg (fun z9 => va_P D vwCl (wP cI cZ a n pl nw ns ((pcQ sx (σ, κ)).1) z9) G) hw9) hP
    clear hw9
    exact hEnd 42 ls G locs dX0_passCorner_42 hP hS
  · skip
    refine lv_aload_n hx hb dX0_passCorner_9 rfl (lv_at hl 0 rfl) ?_
    refine li_gf0 hx hb hX0 hown hK hP 0 rfl 4 (by decide) f18 rfl dX0_passCorner_10 ?_
    refine lv_iload_n hx hb dX0_passCorner_13 rfl (lv_at hl 1 rfl) ?_
    refine lv_dup2_11 hx hb dX0_passCorner_14 rfl rfl ?_
    refine li_ild hx hb hK hP 3 0 rfl rfl (by omega) (by decide) dX0_passCorner_15 ?_
    refine lv_iconst (v := nI 1) hx hb dX0_passCorner_16 rfl ?_
    refine lv_iadd hx hb dX0_passCorner_17 ?_
    refine li_ist hx hb hK hP hA.D hS 3 0 rfl rfl (by omega) (by decide) stP_9 dX0_passCorner_18 (fun G locs hP hS => ?_)
    refine lv_iconst (v := nI 0) hx hb dX0_passCorner_19 rfl ?_
    refine li_topi (show nI 0 = zI (pcB sx (σ, κ)) from by unfold pcB; simp [zI, c1]) ?_
    have hw9 : up2 σ 9 sx ((σ 9 sx) + (nI 1)) = (pcQ sx (σ, κ)).1 := by unfold pcQ; simp [c1]
    have hP : va_P D vwCl (wP cI cZ a n pl nw ns ((pcQ sx (σ, κ)).1) κ) G := Eq.mp (congrArg (fun z9 => va_P D vwCl (wP cI cZ a n pl nw ns z9 κ) G) hw9) hP
    clear hw9
    have hw9 : κ = (pcQ sx (σ, κ)).2 := by unfold pcQ; simp [c1]
    have hP : va_P D vwCl (wP cI cZ a n pl nw ns ((pcQ sx (σ, κ)).1) ((pcQ sx (σ, κ)).2)) G := Eq.mp (congrArg (fun z9 => va_P D vwCl (wP cI cZ a n pl nw ns ((pcQ sx (σ, κ)).1) z9) G) hw9) hP
    clear hw9
    exact hEnd 20 ls G locs dX0_passCorner_20 hP hS
set_option maxHeartbeats 4000000 in
set_option maxRecDepth 100000 in
theorem c_X0_comeHome (l : Launch) (D : va_G) (cI cZ cL cO : ClassId) (a : Nat → Nat) (n pl nw ns : Nat) (σ κ : Nat → Nat → Int32) (H : Heap) (w : Nat) (A : Nat → Prop) (hA : okP A a 24) (hB : n ≤ 10 ∧ pl ≤ 200 ∧ nw ≤ 20 ∧ ns ≤ 6) (hw : w < 20) : Met l yX0_comeHome wsX0_comeHome ({ frames := 0, cells := 0, slots := 0, locals := 0 } : Room) (ro_P D (T4 cI cZ cL cO) (wP cI cZ a n pl nw ns σ κ) H [.ref (a 0), .int (nI w)]) (mu_Q D (wP cI cZ a n pl nw ns (ch1 w σ) κ) A) 0 0 A := by
  refine mu_of (cc := cX0_comeHome) (maxL := 2) (by decide) rfl (Nat.le_of_ble_eq_true rfl) ?_
  intro p e s m args below meth c Q ls locs hx hb hml hown hts hK hE hP hl hS hEnd
  have hl : lv_has ls 2 [(0, .ref (a 0)), (1, .int (nI w))] := hl
  have hX0 : ∀ w ∈ wsX00, w.before args s = true := fun w h => hts w (List.mem_cons_of_mem _ (List.mem_append_right _ (h)))
  have f28 : (Cond.fieldLink RX0 28 "LanternWalk$Parade" "stage" "[I").before args s = true := hts _ (List.mem_of_getElem? (i := 1) rfl)
  have f31 : (Cond.fieldLink RX0 31 "LanternWalk$Parade" "place" "[I").before args s = true := hts _ (List.mem_of_getElem? (i := 2) rfl)
  have f37 : (Cond.fieldLink RX0 37 "LanternWalk$Parade" "cameHome" "[I").before args s = true := hts _ (List.mem_of_getElem? (i := 3) rfl)
  have f68 : (Cond.fieldLink RX0 68 "LanternWalk$Parade" "step" "I").before args s = true := hts _ (List.mem_of_getElem? (i := 4) rfl)
  refine lv_aload_n hx hb dX0_comeHome_0 rfl (lv_at hl 0 rfl) ?_
  refine li_gf0 hx hb hX0 hown hK hP 0 rfl 7 (by decide) f28 rfl dX0_comeHome_1 ?_
  refine lv_iload_n hx hb dX0_comeHome_4 rfl (lv_at hl 1 rfl) ?_
  refine lv_iconst (v := nI 2) hx hb dX0_comeHome_5 rfl ?_
  refine li_ist hx hb hK hP hA.D hS 6 0 rfl rfl (by omega) (by decide) stP_12 dX0_comeHome_6 (fun G locs hP hS => ?_)
  refine lv_aload_n hx hb dX0_comeHome_7 rfl (lv_at hl 0 rfl) ?_
  refine li_gf0 hx hb hX0 hown hK hP 0 rfl 8 (by decide) f31 rfl dX0_comeHome_8 ?_
  refine lv_iload_n hx hb dX0_comeHome_11 rfl (lv_at hl 1 rfl) ?_
  refine lv_iconst (v := (-1)) hx hb dX0_comeHome_12 rfl ?_
  refine li_ist hx hb hK hP hA.D hS 7 0 rfl rfl (by omega) (by decide) stP_13 dX0_comeHome_13 (fun G locs hP hS => ?_)
  refine lv_aload_n hx hb dX0_comeHome_14 rfl (lv_at hl 0 rfl) ?_
  refine li_gf0 hx hb hX0 hown hK hP 0 rfl 10 (by decide) f37 rfl dX0_comeHome_15 ?_
  refine lv_iload_n hx hb dX0_comeHome_18 rfl (lv_at hl 1 rfl) ?_
  refine lv_aload_n hx hb dX0_comeHome_19 rfl (lv_at hl 0 rfl) ?_
  refine li_gf0 hx hb hX0 hown hK hP 0 rfl 1 (by decide) f68 rfl dX0_comeHome_20 ?_
  refine li_ist hx hb hK hP hA.D hS 9 0 rfl rfl (by omega) (by decide) stP_15 dX0_comeHome_23 (fun G locs hP hS => ?_)
  have hw9 : up2 (up2 (up2 σ 12 w (nI 2)) 13 w (-1)) 15 w ((up2 (up2 σ 12 w (nI 2)) 13 w (-1)) 17 0) = ch1 w σ := by unfold ch1; simp [up2_at]
  have hP : va_P D vwCl (wP cI cZ a n pl nw ns (ch1 w σ) κ) G := Eq.mp (congrArg (fun z9 => va_P D vwCl (wP cI cZ a n pl nw ns z9 κ) G) hw9) hP
  clear hw9
  exact hEnd 24 ls G locs dX0_comeHome_24 hP hS
set_option maxHeartbeats 4000000 in
set_option maxRecDepth 100000 in
theorem c_X0_goOnePlace (l : Launch) (D : va_G) (cI cZ cL cO : ClassId) (a : Nat → Nat) (n pl nw ns : Nat) (σ κ : Nat → Nat → Int32) (H : Heap) (w : Nat) (A : Nat → Prop) (hA : okP A a 24) (hB : n ≤ 10 ∧ pl ≤ 200 ∧ nw ≤ 20 ∧ ns ≤ 6) (hw : w < nw) : Met l yX0_goOnePlace wsX0_goOnePlace ({ frames := 1, cells := 0, slots := 0, locals := 23 } : Room) (ro_P D (T4 cI cZ cL cO) (wP cI cZ a n pl nw ns σ κ) H [.ref (a 0), .int (nI w)]) (mi_Q D (zI ((g1 n pl nw w (σ, κ)).1)) (wP cI cZ a n pl nw ns ((g1 n pl nw w (σ, κ)).2.1) ((g1 n pl nw w (σ, κ)).2.2)) A) 0 0 A := by
  refine mi_of (cc := cX0_goOnePlace) (maxL := 4) (by decide) rfl (Nat.le_of_ble_eq_true rfl) (zI_n _) ?_
  intro p e s m args below meth c Q ls locs hx hb hml hown hts hK hE hP hl hS hEnd
  have hl : lv_has ls 4 [(0, .ref (a 0)), (1, .int (nI w))] := hl
  have hX0 : ∀ w ∈ wsX00, w.before args s = true := fun w h => hts w (List.mem_cons_of_mem _ (List.mem_append_left _ (List.mem_append_right _ (h))))
  have hX1 : ∀ w ∈ wsX10, w.before args s = true := fun w h => hts w (List.mem_cons_of_mem _ (List.mem_append_right _ (h)))
  have f31 : (Cond.fieldLink RX0 31 "LanternWalk$Parade" "place" "[I").before args s = true := hts _ (List.mem_of_getElem? (i := 1) rfl)
  have f58 : (Cond.fieldLink RX0 58 "LanternWalk$Parade" "setting" "LLanternWalk$Setting;").before args s = true := hts _ (List.mem_of_getElem? (i := 2) rfl)
  have f205 : (Cond.fieldLink RX0 205 "LanternWalk$Setting" "places" "I").before args s = true := hts _ (List.mem_of_getElem? (i := 3) rfl)
  refine lv_aload_n hx hb dX0_goOnePlace_0 rfl (lv_at hl 0 rfl) ?_
  refine li_gf0 hx hb hX0 hown hK hP 0 rfl 8 (by decide) f31 rfl dX0_goOnePlace_1 ?_
  refine lv_iload_n hx hb dX0_goOnePlace_4 rfl (lv_at hl 1 rfl) ?_
  refine li_ild hx hb hK hP 7 0 rfl rfl (by omega) (by decide) dX0_goOnePlace_5 ?_
  refine lv_iconst (v := nI 1) hx hb dX0_goOnePlace_6 rfl ?_
  refine lv_iadd hx hb dX0_goOnePlace_7 ?_
  refine lv_istore_n (lv' := [(2, .int ((σ 13 w) + (nI 1))), (0, .ref (a 0)), (1, .int (nI w))]) hx hb dX0_goOnePlace_8 rfl hl (by decide) rfl (fun ls hl => ?_)
  refine lv_aload_n hx hb dX0_goOnePlace_9 rfl (lv_at hl 1 rfl) ?_
  refine lv_iload_n hx hb dX0_goOnePlace_10 rfl (lv_at hl 0 rfl) ?_
  refine roV (As := [.int ((σ 13 w) + (nI 1))]) (q0 := 0) (ci := 0) hx hb hml hown hts (c_X0_walkersAt l D cI cZ cL cO a n pl nw ns σ κ H ((σ 13 w) + (nI 1)) (hB)) (cwV 1 hts gX0_goOnePlace_X0_walkersAt rfl rfl rfl (by decide +kernel) ⟨by decide, by decide⟩) hK hE hP rfl rfl rfl rfl hl.1 rfl (Nat.le_of_ble_eq_true rfl) hS dX0_goOnePlace_11 ⟨Nat.zero_le _, Nat.zero_le _⟩ (fun locs hS => ?_)
  refine lv_iconst (v := nI 2) hx hb dX0_goOnePlace_14 rfl ?_
  refine li_lt (tgt := 20) hx hb dX0_goOnePlace_15 (by decide) (by first | omega | (have := wa_le (σ := σ) (nw := nw) (z := σ 13 w + nI 1); omega)) (by first | omega | (have := wa_le (σ := σ) (nw := nw) (z := σ 13 w + nI 1); omega)) (fun c1 => ?_) (fun c1 => ?_)
  · skip
    refine lv_aload_n hx hb dX0_goOnePlace_20 rfl (lv_at hl 1 rfl) ?_
    refine li_gf0 hx hb hX0 hown hK hP 0 rfl 0 (by decide) f58 rfl dX0_goOnePlace_21 ?_
    refine lv_aload_n hx hb dX0_goOnePlace_24 rfl (lv_at hl 1 rfl) ?_
    refine li_gf0 hx hb hX0 hown hK hP 0 rfl 8 (by decide) f31 rfl dX0_goOnePlace_25 ?_
    refine lv_iload_n hx hb dX0_goOnePlace_28 rfl (lv_at hl 2 rfl) ?_
    refine li_ild hx hb hK hP 7 0 rfl rfl (by omega) (by decide) dX0_goOnePlace_29 ?_
    refine roV (As := [.int (σ 13 w)]) (q0 := 16) (ci := 1) hx hb hml hown hts (c_X1_stretchEndingAt l D cI cZ cL cO a n pl nw ns σ κ H (σ 13 w) (hB)) (cwV 1 hts gX0_goOnePlace_X1_stretchEndingAt rfl rfl rfl (by decide +kernel) ⟨by decide, by decide⟩) hK hE hP rfl rfl rfl rfl hl.1 rfl (Nat.le_of_ble_eq_true rfl) hS dX0_goOnePlace_30 ⟨Nat.zero_le _, Nat.zero_le _⟩ (fun locs hS => ?_)
    refine lv_istore_n (lv' := [(3, .int (oI (se σ n (σ 13 w)))), (2, .int ((σ 13 w) + (nI 1))), (0, .ref (a 0)), (1, .int (nI w))]) hx hb dX0_goOnePlace_33 rfl hl (by decide) rfl (fun ls hl => ?_)
    refine lv_iload_n hx hb dX0_goOnePlace_34 rfl (lv_at hl 0 rfl) ?_
    refine lv_iconst (v := (-1)) hx hb dX0_goOnePlace_35 rfl ?_
    refine lv_icmp_eq (tgt := 49) hx hb dX0_goOnePlace_36 (by decide) (fun c2 => ?_) (fun c2 => ?_)
    · skip
      have hse : se σ n (σ 13 w) = none := oI_m1 (fun j h => (fnd_lt h).1) (n := n) (by omega) c2
      refine lv_iload_n hx hb dX0_goOnePlace_49 rfl (lv_at hl 1 rfl) ?_
      refine lv_aload_n hx hb dX0_goOnePlace_50 rfl (lv_at hl 2 rfl) ?_
      refine li_gf0 hx hb hX0 hown hK hP 0 rfl 0 (by decide) f58 rfl dX0_goOnePlace_51 ?_
      refine li_gf1 hx hb hX1 hown hK hP 16 rfl 1 (by decide) f205 rfl dX0_goOnePlace_54 ?_
      refine lv_icmp_lt (tgt := 67) hx hb dX0_goOnePlace_57 (by decide) (fun c3 => ?_) (fun c3 => ?_)
      · skip
        refine lv_aload_n hx hb dX0_goOnePlace_67 rfl (lv_at hl 2 rfl) ?_
        refine li_gf0 hx hb hX0 hown hK hP 0 rfl 8 (by decide) f31 rfl dX0_goOnePlace_68 ?_
        refine lv_iload_n hx hb dX0_goOnePlace_71 rfl (lv_at hl 3 rfl) ?_
        refine lv_iload_n hx hb dX0_goOnePlace_72 rfl (lv_at hl 1 rfl) ?_
        refine li_ist hx hb hK hP hA.D hS 7 0 rfl rfl (by omega) (by decide) stP_13 dX0_goOnePlace_73 (fun G locs hP hS => ?_)
        refine lv_iconst (v := nI 1) hx hb dX0_goOnePlace_74 rfl ?_
        have hg := (by first | exact g1_d (κ := κ) (by assumption) hse (by assumption) | exact g1_f (by assumption) hse (by assumption) (by assumption) : g1 n pl nw w (σ, κ) = (true, (up2 σ 13 w ((σ 13 w) + (nI 1)), κ)))
        refine li_topi (show nI 1 = zI ((g1 n pl nw w (σ, κ)).1) from by rw [hg]; rfl) ?_
        have hw9 : up2 σ 13 w ((σ 13 w) + (nI 1)) = (g1 n pl nw w (σ, κ)).2.1 := by rw [hg]
        have hP : va_P D vwCl (wP cI cZ a n pl nw ns ((g1 n pl nw w (σ, κ)).2.1) κ) G := Eq.mp (congrArg (fun z9 => va_P D vwCl (wP cI cZ a n pl nw ns z9 κ) G) hw9) hP
        clear hw9
        have hw9 : κ = (g1 n pl nw w (σ, κ)).2.2 := by rw [hg]
        have hP : va_P D vwCl (wP cI cZ a n pl nw ns ((g1 n pl nw w (σ, κ)).2.1) ((g1 n pl nw w (σ, κ)).2.2)) G := Eq.mp (congrArg (fun z9 => va_P D vwCl (wP cI cZ a n pl nw ns ((g1 n pl nw w (σ, κ)).2.1) z9) G) hw9) hP
        clear hw9
        exact hEnd 75 ls G locs dX0_goOnePlace_75 hP hS
      · skip
        refine lv_aload_n hx hb dX0_goOnePlace_60 rfl (lv_at hl 2 rfl) ?_
        refine lv_iload_n hx hb dX0_goOnePlace_61 rfl (lv_at hl 3 rfl) ?_
        refine muV (As := [.int (nI w)]) (q0 := 0) (ci := 0) hx hb hml hown hts (c_X0_comeHome l D cI cZ cL cO a n pl nw ns σ κ H w A hA (hB) (by omega)) (cwV 1 hts gX0_goOnePlace_X0_comeHome rfl rfl rfl (by decide +kernel) ⟨by decide, by decide⟩) hK hE hP rfl rfl rfl rfl hl.1 rfl (Nat.le_of_ble_eq_true rfl) hS (fun _ h => h) dX0_goOnePlace_62 ⟨Nat.zero_le _, Nat.zero_le _⟩ (fun G locs hP _ _ hS => ?_)
        refine lv_iconst (v := nI 0) hx hb dX0_goOnePlace_65 rfl ?_
        have hg := (by first | exact g1_c (κ := κ) (by assumption) hse (by assumption) | exact g1_e (by assumption) hse (by assumption) (by assumption) : g1 n pl nw w (σ, κ) = (false, (ch1 w σ, κ)))
        refine li_topi (show nI 0 = zI ((g1 n pl nw w (σ, κ)).1) from by rw [hg]; rfl) ?_
        have hw9 : ch1 w σ = (g1 n pl nw w (σ, κ)).2.1 := by rw [hg]
        have hP : va_P D vwCl (wP cI cZ a n pl nw ns ((g1 n pl nw w (σ, κ)).2.1) κ) G := Eq.mp (congrArg (fun z9 => va_P D vwCl (wP cI cZ a n pl nw ns z9 κ) G) hw9) hP
        clear hw9
        have hw9 : κ = (g1 n pl nw w (σ, κ)).2.2 := by rw [hg]
        have hP : va_P D vwCl (wP cI cZ a n pl nw ns ((g1 n pl nw w (σ, κ)).2.1) ((g1 n pl nw w (σ, κ)).2.2)) G := Eq.mp (congrArg (fun z9 => va_P D vwCl (wP cI cZ a n pl nw ns ((g1 n pl nw w (σ, κ)).2.1) z9) G) hw9) hP
        clear hw9
        exact hEnd 66 ls G locs dX0_goOnePlace_66 hP hS
    · skip
      obtain ⟨j, hse⟩ := oI_n c2
      have hj : j < n := (fnd_lt hse).1
      rw [hse] at hl
      have hl : lv_has ls 4 [(3, .int (nI j)), (2, .int ((σ 13 w) + (nI 1))), (0, .ref (a 0)), (1, .int (nI w))] := hl
      refine lv_aload_n hx hb dX0_goOnePlace_39 rfl (lv_at hl 2 rfl) ?_
      refine lv_iload_n hx hb dX0_goOnePlace_40 rfl (lv_at hl 0 rfl) ?_
      refine miV (As := [.int (nI j)]) (q0 := 0) (ci := 0) hx hb hml hown hts (c_X0_passCorner l D cI cZ cL cO a n pl nw ns σ κ H j A hA (hB) (by omega)) (cwV 1 hts gX0_goOnePlace_X0_passCorner rfl rfl rfl (by decide +kernel) ⟨by decide, by decide⟩) hK hE hP rfl rfl rfl rfl hl.1 rfl (Nat.le_of_ble_eq_true rfl) hS (fun _ h => h) dX0_goOnePlace_41 ⟨Nat.zero_le _, Nat.zero_le _⟩ (fun G locs hP _ _ hS => ?_)
      refine li_zne (tgt := 49) hx hb dX0_goOnePlace_44 (by decide) (fun c4 => ?_) (fun c4 => ?_)
      · skip
        refine lv_iload_n hx hb dX0_goOnePlace_49 rfl (lv_at hl 1 rfl) ?_
        refine lv_aload_n hx hb dX0_goOnePlace_50 rfl (lv_at hl 2 rfl) ?_
        refine li_gf0 hx hb hX0 hown hK hP 0 rfl 0 (by decide) f58 rfl dX0_goOnePlace_51 ?_
        refine li_gf1 hx hb hX1 hown hK hP 16 rfl 1 (by decide) f205 rfl dX0_goOnePlace_54 ?_
        refine lv_icmp_lt (tgt := 67) hx hb dX0_goOnePlace_57 (by decide) (fun c5 => ?_) (fun c5 => ?_)
        · skip
          refine lv_aload_n hx hb dX0_goOnePlace_67 rfl (lv_at hl 2 rfl) ?_
          refine li_gf0 hx hb hX0 hown hK hP 0 rfl 8 (by decide) f31 rfl dX0_goOnePlace_68 ?_
          refine lv_iload_n hx hb dX0_goOnePlace_71 rfl (lv_at hl 3 rfl) ?_
          refine lv_iload_n hx hb dX0_goOnePlace_72 rfl (lv_at hl 1 rfl) ?_
          refine li_ist hx hb hK hP hA.D hS 7 0 rfl rfl (by omega) (by decide) stP_13 dX0_goOnePlace_73 (fun G locs hP hS => ?_)
          refine lv_iconst (v := nI 1) hx hb dX0_goOnePlace_74 rfl ?_
          have hg := (by first | exact g1_d (κ := κ) (by assumption) hse (by assumption) | exact g1_f (by assumption) hse (by assumption) (by assumption) : g1 n pl nw w (σ, κ) = (true, (up2 ((pcQ j (σ, κ)).1) 13 w ((σ 13 w) + (nI 1)), (pcQ j (σ, κ)).2)))
          refine li_topi (show nI 1 = zI ((g1 n pl nw w (σ, κ)).1) from by rw [hg]; rfl) ?_
          have hw9 : up2 ((pcQ j (σ, κ)).1) 13 w ((σ 13 w) + (nI 1)) = (g1 n pl nw w (σ, κ)).2.1 := by rw [hg]
          have hP : va_P D vwCl (wP cI cZ a n pl nw ns ((g1 n pl nw w (σ, κ)).2.1) ((pcQ j (σ, κ)).2)) G := Eq.mp (congrArg (fun z9 => va_P D vwCl (wP cI cZ a n pl nw ns z9 ((pcQ j (σ, κ)).2)) G) hw9) hP
          clear hw9
          have hw9 : (pcQ j (σ, κ)).2 = (g1 n pl nw w (σ, κ)).2.2 := by rw [hg]
          have hP : va_P D vwCl (wP cI cZ a n pl nw ns ((g1 n pl nw w (σ, κ)).2.1) ((g1 n pl nw w (σ, κ)).2.2)) G := Eq.mp (congrArg (fun z9 => va_P D vwCl (wP cI cZ a n pl nw ns ((g1 n pl nw w (σ, κ)).2.1) z9) G) hw9) hP
          clear hw9
          exact hEnd 75 ls G locs dX0_goOnePlace_75 hP hS
        · skip
          refine lv_aload_n hx hb dX0_goOnePlace_60 rfl (lv_at hl 2 rfl) ?_
          refine lv_iload_n hx hb dX0_goOnePlace_61 rfl (lv_at hl 3 rfl) ?_
          refine muV (As := [.int (nI w)]) (q0 := 0) (ci := 0) hx hb hml hown hts (c_X0_comeHome l D cI cZ cL cO a n pl nw ns ((pcQ j (σ, κ)).1) ((pcQ j (σ, κ)).2) G w A hA (hB) (by omega)) (cwV 1 hts gX0_goOnePlace_X0_comeHome rfl rfl rfl (by decide +kernel) ⟨by decide, by decide⟩) hK hE hP rfl rfl rfl rfl hl.1 rfl (Nat.le_of_ble_eq_true rfl) hS (fun _ h => h) dX0_goOnePlace_62 ⟨Nat.zero_le _, Nat.zero_le _⟩ (fun G locs hP _ _ hS => ?_)
          refine lv_iconst (v := nI 0) hx hb dX0_goOnePlace_65 rfl ?_
          have hg := (by first | exact g1_c (κ := κ) (by assumption) hse (by assumption) | exact g1_e (by assumption) hse (by assumption) (by assumption) : g1 n pl nw w (σ, κ) = (false, (ch1 w ((pcQ j (σ, κ)).1), (pcQ j (σ, κ)).2)))
          refine li_topi (show nI 0 = zI ((g1 n pl nw w (σ, κ)).1) from by rw [hg]; rfl) ?_
          have hw9 : ch1 w ((pcQ j (σ, κ)).1) = (g1 n pl nw w (σ, κ)).2.1 := by rw [hg]
          have hP : va_P D vwCl (wP cI cZ a n pl nw ns ((g1 n pl nw w (σ, κ)).2.1) ((pcQ j (σ, κ)).2)) G := Eq.mp (congrArg (fun z9 => va_P D vwCl (wP cI cZ a n pl nw ns z9 ((pcQ j (σ, κ)).2)) G) hw9) hP
          clear hw9
          have hw9 : (pcQ j (σ, κ)).2 = (g1 n pl nw w (σ, κ)).2.2 := by rw [hg]
          have hP : va_P D vwCl (wP cI cZ a n pl nw ns ((g1 n pl nw w (σ, κ)).2.1) ((g1 n pl nw w (σ, κ)).2.2)) G := Eq.mp (congrArg (fun z9 => va_P D vwCl (wP cI cZ a n pl nw ns ((g1 n pl nw w (σ, κ)).2.1) z9) G) hw9) hP
          clear hw9
          exact hEnd 66 ls G locs dX0_goOnePlace_66 hP hS
      · skip
        refine lv_iconst (v := nI 0) hx hb dX0_goOnePlace_47 rfl ?_
        have hg : g1 n pl nw w (σ, κ) = _ := g1_b (by assumption) hse (by assumption)
        refine li_topi (show nI 0 = zI ((g1 n pl nw w (σ, κ)).1) from by rw [hg]; rfl) ?_
        have hw9 : (pcQ j (σ, κ)).1 = (g1 n pl nw w (σ, κ)).2.1 := by rw [hg]
        have hP : va_P D vwCl (wP cI cZ a n pl nw ns ((g1 n pl nw w (σ, κ)).2.1) ((pcQ j (σ, κ)).2)) G := Eq.mp (congrArg (fun z9 => va_P D vwCl (wP cI cZ a n pl nw ns z9 ((pcQ j (σ, κ)).2)) G) hw9) hP
        clear hw9
        have hw9 : (pcQ j (σ, κ)).2 = (g1 n pl nw w (σ, κ)).2.2 := by rw [hg]
        have hP : va_P D vwCl (wP cI cZ a n pl nw ns ((g1 n pl nw w (σ, κ)).2.1) ((g1 n pl nw w (σ, κ)).2.2)) G := Eq.mp (congrArg (fun z9 => va_P D vwCl (wP cI cZ a n pl nw ns ((g1 n pl nw w (σ, κ)).2.1) z9) G) hw9) hP
        clear hw9
        exact hEnd 48 ls G locs dX0_goOnePlace_48 hP hS
  · skip
    refine lv_iconst (v := nI 0) hx hb dX0_goOnePlace_18 rfl ?_
    have hg : g1 n pl nw w (σ, κ) = _ := g1_a (by assumption)
    refine li_topi (show nI 0 = zI ((g1 n pl nw w (σ, κ)).1) from by rw [hg]; rfl) ?_
    have hw9 : σ = (g1 n pl nw w (σ, κ)).2.1 := by rw [hg]
    have hP : va_P D vwCl (wP cI cZ a n pl nw ns ((g1 n pl nw w (σ, κ)).2.1) κ) H := Eq.mp (congrArg (fun z9 => va_P D vwCl (wP cI cZ a n pl nw ns z9 κ) H) hw9) hP
    clear hw9
    have hw9 : κ = (g1 n pl nw w (σ, κ)).2.2 := by rw [hg]
    have hP : va_P D vwCl (wP cI cZ a n pl nw ns ((g1 n pl nw w (σ, κ)).2.1) ((g1 n pl nw w (σ, κ)).2.2)) H := Eq.mp (congrArg (fun z9 => va_P D vwCl (wP cI cZ a n pl nw ns ((g1 n pl nw w (σ, κ)).2.1) z9) H) hw9) hP
    clear hw9
    exact hEnd 19 ls H locs dX0_goOnePlace_19 hP hS
