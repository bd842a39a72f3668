/-! rows copied and filled; the parade: what changes it -/
set_option maxHeartbeats 4000000 in
set_option maxRecDepth 100000 in
theorem c_X0_copyNumbers (l : Launch) (D : va_G) (cI cZ cL cO : ClassId) (H : Heap) (b0 b1 N : Nat) (f g : Nat → Int32) (A : Nat → Prop) (hD0 : ∀ e0 e1 : va_E, va_D A [(b0, e0), (b1, e1)]) (hN : N ≤ 200) : Met l yX0_copyNumbers wsX0_copyNumbers ({ frames := 1, cells := 0, slots := 0, locals := 30 } : Room) (ro_P D (T4 cI cZ cL cO) ([(b0, .inl (cI, N, .inl f)), (b1, .inl (cI, N, .inl g))]) H [.ref b0, .ref b1]) (mu_Q D ([(b0, .inl (cI, N, .inl f)), (b1, .inl (cI, N, .inl (cpk f g N)))]) A) 0 0 A := by
  refine mu_of (cc := cX0_copyNumbers) (maxL := 2) (by decide) rfl (Nat.le_of_ble_eq_true rfl) ?_
  intro p e s m args below meth c Q ls locs hx hb hml hown hts hK hE hP hl hS hEnd
  have hl : lv_has ls 2 [(0, .ref b0), (1, .ref b1)] := hl
  have g0 : (Cond.methodLink RX0 80 Lib.Math.min.name).before args s = true := hts _ (List.mem_of_getElem? (i := 1) rfl)
  have g1 : (Cond.static Lib.Math.min.name).before args s = true := hts _ (List.mem_of_getElem? (i := 2) rfl)
  have g2 : (Cond.initialized "java/lang/Math").before args s = true := hts _ (List.mem_of_getElem? (i := 3) rfl)
  have g3 : (Cond.code Lib.Math.min.name Lib.Math.min.code 2 (some .int)).before args s = true := hts _ (List.mem_of_getElem? (i := 4) rfl)
  have g4 : (Cond.methodLink RX0 86 arraycopyName).before args s = true := hts _ (List.mem_of_getElem? (i := 5) rfl)
  have g5 : (Cond.native arraycopyName).before args s = true := hts _ (List.mem_of_getElem? (i := 6) rfl)
  have g6 : (Cond.static arraycopyName).before args s = true := hts _ (List.mem_of_getElem? (i := 7) rfl)
  have g7 : (Cond.initialized "java/lang/System").before args s = true := hts _ (List.mem_of_getElem? (i := 8) rfl)
  refine lv_aload_n hx hb dX0_copyNumbers_0 rfl (lv_at hl 0 rfl) ?_
  refine lv_iconst (v := nI 0) hx hb dX0_copyNumbers_1 rfl ?_
  refine lv_aload_n hx hb dX0_copyNumbers_2 rfl (lv_at hl 1 rfl) ?_
  refine lv_iconst (v := nI 0) hx hb dX0_copyNumbers_3 rfl ?_
  refine lv_aload_n hx hb dX0_copyNumbers_4 rfl (lv_at hl 0 rfl) ?_
  refine li_alen hx hb hK hP 0 0 rfl rfl dX0_copyNumbers_5 ?_
  refine lv_aload_n hx hb dX0_copyNumbers_6 rfl (lv_at hl 1 rfl) ?_
  refine li_alen hx hb hK hP 1 0 rfl rfl dX0_copyNumbers_7 ?_
  refine va_mmin hx hb (hml.trans hl.1.symm) hown g0 g1 g2 g3 (by decide) (Nat.le_of_ble_eq_true rfl) (Nat.zero_le _) (Nat.zero_le _) dX0_copyNumbers_8 ?_
  refine li_topi (show (if nI N < nI N then nI N else nI N) = nI N from by split <;> rfl) ?_
  refine va_copyi hx hb (hml.trans hl.1.symm) hown g4 g5 g6 g7 hK hP (hD0 _ _) hS 0 1 0 0 rfl rfl rfl rfl rfl (by decide) (by decide) (nI_pos (by omega)) (by rw [nI_clamp (show N < 2 ^ 31 by omega)]; show 0 + N ≤ N; omega) (by rw [nI_clamp (show N < 2 ^ 31 by omega)]; show 0 + N ≤ N; omega) (fun _ _ => rfl) (by decide) (Nat.le_of_ble_eq_true rfl) dX0_copyNumbers_11 (fun G locs hP _ hS => ?_)
  rw [nI_clamp (show N < 2 ^ 31 by omega), show (nI 0).toNatClampNeg = 0 from rfl, cpk_c] at hP
  have hP : va_P D vwCl ([(b0, .inl (cI, N, .inl f)), (b1, .inl (cI, N, .inl (cpk f g N)))]) G := hP
  exact hEnd 14 ls G locs dX0_copyNumbers_14 hP hS
set_option maxHeartbeats 4000000 in
set_option maxRecDepth 100000 in
theorem c_X0_copyFlags (l : Launch) (D : va_G) (cI cZ cL cO : ClassId) (H : Heap) (b0 b1 N : Nat) (f g : Nat → Int32) (A : Nat → Prop) (hD0 : ∀ e0 e1 : va_E, va_D A [(b0, e0), (b1, e1)]) (hN : N ≤ 200) (hz : ∀ i, i < N → vp_nar .boolean (f i) = f i) : Met l yX0_copyFlags wsX0_copyFlags ({ frames := 0, cells := 0, slots := 0, locals := 0 } : Room) (ro_P D (T4 cI cZ cL cO) ([(b0, .inl (cZ, N, .inl f)), (b1, .inl (cZ, N, .inl g))]) H [.ref b0, .ref b1]) (mu_Q D ([(b0, .inl (cZ, N, .inl f)), (b1, .inl (cZ, N, .inl (cpk f g N)))]) A) 0 0 A := by
  refine mu_of (cc := cX0_copyFlags) (maxL := 3) (by decide) rfl (Nat.le_of_ble_eq_true rfl) ?_
  intro p e s m args below meth c Q ls locs hx hb hml hown hts hK hE hP hl hS hEnd
  have hl : lv_has ls 3 [(0, .ref b0), (1, .ref b1)] := hl
  refine lv_iconst (v := nI 0) hx hb dX0_copyFlags_0 rfl ?_
  refine lv_istore_n (lv' := [(2, .int (nI 0)), (0, .ref b0), (1, .ref b1)]) hx hb dX0_copyFlags_1 rfl hl (by decide) rfl (fun ls hl => ?_)
  have L2_1 : ∀ (fuel : Nat) (k : Nat), (N - k) < fuel → (k ≤ N) → ∀ (G : Heap) (locs : List Loc), va_P D vwCl ([(b0, .inl (cZ, N, .inl f)), (b1, .inl (cZ, N, .inl (cpk f g k)))]) G → va_S A H G locs → ∀ (ls : Array Slot), lv_has ls 3 [(2, .int (nI k)), (0, .ref b0), (1, .ref b1)] → W p l e ({ frames := 0, cells := 0, slots := 0, locals := 0 } : Room) s m args below meth c G locs 0 0 Q (F0 m 2 ls []) := by
    intro fuel
    induction fuel with
    | zero =>
      intro k hfuel
      exact absurd hfuel (Nat.not_lt_zero _)
    | succ fuel ih2 =>
      intro k hfuel2 hk G locs hP hS ls hl
      refine lv_iload_n hx hb dX0_copyFlags_2 rfl (lv_at hl 0 rfl) ?_
      refine lv_aload_n hx hb dX0_copyFlags_3 rfl (lv_at hl 1 rfl) ?_
      refine li_alen hx hb hK hP 0 1 rfl rfl dX0_copyFlags_4 ?_
      refine li_ge (tgt := 26) hx hb dX0_copyFlags_5 (by decide) (by omega) (by omega) (fun c2 => ?_) (fun c2 => ?_)
      · skip
        have hw9 : cpk f g k = cpk f g N := by rw [show k = N by omega]
        have hP : va_P D vwCl ([(b0, .inl (cZ, N, .inl f)), (b1, .inl (cZ, N, .inl (cpk f g N)))]) G := Eq.mp (congrArg (fun z9 => va_P D vwCl ([(b0, .inl (cZ, N, .inl f)), (b1, .inl (cZ, N, .inl z9))]) G) hw9) hP
        clear hw9
        exact hEnd 26 ls G locs dX0_copyFlags_26 hP hS
      · skip
        refine lv_iload_n hx hb dX0_copyFlags_8 rfl (lv_at hl 0 rfl) ?_
        refine lv_aload_n hx hb dX0_copyFlags_9 rfl (lv_at hl 2 rfl) ?_
        refine li_alen hx hb hK hP 1 1 rfl rfl dX0_copyFlags_10 ?_
        refine li_ge (tgt := 26) hx hb dX0_copyFlags_11 (by decide) (by omega) (by omega) (fun c3 => ?_) (fun c3 => ?_)
        · skip
          have hw9 : cpk f g k = cpk f g N := by rw [show k = N by omega]
          have hP : va_P D vwCl ([(b0, .inl (cZ, N, .inl f)), (b1, .inl (cZ, N, .inl (cpk f g N)))]) G := Eq.mp (congrArg (fun z9 => va_P D vwCl ([(b0, .inl (cZ, N, .inl f)), (b1, .inl (cZ, N, .inl z9))]) G) hw9) hP
          clear hw9
          exact hEnd 26 ls G locs dX0_copyFlags_26 hP hS
        · skip
          refine lv_aload_n hx hb dX0_copyFlags_14 rfl (lv_at hl 2 rfl) ?_
          refine lv_iload_n hx hb dX0_copyFlags_15 rfl (lv_at hl 0 rfl) ?_
          refine lv_aload_n hx hb dX0_copyFlags_16 rfl (lv_at hl 1 rfl) ?_
          refine lv_iload_n hx hb dX0_copyFlags_17 rfl (lv_at hl 0 rfl) ?_
          refine li_zld hx hb hK hP 0 1 rfl rfl (by omega) hN dX0_copyFlags_18 ?_
          refine li_zst hx hb hK hP (hD0 _ _) hS 1 1 rfl rfl (by omega) hN (hz k (by omega)) rfl dX0_copyFlags_19 (fun G locs hP hS => ?_)
          refine lv_iinc (v := nI (k + 1)) (lv' := [(2, .int (nI (k + 1))), (0, .ref b0), (1, .ref b1)]) hx hb dX0_copyFlags_20 hl (k := 0) rfl (nI_inc _ _) (by decide) rfl (fun ls hl => ?_)
          refine lv_goto (tgt := 2) hx hb dX0_copyFlags_23 (by decide) ?_
          have hw9 : upd (cpk f g k) k (f k) = cpk f g (k + 1) := by exact cpk_s f g k
          have hP : va_P D vwCl ([(b0, .inl (cZ, N, .inl f)), (b1, .inl (cZ, N, .inl (cpk f g (k + 1))))]) G := Eq.mp (congrArg (fun z9 => va_P D vwCl ([(b0, .inl (cZ, N, .inl f)), (b1, .inl (cZ, N, .inl z9))]) G) hw9) hP
          clear hw9
          have hl9 : lv_has ls 3 [(2, .int (nI (k + 1))), (0, .ref b0), (1, .ref b1)] := lv_sub hl [0, 1, 2] rfl
          exact ih2 (k + 1) (by omega) (by omega) G locs hP hS ls hl9
  have hw9 : g = cpk f g 0 := (cpk_0 f g).symm
  have hP : va_P D vwCl ([(b0, .inl (cZ, N, .inl f)), (b1, .inl (cZ, N, .inl (cpk f g 0)))]) H := Eq.mp (congrArg (fun z9 => va_P D vwCl ([(b0, .inl (cZ, N, .inl f)), (b1, .inl (cZ, N, .inl z9))]) H) hw9) hP
  clear hw9
  have hl9 : lv_has ls 3 [(2, .int (nI 0)), (0, .ref b0), (1, .ref b1)] := lv_sub hl [0, 1, 2] rfl
  exact L2_1 ((N - 0) + 1) 0 (Nat.lt_succ_self _) (by omega) H locs hP hS ls hl9
set_option maxHeartbeats 4000000 in
set_option maxRecDepth 100000 in
theorem c_J7_fill_53178 (l : Launch) (D : va_G) (cI cZ cL cO : ClassId) (H : Heap) (b0 N : Nat) (f : Nat → Int32) (A : Nat → Prop) (hD0 : ∀ e0 : va_E, va_D A [(b0, e0)]) (x : Int32) (hN : N ≤ 200) : Met l yJ7_fill_53178 wsJ7_fill_53178 ({ frames := 0, cells := 0, slots := 0, locals := 0 } : Room) (ro_P D (T4 cI cZ cL cO) ([(b0, .inl (cI, N, .inl f))]) H [.ref b0, .int x]) (mu_Q D ([(b0, .inl (cI, N, .inl (cpk (fun _ => x) f N)))]) A) 0 0 A := by
  refine mu_of (cc := cJ7_fill_53178) (maxL := 4) (by decide) rfl (Nat.le_of_ble_eq_true rfl) ?_
  intro p e s m args below meth c Q ls locs hx hb hml hown hts hK hE hP hl hS hEnd
  have hl : lv_has ls 4 [(0, .ref b0), (1, .int x)] := hl
  refine lv_iconst (v := nI 0) hx hb dJ7_fill_53178_0 rfl ?_
  refine lv_istore_n (lv' := [(2, .int (nI 0)), (0, .ref b0), (1, .int x)]) hx hb dJ7_fill_53178_1 rfl hl (by decide) rfl (fun ls hl => ?_)
  refine lv_aload_n hx hb dJ7_fill_53178_2 rfl (lv_at hl 1 rfl) ?_
  refine li_alen hx hb hK hP 0 0 rfl rfl dJ7_fill_53178_3 ?_
  refine lv_istore_n (lv' := [(3, .int (nI N)), (2, .int (nI 0)), (0, .ref b0), (1, .int x)]) hx hb dJ7_fill_53178_4 rfl hl (by decide) rfl (fun ls hl => ?_)
  have L5_1 : ∀ (fuel : Nat) (k : Nat), (N - k) < fuel → (k ≤ N) → ∀ (G : Heap) (locs : List Loc), va_P D vwCl ([(b0, .inl (cI, N, .inl (cpk (fun _ => x) f k)))]) G → va_S A H G locs → ∀ (ls : Array Slot), lv_has ls 4 [(3, .int (nI N)), (2, .int (nI k)), (0, .ref b0), (1, .int x)] → W p l e ({ frames := 0, cells := 0, slots := 0, locals := 0 } : Room) s m args below meth c G locs 0 0 Q (F0 m 5 ls []) := by
    intro fuel
    induction fuel with
    | zero =>
      intro k hfuel
      exact absurd hfuel (Nat.not_lt_zero _)
    | succ fuel ih5 =>
      intro k hfuel5 hk G locs hP hS ls hl
      refine lv_iload_n hx hb dJ7_fill_53178_5 rfl (lv_at hl 1 rfl) ?_
      refine lv_iload_n hx hb dJ7_fill_53178_6 rfl (lv_at hl 0 rfl) ?_
      refine li_ge (tgt := 20) hx hb dJ7_fill_53178_7 (by decide) (by omega) (by omega) (fun c2 => ?_) (fun c2 => ?_)
      · skip
        have hw9 : cpk (fun _ => x) f k = cpk (fun _ => x) f N := by rw [show k = N by omega]
        have hP : va_P D vwCl ([(b0, .inl (cI, N, .inl (cpk (fun _ => x) f N)))]) G := Eq.mp (congrArg (fun z9 => va_P D vwCl ([(b0, .inl (cI, N, .inl z9))]) G) hw9) hP
        clear hw9
        exact hEnd 20 ls G locs dJ7_fill_53178_20 hP hS
      · skip
        refine lv_aload_n hx hb dJ7_fill_53178_10 rfl (lv_at hl 2 rfl) ?_
        refine lv_iload_n hx hb dJ7_fill_53178_11 rfl (lv_at hl 1 rfl) ?_
        refine lv_iload_n hx hb dJ7_fill_53178_12 rfl (lv_at hl 3 rfl) ?_
        refine li_ist hx hb hK hP (hD0 _) hS 0 0 rfl rfl (by omega) hN rfl dJ7_fill_53178_13 (fun G locs hP hS => ?_)
        refine lv_iinc (v := nI (k + 1)) (lv' := [(2, .int (nI (k + 1))), (3, .int (nI N)), (0, .ref b0), (1, .int x)]) hx hb dJ7_fill_53178_14 hl (k := 1) rfl (nI_inc _ _) (by decide) rfl (fun ls hl => ?_)
        refine lv_goto (tgt := 5) hx hb dJ7_fill_53178_17 (by decide) ?_
        have hw9 : upd (cpk (fun _ => x) f k) k x = cpk (fun _ => x) f (k + 1) := by exact cpk_s (fun _ => x) f k
        have hP : va_P D vwCl ([(b0, .inl (cI, N, .inl (cpk (fun _ => x) f (k + 1))))]) G := Eq.mp (congrArg (fun z9 => va_P D vwCl ([(b0, .inl (cI, N, .inl z9))]) G) hw9) hP
        clear hw9
        have hl9 : lv_has ls 4 [(3, .int (nI N)), (2, .int (nI (k + 1))), (0, .ref b0), (1, .int x)] := lv_sub hl [1, 0, 2, 3] rfl
        exact ih5 (k + 1) (by omega) (by omega) G locs hP hS ls hl9
  have hw9 : f = cpk (fun _ => x) f 0 := (cpk_0 _ f).symm
  have hP : va_P D vwCl ([(b0, .inl (cI, N, .inl (cpk (fun _ => x) f 0)))]) H := Eq.mp (congrArg (fun z9 => va_P D vwCl ([(b0, .inl (cI, N, .inl z9))]) H) hw9) hP
  clear hw9
  have hl9 : lv_has ls 4 [(3, .int (nI N)), (2, .int (nI 0)), (0, .ref b0), (1, .int x)] := lv_sub hl [0, 1, 2, 3] rfl
  exact L5_1 ((N - 0) + 1) 0 (Nat.lt_succ_self _) (by omega) H locs hP hS ls hl9
set_option maxHeartbeats 4000000 in
set_option maxRecDepth 100000 in
theorem c_J9_floorMod_7cf53 (l : Launch) (D : va_G) (cI cZ cL cO : ClassId) (H : Heap) (i : Nat) (j : Nat) (hi : i < 2 ^ 31) (hj : j < 2 ^ 31) (hj0 : 0 < j) : Met l yJ9_floorMod_7cf53 wsJ9_floorMod_7cf53 ({ frames := 0, cells := 0, slots := 0, locals := 0 } : Room) (ro_P D (T4 cI cZ cL cO) ([]) H [.int (nI i), .int (nI j)]) (ro_Q (nI (i % j)) H) 0 0 (fun _ => False) := by
  refine ro_ofF (cc := cJ9_floorMod_7cf53) (maxL := 3) (by decide +kernel) rfl (Nat.le_of_ble_eq_true rfl) rfl ?_
  intro p e s m args below meth c Q ls locs hx hb hml hown hts hK hE hP hl hS hEnd
  have hl : lv_has ls 3 [(0, .int (nI i)), (1, .int (nI j))] := hl
  refine lv_iload_n hx hb dJ9_floorMod_7cf53_0 rfl (lv_at hl 0 rfl) ?_
  refine lv_iload_n hx hb dJ9_floorMod_7cf53_1 rfl (lv_at hl 1 rfl) ?_
  refine lv_irem hx hb dJ9_floorMod_7cf53_2 (nI_ne0 hj0 hj) ?_
  refine li_topi (show (nI i) - (nI i) / (nI j) * (nI j) = nI (i % j) from pk_rem hi hj0 hj) ?_
  refine lv_istore_n (lv' := [(2, .int (nI (i % j))), (0, .int (nI i)), (1, .int (nI j))]) hx hb dJ9_floorMod_7cf53_3 rfl hl (by decide) rfl (fun ls hl => ?_)
  refine lv_iload_n hx hb dJ9_floorMod_7cf53_4 rfl (lv_at hl 1 rfl) ?_
  refine lv_iload_n hx hb dJ9_floorMod_7cf53_5 rfl (lv_at hl 2 rfl) ?_
  refine lv_ixor hx hb dJ9_floorMod_7cf53_6 ?_
  refine lv_if_ge (tgt := 18) hx hb dJ9_floorMod_7cf53_7 (by decide) (fun c1 => ?_) (fun c1 => ?_)
  · skip
    refine lv_iload_n hx hb dJ9_floorMod_7cf53_18 rfl (lv_at hl 0 rfl) ?_
    exact hEnd 19 ls locs dJ9_floorMod_7cf53_19 hS
  · exact absurd (nI_xor hi hj) c1
