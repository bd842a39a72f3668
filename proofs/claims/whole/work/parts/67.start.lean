/-! THE LAW'S START -/
theorem okP.ofL {A : Nat → Prop} {cI cZ cL : ClassId} {a am : Nat → Nat} {qo n pl nw ns n2 nw2 ns2 : Nat} {σ κ σ' κ' σ2 η : Sg} {f : Nat → Int64} {th : Int32} (hD : va_D A (wL cI cZ cL a am qo n pl nw ns σ κ σ' κ' f n2 nw2 ns2 σ2 th η)) : okP A (al a am qo) 55 := by
  have hl : (wL cI cZ cL a am qo n pl nw ns σ κ σ' κ' f n2 nw2 ns2 σ2 th η).length = 55 := rfl
  have ex : ∀ k, k < 55 → ∃ q, (wL cI cZ cL a am qo n pl nw ns σ κ σ' κ' f n2 nw2 ns2 σ2 th η)[k]? = some q ∧ q.1 = al a am qo k := fun k hk => by
    have h1 := List.getElem?_eq_getElem (l := wL cI cZ cL a am qo n pl nw ns σ κ σ' κ' f n2 nw2 ns2 σ2 th η) (by rw [hl]; exact hk)
    exact ⟨_, h1, (wL_adr k _ h1).2⟩
  refine ⟨fun i j hi hj e => ?_, fun k hk => ?_⟩
  · obtain ⟨p, h1, h2⟩ := ex i hi
    obtain ⟨q, h3, h4⟩ := ex j hj
    exact hD.1 i j p q h1 h3 (by rw [h2, h4]; exact e)
  · obtain ⟨p, h1, h2⟩ := ex k hk
    rw [← h2]
    exact hD.2 k p h1
set_option maxHeartbeats 4000000 in
set_option maxRecDepth 100000 in
/-- YOUR PART: from the entry, for every script of at most 2048 ints, the law comes to its end with true ('hflags': the launch's flags, for a law that throws: no stack traces) -/
theorem whole_start {p : Program} {e : Env} {s : State} {m : MethodId} {below : List Frame} {meth : Method} {c : Code} (l : Launch) (hflags : l.flags = flags0) {b L : Nat} {xs : Nat → Int32} (hL : L ≤ 2048) (C0 : lw_At p s m meth c b L xs) : W p l e room_1 s m #[Value.ref b] below meth c s.heap [] 0 0 (lw_Z below #[Value.ref b] s) (entryFrame m ([Value.ref b] : List Value).toArray 9) := by
  obtain ⟨hx, hb, hr, hml, hown, hts, hX, hbl, hlocks, hgv⟩ := id C0
  have hown : s.vm.findClass RL = some m.cls := hown
  have hlT : l.stackTraces = false := by unfold Launch.stackTraces; rw [hflags]; decide +kernel
  have hE := lw_E hts
  have hT0 : lwT (LA s) s s.heap := ⟨lw_W hts hgv, lw_Z9 hts hgv⟩
  obtain ⟨D, cI, cZ, cL, cO, hK⟩ := lw_K hts
  have hw : ∀ w ∈ wsL_law, w.before #[Value.ref b] s = true := fun w h => hts w (wsL_law_in w h)
  have hX2 : ∀ w ∈ wsX20, w.before #[Value.ref b] s = true := fun w h => hts w (inX2 w h)
  have hX3 : ∀ w ∈ wsX30, w.before #[Value.ref b] s = true := fun w h => hts w (inX3 w h)
  have hN : ∀ q : Nat, s.heap.size ≤ q → LA s q := fun _ h => h
  have hbA : ¬ LA s b := Nat.not_le.mpr hbl
  have hS : va_S (LA s) s.heap s.heap [] := va_S.rf
  have hP : va_P D vwCl [] s.heap := fun k q h => by simp at h
  have hD : va_D (LA s) [] := ⟨fun i j p q h => by simp at h, fun k q h => by simp at h⟩
  have hl := lv_entry ([.ref b]) (n := 9) (Nat.le_of_ble_eq_true rfl)
  rw [lg_entry_eq]
  generalize (lg_sl ([.ref b]) ++ List.replicate (9 - (lg_sl ([.ref b])).length) Slot.unset).toArray = ls at hl ⊢
  have hl : lv_has ls 9 [(0, .ref b)] := hl
  refine va_new (ci := 2) (fs := [.null, .null, .null]) (C := RX2) (T := TX2) (N := 3) hx hb hX2 (fun _ h => h) tyX2 tyX2_ok hown (hts _ (List.mem_of_getElem? (i := 66) (by decide +kernel))) (hts _ (List.mem_of_getElem? (i := 67) (by decide +kernel))) (hts _ (List.mem_of_getElem? (i := 53) (by decide +kernel))) hK hP hD hS hN rfl (fun j hj => by rcases (show j = 0 ∨ j = 1 ∨ j = 2 by omega) with rfl | rfl | rfl <;> rfl) (Nat.le_of_ble_eq_true rfl) (Nat.le_of_ble_eq_true rfl) dL_law_0 (fun q1 H hP hD hS => ?_)
  have hP : va_P D vwCl [(q1, .inr (2, [.null, .null, .null]))] H := hP
  have hD : va_D (LA s) [(q1, .inr (2, [.null, .null, .null]))] := hD
  refine lv_dup hx hb dL_law_3 rfl ?_
  have hFc := va_free (wc := [(q1, .inr (2, [.null, .null, .null]))]) hD hS hN [0] rfl
  refine va_callv (va_runI (As := []) (rest := [.ref q1]) ⟨hx, hb, hml, hown, hw⟩ (c_X2_init l D cI cZ cL cO q1 H (va_A [(q1, .inr (2, [.null, .null, .null]))] H.size) (Or.inl ⟨0, _, rfl⟩) (fun _ h => Or.inr h)) (cwI 0 hw gL_law_X2_init rfl rfl rfl (hts _ (List.mem_of_getElem? (i := 53) (by decide +kernel))) (hts _ (List.mem_of_getElem? (i := 68) (by decide +kernel))) (hts _ (List.mem_of_getElem? (i := 69) (by decide +kernel))) rfl (by decide +kernel) ⟨Nat.le_of_ble_eq_true rfl, Nat.le_of_ble_eq_true rfl⟩) ⟨ro_blind, fun U hU hW => ⟨rfl, hU, hP, va_K.moved hW.alike hK, lwE.warm hW hE⟩⟩ rfl rfl hl.1 rfl (lv_room (Nat.le_of_ble_eq_true rfl)) dL_law_4 ⟨Nat.le_of_ble_eq_true rfl, Nat.le_of_ble_eq_true rfl⟩) hS (fun q _ h => hFc q h) hFc (fun a t H1 locs ht hvm hpx hB hz1 hk1 hS => ?_)
  have hP1 : va_P D vwCl (wX cI cZ a 0 0 0 0 σ0 (fun _ _ => 0) σ0 (fun _ _ => 0)) H1 := by rw [← ht]; exact hB
  have hD1 : va_D (va_A [(q1, .inr (2, [.null, .null, .null]))] H.size) (wX cI cZ a 0 0 0 0 σ0 (fun _ _ => 0) σ0 (fun _ _ => 0)) := hpx.2
  obtain ⟨hP, hD⟩ := va_join (wr := []) hP hD [0] [] rfl rfl (by decide) (by decide) hk1 hFc hP1 hD1
  have hP : va_P D vwCl (wX cI cZ a 0 0 0 0 σ0 (fun _ _ => 0) σ0 (fun _ _ => 0)) H1 := hP
  have hD : va_D (LA s) (wX cI cZ a 0 0 0 0 σ0 (fun _ _ => 0) σ0 (fun _ _ => 0)) := hD
  have e1 : q1 = a 40 := hpx.1.symm
  rw [e1]
  clear hP1 hD1 hB hk1 hFc hpx
  refine w_wide (k := 41) (n := 1010) (by decide) (Nat.le_of_ble_eq_true rfl) ?_
  refine lv_astore_n (lv' := [(1, .ref (a 40)), (0, .ref b)]) hx hb dL_law_7 rfl hl (by decide) rfl (fun ls hl => ?_)
  refine va_new (ci := 3) (fs := [.int 0, .int 0, .null, .null, .null, .int 0, .null, .int 0, .null, .null, .null, .null, .null, .null, .null, .null]) (C := RX3) (T := TX3) (N := 16) hx hb hX3 (fun _ h => h) tyX3 tyX3_ok hown (hts _ (List.mem_of_getElem? (i := 671) (by decide +kernel))) (hts _ (List.mem_of_getElem? (i := 672) (by decide +kernel))) (hts _ (List.mem_of_getElem? (i := 57) (by decide +kernel))) hK hP hD hS hN rfl (fun j hj => by rcases (show j = 0 ∨ j = 1 ∨ j = 2 ∨ j = 3 ∨ j = 4 ∨ j = 5 ∨ j = 6 ∨ j = 7 ∨ j = 8 ∨ j = 9 ∨ j = 10 ∨ j = 11 ∨ j = 12 ∨ j = 13 ∨ j = 14 ∨ j = 15 by omega) with rfl | rfl | rfl | rfl | rfl | rfl | rfl | rfl | rfl | rfl | rfl | rfl | rfl | rfl | rfl | rfl <;> rfl) (Nat.le_of_ble_eq_true rfl) (Nat.le_of_ble_eq_true rfl) dL_law_8 (fun q2 H hP hD hS => ?_)
  refine lv_dup hx hb dL_law_11 rfl ?_
  have hPc := hP.sub (ws' := [(q2, .inr (3, [.int 0, .int 0, .null, .null, .null, .int 0, .null, .int 0, .null, .null, .null, .null, .null, .null, .null, .null]))]) [41] rfl
  have hFc := va_free (wc := [(q2, .inr (3, [.int 0, .int 0, .null, .null, .null, .int 0, .null, .int 0, .null, .null, .null, .null, .null, .null, .null, .null]))]) hD hS hN [41] rfl
  refine va_callv (va_runI (As := []) (rest := [.ref q2]) ⟨hx, hb, hml, hown, hw⟩ (c_X3_init l D cI cZ cL cO q2 H (va_A [(q2, .inr (3, [.int 0, .int 0, .null, .null, .null, .int 0, .null, .int 0, .null, .null, .null, .null, .null, .null, .null, .null]))] H.size) (Or.inl ⟨0, _, rfl⟩) (fun _ h => Or.inr h)) (cwI 0 hw gL_law_X3_init rfl rfl rfl (hts _ (List.mem_of_getElem? (i := 57) (by decide +kernel))) (hts _ (List.mem_of_getElem? (i := 673) (by decide +kernel))) (hts _ (List.mem_of_getElem? (i := 674) (by decide +kernel))) rfl (by decide +kernel) ⟨Nat.le_of_ble_eq_true rfl, Nat.le_of_ble_eq_true rfl⟩) ⟨ro_blind, fun U hU hW => ⟨rfl, hU, hPc, va_K.moved hW.alike hK, lwE.warm hW hE⟩⟩ rfl rfl hl.1 rfl (lv_room (Nat.le_of_ble_eq_true rfl)) dL_law_12 ⟨Nat.le_of_ble_eq_true rfl, Nat.le_of_ble_eq_true rfl⟩) hS (fun q _ h => hFc q h) hFc (fun am t H1 locs ht hvm hpx hB hz1 hk1 hS => ?_)
  have hP1 : va_P D vwCl (wM cI cZ am 0 0 0 0 σ0 (fun _ _ => 0)) H1 := by rw [← ht]; exact hB
  have hD1 : va_D (va_A [(q2, .inr (3, [.int 0, .int 0, .null, .null, .null, .int 0, .null, .int 0, .null, .null, .null, .null, .null, .null, .null, .null]))] H.size) (wM cI cZ am 0 0 0 0 σ0 (fun _ _ => 0)) := hpx.2
  obtain ⟨hP, hD⟩ := va_join (wr := wX cI cZ a 0 0 0 0 σ0 (fun _ _ => 0) σ0 (fun _ _ => 0)) hP hD [41] [0, 1, 2, 3, 4, 5, 6, 7, 8, 9, 10, 11, 12, 13, 14, 15, 16, 17, 18, 19, 20, 21, 22, 23, 24, 25, 26, 27, 28, 29, 30, 31, 32, 33, 34, 35, 36, 37, 38, 39, 40] rfl rfl (by decide) (by decide) hk1 hFc hP1 hD1
  have e2 : q2 = am 0 := hpx.1.symm
  rw [e2]
  clear hP1 hD1 hB hk1 hFc hpx hPc
  refine w_wide (k := 54) (n := 1565) (by decide) (Nat.le_of_ble_eq_true rfl) ?_
  refine lv_astore_n (lv' := [(2, .ref (am 0)), (1, .ref (a 40)), (0, .ref b)]) hx hb dL_law_15 rfl hl (by decide) rfl (fun ls hl => ?_)
  refine lv_iconst (v := nI 1) hx hb dL_law_16 rfl ?_
  refine li_newL (N := 1) hx hb (hts _ (List.mem_of_getElem? (i := 945) (by decide +kernel))) hK hP hD hS hN (by decide) (Nat.le_of_ble_eq_true rfl) (Nat.le_of_ble_eq_true rfl) dL_law_17 (fun qo G hP hD hS => ?_)
  have hP : va_P D vwCl (wL cI cZ cL a am qo 0 0 0 0 σ0 (fun _ _ => 0) σ0 (fun _ _ => 0) (fun _ => 0) 0 0 0 σ0 0 (fun _ _ => 0)) G := hP.sub [0, 1, 2, 3, 4, 5, 6, 7, 8, 9, 10, 11, 12, 13, 14, 15, 16, 17, 18, 19, 20, 21, 22, 23, 24, 25, 26, 27, 28, 29, 30, 31, 32, 33, 34, 35, 36, 37, 38, 39, 40, 54, 41, 42, 43, 44, 45, 46, 47, 48, 49, 50, 51, 52, 53] rfl
  have hD : va_D (LA s) (wL cI cZ cL a am qo 0 0 0 0 σ0 (fun _ _ => 0) σ0 (fun _ _ => 0) (fun _ => 0) 0 0 0 σ0 0 (fun _ _ => 0)) := hD.sub [0, 1, 2, 3, 4, 5, 6, 7, 8, 9, 10, 11, 12, 13, 14, 15, 16, 17, 18, 19, 20, 21, 22, 23, 24, 25, 26, 27, 28, 29, 30, 31, 32, 33, 34, 35, 36, 37, 38, 39, 40, 54, 41, 42, 43, 44, 45, 46, 47, 48, 49, 50, 51, 52, 53] (by decide) rfl
  refine lv_astore_n (lv' := [(3, .ref qo), (2, .ref (am 0)), (1, .ref (a 40)), (0, .ref b)]) hx hb dL_law_19 rfl hl (by decide) rfl (fun ls hl => ?_)
  refine lv_iconst (v := nI 0) hx hb dL_law_20 rfl ?_
  refine lv_istore (lv' := [(4, .int (nI (4 * 0))), (3, .ref qo), (2, .ref (am 0)), (1, .ref (a 40)), (0, .ref b)]) hx hb dL_law_21 hl (by decide) rfl (fun ls hl => ?_)
  refine w_wide (k := 100 + 18 * 0) (n := 3000 + 420 * 0) (by decide) (Nat.le_of_ble_eq_true rfl) ?_
  exact law_loop C0 hlT hK hE hT0 (okP.ofL hD) hL (L + 1) 0 (by omega) (by omega) 0 0 0 0 0 σ0 (fun _ _ => 0) σ0 (fun _ _ => 0) (fun _ _ => 0) 0 (fun _ => 0) G _ ls INW_0 (fun _ _ => rfl) (by omega) hP hS (lv_sub hl [0, 4, 3, 2, 1] rfl)
