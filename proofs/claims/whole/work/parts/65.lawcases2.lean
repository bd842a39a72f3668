/-! the law's cases, on -/
set_option maxHeartbeats 4000000 in
set_option maxRecDepth 100000 in
theorem law_song {p : Program} {l : Launch} {e : Env} {s : State} {m : MethodId} {below : List Frame} {meth : Method} {c : Code} {b L : Nat} {xs : Nat → Int32} {D : va_G} {cI cZ cL cO : ClassId} {a am : Nat → Nat} {qo : Nat} (C0 : lw_At p s m meth c b L xs) (hlT : l.stackTraces = false) (hK : va_K D vwCl (T4 cI cZ cL cO) s) (hE : lwE s) (hT0 : lwT (LA s) s s.heap) (hO : okP (LA s) (al a am qo) 55) (hL : L ≤ 2048) {k : Nat} (hk : 4 * k + 4 ≤ L) {n pl nw ns t : Nat} {σ κ σ' κ' η : Sg} {th : Int32} {f : Nat → Int64} (hI : INW n pl nw ns t σ) (hLZ : LZ nw ns η) (ht : t ≤ 200 * k) {H : Heap} {locs : List Loc} {ls : Array Slot} {cells slots : Nat} (hc : cells + 18 ≤ 601024) (hs : slots + 420 ≤ 7293034) (hP : va_P D vwCl (wL cI cZ cL a am qo n pl nw ns σ κ σ' κ' f n nw ns σ th η) H) (hS : va_S (LA s) s.heap H locs) (hl : lv_has ls 9 [(4, .int (nI (4 * k))), (0, .ref b), (1, .ref (a 40)), (2, .ref (am 0)), (3, .ref qo)]) (kk : LK p l e s m b below meth c D cI cZ cL a am qo k t cells slots) : W p l e room_1 s m #[Value.ref b] below meth c H locs cells slots (lw_Z below #[Value.ref b] s) (F0 m 820 ls []) := by
  obtain ⟨hx, hb, hr, hml, hown, hts0, hX, hbl, hlocks, hgv⟩ := C0
  have hown : s.vm.findClass RL = some m.cls := hown
  have hts : ∀ w ∈ wsL_law, w.before #[Value.ref b] s = true := fun w h => hts0 w (wsL_law_in w h)
  have hbA : ¬ LA s b := Nat.not_le.mpr hbl
  have hB := hI.1.1
  have hTH := hT0.kept hS
  have hA2 : ∀ q, A_ (al a am qo) 42 q → LA s q := ak_of (hO.M (by decide))
  refine lv_aload_n hx hb dL_law_820 rfl (lv_at hl 2 rfl) ?_
  refine lv_aload_n hx hb dL_law_821 rfl (lv_at hl 1 rfl) ?_
  refine lv_iload hx hb dL_law_822 (lv_at hl 0 rfl) ?_
  refine lv_iconst (v := nI 1) hx hb dL_law_824 rfl ?_
  refine lv_iadd hx hb dL_law_825 ?_
  refine li_topi (nI_add _ _) ?_
  refine li_sld hx hb hX hbl hbA hS (i := 4 * k + 1) (by omega) (by omega) dL_law_826 ?_
  refine lv_aload_n hx hb dL_law_827 rfl (lv_at hl 1 rfl) ?_
  refine lv_iload hx hb dL_law_828 (lv_at hl 0 rfl) ?_
  refine lv_iconst (v := nI 2) hx hb dL_law_830 rfl ?_
  refine lv_iadd hx hb dL_law_831 ?_
  refine li_topi (nI_add _ _) ?_
  refine li_sld hx hb hX hbl hbA hS (i := 4 * k + 2) (by omega) (by omega) dL_law_832 ?_
  refine lv_aload_n hx hb dL_law_833 rfl (lv_at hl 4 rfl) ?_
  have hPc : va_P D vwCl (wXo cI cZ cL a n pl nw ns σ κ σ' κ' qo f) H := hP.sub i42 rfl
  refine va_calli (vx_runSW (As := [.ref (a 40), .int (xs (4 * k + 1)), .int (xs (4 * k + 2)), .ref qo]) (rest := []) ⟨hx, hb, hml, hown, hts⟩ (c_L_song l hlT D cI cZ cL cO a n pl nw ns σ κ σ' κ' H qo f (xs (4 * k + 1)) (xs (4 * k + 2)) (A_ (al a am qo) 42) (oka41 hO) hO.ao (okDo hO) hB) (vx_cwSW 4 hts gL_law_L_song rfl rfl rfl (by decide +kernel) ⟨Nat.le_of_ble_eq_true rfl, Nat.le_of_ble_eq_true rfl⟩) ⟨ax_blind, fun U hU hW => ⟨rfl, hU, hPc, va_K.moved hW.alike hK, lwE.warm hW hE, (hTH.warm hW).narrow hA2⟩⟩ rfl rfl hl.1 rfl (lv_room (Nat.le_of_ble_eq_true rfl)) dL_law_834 ⟨by show cells + 1 ≤ 601024; omega, by show slots + 6 ≤ 7293034; omega⟩) hS (fun q _ h => hA2 q h) hA2 (fun r u t9 H1 locs ht9 hal hr9 hB1 hz1 hk1 hS => ?_)
  replace hr9 : r = nI (kTwo ns 3 (xs (4 * k + 1)) (xs (4 * k + 2))) := hr9
  subst hr9
  have hP1 : va_P D vwCl (wXo cI cZ cL a n pl nw ns σ u.1 u.2.1 u.2.2 qo (oK (kTwo ns 3 (xs (4 * k + 1)) (xs (4 * k + 2))) (ifk (kTwo ns 3 (xs (4 * k + 1)) (xs (4 * k + 2))) (soT nw σ (nN (xs (4 * k + 1))) (nN (xs (4 * k + 2))))) f)) H1 := by rw [← ht9]; exact hB1
  replace hP : va_P D vwCl (wL cI cZ cL a am qo n pl nw ns σ u.1 u.2.1 u.2.2 (oK (kTwo ns 3 (xs (4 * k + 1)) (xs (4 * k + 2))) (ifk (kTwo ns 3 (xs (4 * k + 1)) (xs (4 * k + 2))) (soT nw σ (nN (xs (4 * k + 1))) (nN (xs (4 * k + 2))))) f) n nw ns σ th η) H1 := jnH hO hP hP1 hk1
  refine lv_istore (lv' := [(5, .int (nI (kTwo ns 3 (xs (4 * k + 1)) (xs (4 * k + 2))))), (4, .int (nI (4 * k))), (0, .ref b), (1, .ref (a 40)), (2, .ref (am 0)), (3, .ref qo)]) hx hb dL_law_837 hl (by decide) rfl (fun ls hl => ?_)
  refine lv_aload_n hx hb dL_law_839 rfl (lv_at hl 4 rfl) ?_
  refine lv_aload_n hx hb dL_law_840 rfl (lv_at hl 2 rfl) ?_
  refine lv_iload hx hb dL_law_841 (lv_at hl 1 rfl) ?_
  refine lv_iconst (v := nI 1) hx hb dL_law_843 rfl ?_
  refine lv_iadd hx hb dL_law_844 ?_
  refine li_topi (nI_add _ _) ?_
  refine li_sld hx hb hX hbl hbA hS (i := 4 * k + 1) (by omega) (by omega) dL_law_845 ?_
  refine lv_aload_n hx hb dL_law_846 rfl (lv_at hl 2 rfl) ?_
  refine lv_iload hx hb dL_law_847 (lv_at hl 1 rfl) ?_
  refine lv_iconst (v := nI 2) hx hb dL_law_849 rfl ?_
  refine lv_iadd hx hb dL_law_850 ?_
  refine li_topi (nI_add _ _) ?_
  refine li_sld hx hb hX hbl hbA hS (i := 4 * k + 2) (by omega) (by omega) dL_law_851 ?_
  have hPm : va_P D vwCl (wM cI cZ am th n nw ns σ η) H1 := hP.sub m13 rfl
  refine miV (As := [.int (xs (4 * k + 1)), .int (xs (4 * k + 2))]) (q0 := 0) (ci := 3) hx hb hml hown hts (c_X3_song l D cI cZ cL cO am th n nw ns σ η H1 (xs (4 * k + 1)) (xs (4 * k + 2)) (A_ am 13) (okm13 hO) ⟨hB.1, hB.2.2.1, hB.2.2.2⟩) (cwV 2 hts gL_law_X3_song rfl rfl rfl (by decide +kernel) ⟨Nat.le_of_ble_eq_true rfl, Nat.le_of_ble_eq_true rfl⟩) hK hE hPm rfl rfl rfl rfl hl.1 rfl (Nat.le_of_ble_eq_true rfl) hS (okmA hO) dL_law_852 ⟨by show cells + 1 ≤ 601024; omega, by show slots + 6 ≤ 7293034; omega⟩ (fun H2 locs hPm2 _ hk2 hS => ?_)
  replace hP : va_P D vwCl (wL cI cZ cL a am qo n pl nw ns σ u.1 u.2.1 u.2.2 (oK (kTwo ns 3 (xs (4 * k + 1)) (xs (4 * k + 2))) (ifk (kTwo ns 3 (xs (4 * k + 1)) (xs (4 * k + 2))) (soT nw σ (nN (xs (4 * k + 1))) (nN (xs (4 * k + 2))))) f) n nw ns σ (nI (kTwo ns 3 (xs (4 * k + 1)) (xs (4 * k + 2)))) η) H2 := jnM hO hP hPm2 hk2
  refine lv_istore (lv' := [(6, .int (ifk (kTwo ns 3 (xs (4 * k + 1)) (xs (4 * k + 2))) (soT nw σ (nN (xs (4 * k + 1))) (nN (xs (4 * k + 2)))))), (5, .int (nI (kTwo ns 3 (xs (4 * k + 1)) (xs (4 * k + 2))))), (4, .int (nI (4 * k))), (0, .ref b), (1, .ref (a 40)), (2, .ref (am 0)), (3, .ref qo)]) hx hb dL_law_855 hl (by decide) rfl (fun ls hl => ?_)
  refine lv_aload_n hx hb dL_law_857 rfl (lv_at hl 5 rfl) ?_
  have hB9 := hI.1.1
  refine roV (As := []) (q0 := 0) (ci := 3) hx hb hml hown hts (c_X3_thrown l D cI cZ cL cO am (nI (kTwo ns 3 (xs (4 * k + 1)) (xs (4 * k + 2)))) n nw ns σ η H2 ⟨hB9.1, hB9.2.2.1, hB9.2.2.2⟩) (cwV 0 hts gL_law_X3_thrown rfl rfl rfl (by decide +kernel) ⟨Nat.le_of_ble_eq_true rfl, Nat.le_of_ble_eq_true rfl⟩) hK hE (hP.sub (ws' := wM cI cZ am (nI (kTwo ns 3 (xs (4 * k + 1)) (xs (4 * k + 2)))) n nw ns σ η) m13 rfl) rfl rfl rfl rfl hl.1 rfl (Nat.le_of_ble_eq_true rfl) hS dL_law_858 ⟨by show cells + 1 ≤ 601024; omega, by show slots + 6 ≤ 7293034; omega⟩ (fun locs hS => ?_)
  refine lv_iload hx hb dL_law_861 (lv_at hl 1 rfl) ?_
  refine lv_icmp_eq (tgt := 868) hx hb dL_law_863 (by decide) (fun c1 => ?_) (fun c1 => absurd rfl c1)
  refine lv_iload hx hb dL_law_868 (lv_at hl 1 rfl) ?_
  refine li_ne0 (tgt := 885) hx hb dL_law_870 (by decide) (by have h9 := kTwo_le (n := ns) (hi := 3) (x := (xs (4 * k + 1))) (y := (xs (4 * k + 2))); omega) (fun c2 => ?_) (fun c2 => ?_)
  · skip
    refine lv_goto (tgt := 1315) hx hb dL_law_885 (by decide) ?_
    refine w_wide (k := cells + 18) (n := slots + 420) (by omega) (by omega) ?_
    exact kk _ _ _ _ _ _ _ _ _ _ _ _ H2 locs ls hI hLZ (by omega) hP hS (lv_sub hl [2, 3, 4, 5, 6] rfl)
  · skip
    refine lv_aload_n hx hb dL_law_873 rfl (lv_at hl 6 rfl) ?_
    refine lv_iconst (v := nI 0) hx hb dL_law_874 rfl ?_
    refine va_lald hx hb hK hP 41 2 rfl rfl (vp_in_nI (by decide) (by decide)) dL_law_875 ?_
    refine li_topl (show _ = (ifk (kTwo ns 3 (xs (4 * k + 1)) (xs (4 * k + 2))) (soT nw σ (nN (xs (4 * k + 1))) (nN (xs (4 * k + 2))))).toInt64 from by rw [oK_0 c2]; rfl) ?_
    refine lv_iload hx hb dL_law_876 (lv_at hl 0 rfl) ?_
    refine lv_i2l (v := (ifk (kTwo ns 3 (xs (4 * k + 1)) (xs (4 * k + 2))) (soT nw σ (nN (xs (4 * k + 1))) (nN (xs (4 * k + 2))))).toInt64) hx hb dL_law_878 rfl ?_
    refine W.lcmp hx hb dL_law_879 ?_
    refine li_topi (show _ = nI 0 from lg_cmp_rf _) ?_
    refine li_eq0 (tgt := 885) hx hb dL_law_880 (by decide) (by decide) (fun c3 => ?_) (fun c3 => absurd rfl c3)
    refine lv_goto (tgt := 1315) hx hb dL_law_885 (by decide) ?_
    refine w_wide (k := cells + 18) (n := slots + 420) (by omega) (by omega) ?_
    exact kk _ _ _ _ _ _ _ _ _ _ _ _ H2 locs ls hI hLZ (by omega) hP hS (lv_sub hl [2, 3, 4, 5, 6] rfl)
set_option maxHeartbeats 4000000 in
set_option maxRecDepth 100000 in
theorem law_pass {p : Program} {l : Launch} {e : Env} {s : State} {m : MethodId} {below : List Frame} {meth : Method} {c : Code} {b L : Nat} {xs : Nat → Int32} {D : va_G} {cI cZ cL cO : ClassId} {a am : Nat → Nat} {qo : Nat} (C0 : lw_At p s m meth c b L xs) (hlT : l.stackTraces = false) (hK : va_K D vwCl (T4 cI cZ cL cO) s) (hE : lwE s) (hT0 : lwT (LA s) s s.heap) (hO : okP (LA s) (al a am qo) 55) (hL : L ≤ 2048) {k : Nat} (hk : 4 * k + 4 ≤ L) {n pl nw ns t : Nat} {σ κ σ' κ' η : Sg} {th : Int32} {f : Nat → Int64} (hI : INW n pl nw ns t σ) (hLZ : LZ nw ns η) (ht : t ≤ 200 * k) {H : Heap} {locs : List Loc} {ls : Array Slot} {cells slots : Nat} (hc : cells + 18 ≤ 601024) (hs : slots + 420 ≤ 7293034) (hP : va_P D vwCl (wL cI cZ cL a am qo n pl nw ns σ κ σ' κ' f n nw ns σ th η) H) (hS : va_S (LA s) s.heap H locs) (hl : lv_has ls 9 [(4, .int (nI (4 * k))), (0, .ref b), (1, .ref (a 40)), (2, .ref (am 0)), (3, .ref qo)]) (kk : LK p l e s m b below meth c D cI cZ cL a am qo k t cells slots) : W p l e room_1 s m #[Value.ref b] below meth c H locs cells slots (lw_Z below #[Value.ref b] s) (F0 m 888 ls []) := by
  obtain ⟨hx, hb, hr, hml, hown, hts0, hX, hbl, hlocks, hgv⟩ := C0
  have hown : s.vm.findClass RL = some m.cls := hown
  have hts : ∀ w ∈ wsL_law, w.before #[Value.ref b] s = true := fun w h => hts0 w (wsL_law_in w h)
  have hbA : ¬ LA s b := Nat.not_le.mpr hbl
  have hB := hI.1.1
  have hTH := hT0.kept hS
  have hA2 : ∀ q, A_ (al a am qo) 42 q → LA s q := ak_of (hO.M (by decide))
  refine lv_aload_n hx hb dL_law_888 rfl (lv_at hl 2 rfl) ?_
  refine lv_aload_n hx hb dL_law_889 rfl (lv_at hl 1 rfl) ?_
  refine lv_iload hx hb dL_law_890 (lv_at hl 0 rfl) ?_
  refine lv_iconst (v := nI 1) hx hb dL_law_892 rfl ?_
  refine lv_iadd hx hb dL_law_893 ?_
  refine li_topi (nI_add _ _) ?_
  refine li_sld hx hb hX hbl hbA hS (i := 4 * k + 1) (by omega) (by omega) dL_law_894 ?_
  refine lv_aload_n hx hb dL_law_895 rfl (lv_at hl 4 rfl) ?_
  have hPc : va_P D vwCl (wXo cI cZ cL a n pl nw ns σ κ σ' κ' qo f) H := hP.sub i42 rfl
  refine va_calli (vx_runSW (As := [.ref (a 40), .int (xs (4 * k + 1)), .ref qo]) (rest := []) ⟨hx, hb, hml, hown, hts⟩ (c_L_pass l hlT D cI cZ cL cO a n pl nw ns σ κ σ' κ' H qo f (xs (4 * k + 1)) (A_ (al a am qo) 42) (oka41 hO) hO.ao (okDo hO) hB t hI.1 (by omega)) (vx_cwSW 3 hts gL_law_L_pass rfl rfl rfl (by decide +kernel) ⟨Nat.le_of_ble_eq_true rfl, Nat.le_of_ble_eq_true rfl⟩) ⟨ax_blind, fun U hU hW => ⟨rfl, hU, hPc, va_K.moved hW.alike hK, lwE.warm hW hE, (hTH.warm hW).narrow hA2⟩⟩ rfl rfl hl.1 rfl (lv_room (Nat.le_of_ble_eq_true rfl)) dL_law_896 ⟨by show cells + 1 ≤ 601024; omega, by show slots + 6 ≤ 7293034; omega⟩) hS (fun q _ h => hA2 q h) hA2 (fun r u t9 H1 locs ht9 hal hr9 hB1 hz1 hk1 hS => ?_)
  replace hr9 : r = nI (kPass n (xs (4 * k + 1))) := hr9
  subst hr9
  have hP1 : va_P D vwCl (wXo cI cZ cL a n pl nw ns (sPassT n pl nw ns σ (xs (4 * k + 1))) u.1 u.2.1 u.2.2 qo (oK (kPass n (xs (4 * k + 1))) (vPassT n pl nw ns σ (xs (4 * k + 1))) f)) H1 := by rw [← ht9]; exact hB1
  replace hP : va_P D vwCl (wL cI cZ cL a am qo n pl nw ns (sPassT n pl nw ns σ (xs (4 * k + 1))) u.1 u.2.1 u.2.2 (oK (kPass n (xs (4 * k + 1))) (vPassT n pl nw ns σ (xs (4 * k + 1))) f) n nw ns σ th η) H1 := jnH hO hP hP1 hk1
  refine lv_istore (lv' := [(5, .int (nI (kPass n (xs (4 * k + 1))))), (4, .int (nI (4 * k))), (0, .ref b), (1, .ref (a 40)), (2, .ref (am 0)), (3, .ref qo)]) hx hb dL_law_899 hl (by decide) rfl (fun ls hl => ?_)
  refine lv_aload_n hx hb dL_law_901 rfl (lv_at hl 4 rfl) ?_
  refine lv_aload_n hx hb dL_law_902 rfl (lv_at hl 2 rfl) ?_
  refine lv_iload hx hb dL_law_903 (lv_at hl 1 rfl) ?_
  refine lv_iconst (v := nI 1) hx hb dL_law_905 rfl ?_
  refine lv_iadd hx hb dL_law_906 ?_
  refine li_topi (nI_add _ _) ?_
  refine li_sld hx hb hX hbl hbA hS (i := 4 * k + 1) (by omega) (by omega) dL_law_907 ?_
  have hPm : va_P D vwCl (wM cI cZ am th n nw ns σ η) H1 := hP.sub m13 rfl
  refine miV (As := [.int (xs (4 * k + 1))]) (q0 := 0) (ci := 3) hx hb hml hown hts (c_X3_pass l D cI cZ cL cO am th n nw ns σ η H1 (xs (4 * k + 1)) (A_ am 13) (okm13 hO) ⟨hB.1, hB.2.2.1, hB.2.2.2⟩ pl t hI.1 hLZ (by omega)) (cwV 1 hts gL_law_X3_pass rfl rfl rfl (by decide +kernel) ⟨Nat.le_of_ble_eq_true rfl, Nat.le_of_ble_eq_true rfl⟩) hK hE hPm rfl rfl rfl rfl hl.1 rfl (Nat.le_of_ble_eq_true rfl) hS (okmA hO) dL_law_908 ⟨by show cells + 1 ≤ 601024; omega, by show slots + 6 ≤ 7293034; omega⟩ (fun H2 locs hPm2 _ hk2 hS => ?_)
  obtain ⟨es, hL2⟩ := sPass_T (p0 := (xs (4 * k + 1))) hI.1 hLZ
  rw [es] at hPm2
  refine li_topi (vPass_T hI.1 hLZ) ?_
  replace hP : va_P D vwCl (wL cI cZ cL a am qo n pl nw ns (sPassT n pl nw ns σ (xs (4 * k + 1))) u.1 u.2.1 u.2.2 (oK (kPass n (xs (4 * k + 1))) (vPassT n pl nw ns σ (xs (4 * k + 1))) f) n nw ns (sPassT n pl nw ns σ (xs (4 * k + 1))) (nI (kPass n (xs (4 * k + 1)))) ((sPass n pl nw ns (σ, η) (xs (4 * k + 1))).2)) H2 := jnM hO hP hPm2 hk2
  refine lv_istore (lv' := [(6, .int (vPassT n pl nw ns σ (xs (4 * k + 1)))), (5, .int (nI (kPass n (xs (4 * k + 1))))), (4, .int (nI (4 * k))), (0, .ref b), (1, .ref (a 40)), (2, .ref (am 0)), (3, .ref qo)]) hx hb dL_law_911 hl (by decide) rfl (fun ls hl => ?_)
  refine lv_aload_n hx hb dL_law_913 rfl (lv_at hl 5 rfl) ?_
  have hB9 := (INW_pass hI (xs (4 * k + 1))).choose_spec.2.1.1
  refine roV (As := []) (q0 := 0) (ci := 3) hx hb hml hown hts (c_X3_thrown l D cI cZ cL cO am (nI (kPass n (xs (4 * k + 1)))) n nw ns (sPassT n pl nw ns σ (xs (4 * k + 1))) ((sPass n pl nw ns (σ, η) (xs (4 * k + 1))).2) H2 ⟨hB9.1, hB9.2.2.1, hB9.2.2.2⟩) (cwV 0 hts gL_law_X3_thrown rfl rfl rfl (by decide +kernel) ⟨Nat.le_of_ble_eq_true rfl, Nat.le_of_ble_eq_true rfl⟩) hK hE (hP.sub (ws' := wM cI cZ am (nI (kPass n (xs (4 * k + 1)))) n nw ns (sPassT n pl nw ns σ (xs (4 * k + 1))) ((sPass n pl nw ns (σ, η) (xs (4 * k + 1))).2)) m13 rfl) rfl rfl rfl rfl hl.1 rfl (Nat.le_of_ble_eq_true rfl) hS dL_law_914 ⟨by show cells + 1 ≤ 601024; omega, by show slots + 6 ≤ 7293034; omega⟩ (fun locs hS => ?_)
  refine lv_iload hx hb dL_law_917 (lv_at hl 1 rfl) ?_
  refine lv_icmp_eq (tgt := 924) hx hb dL_law_919 (by decide) (fun c1 => ?_) (fun c1 => absurd rfl c1)
  refine lv_iload hx hb dL_law_924 (lv_at hl 1 rfl) ?_
  refine li_ne0 (tgt := 941) hx hb dL_law_926 (by decide) (by have h9 := kPass_le (n := n) (x := (xs (4 * k + 1))); omega) (fun c2 => ?_) (fun c2 => ?_)
  · skip
    refine lv_goto (tgt := 1315) hx hb dL_law_941 (by decide) ?_
    refine w_wide (k := cells + 18) (n := slots + 420) (by omega) (by omega) ?_
    exact kk _ _ _ _ _ _ _ _ _ _ _ _ H2 locs ls (INW_pass hI (xs (4 * k + 1))).choose_spec.2 hL2 (INW_pass hI (xs (4 * k + 1))).choose_spec.1 hP hS (lv_sub hl [2, 3, 4, 5, 6] rfl)
  · skip
    refine lv_aload_n hx hb dL_law_929 rfl (lv_at hl 6 rfl) ?_
    refine lv_iconst (v := nI 0) hx hb dL_law_930 rfl ?_
    refine va_lald hx hb hK hP 41 2 rfl rfl (vp_in_nI (by decide) (by decide)) dL_law_931 ?_
    refine li_topl (show _ = (vPassT n pl nw ns σ (xs (4 * k + 1))).toInt64 from by rw [oK_0 c2]; rfl) ?_
    refine lv_iload hx hb dL_law_932 (lv_at hl 0 rfl) ?_
    refine lv_i2l (v := (vPassT n pl nw ns σ (xs (4 * k + 1))).toInt64) hx hb dL_law_934 rfl ?_
    refine W.lcmp hx hb dL_law_935 ?_
    refine li_topi (show _ = nI 0 from lg_cmp_rf _) ?_
    refine li_eq0 (tgt := 941) hx hb dL_law_936 (by decide) (by decide) (fun c3 => ?_) (fun c3 => absurd rfl c3)
    refine lv_goto (tgt := 1315) hx hb dL_law_941 (by decide) ?_
    refine w_wide (k := cells + 18) (n := slots + 420) (by omega) (by omega) ?_
    exact kk _ _ _ _ _ _ _ _ _ _ _ _ H2 locs ls (INW_pass hI (xs (4 * k + 1))).choose_spec.2 hL2 (INW_pass hI (xs (4 * k + 1))).choose_spec.1 hP hS (lv_sub hl [2, 3, 4, 5, 6] rfl)
set_option maxHeartbeats 4000000 in
set_option maxRecDepth 100000 in
theorem law_count {p : Program} {l : Launch} {e : Env} {s : State} {m : MethodId} {below : List Frame} {meth : Method} {c : Code} {b L : Nat} {xs : Nat → Int32} {D : va_G} {cI cZ cL cO : ClassId} {a am : Nat → Nat} {qo : Nat} (C0 : lw_At p s m meth c b L xs) (hlT : l.stackTraces = false) (hK : va_K D vwCl (T4 cI cZ cL cO) s) (hE : lwE s) (hT0 : lwT (LA s) s s.heap) (hO : okP (LA s) (al a am qo) 55) (hL : L ≤ 2048) {k : Nat} (hk : 4 * k + 4 ≤ L) {n pl nw ns t : Nat} {σ κ σ' κ' η : Sg} {th : Int32} {f : Nat → Int64} (hI : INW n pl nw ns t σ) (hLZ : LZ nw ns η) (ht : t ≤ 200 * k) {H : Heap} {locs : List Loc} {ls : Array Slot} {cells slots : Nat} (hc : cells + 18 ≤ 601024) (hs : slots + 420 ≤ 7293034) (hP : va_P D vwCl (wL cI cZ cL a am qo n pl nw ns σ κ σ' κ' f n nw ns σ th η) H) (hS : va_S (LA s) s.heap H locs) (hl : lv_has ls 9 [(4, .int (nI (4 * k))), (0, .ref b), (1, .ref (a 40)), (2, .ref (am 0)), (3, .ref qo)]) (kk : LK p l e s m b below meth c D cI cZ cL a am qo k t cells slots) : W p l e room_1 s m #[Value.ref b] below meth c H locs cells slots (lw_Z below #[Value.ref b] s) (F0 m 944 ls []) := by
  obtain ⟨hx, hb, hr, hml, hown, hts0, hX, hbl, hlocks, hgv⟩ := C0
  have hown : s.vm.findClass RL = some m.cls := hown
  have hts : ∀ w ∈ wsL_law, w.before #[Value.ref b] s = true := fun w h => hts0 w (wsL_law_in w h)
  have hbA : ¬ LA s b := Nat.not_le.mpr hbl
  have hB := hI.1.1
  have hTH := hT0.kept hS
  have hA2 : ∀ q, A_ (al a am qo) 42 q → LA s q := ak_of (hO.M (by decide))
  refine lv_aload_n hx hb dL_law_944 rfl (lv_at hl 2 rfl) ?_
  refine lv_aload_n hx hb dL_law_945 rfl (lv_at hl 1 rfl) ?_
  refine lv_iload hx hb dL_law_946 (lv_at hl 0 rfl) ?_
  refine lv_iconst (v := nI 1) hx hb dL_law_948 rfl ?_
  refine lv_iadd hx hb dL_law_949 ?_
  refine li_topi (nI_add _ _) ?_
  refine li_sld hx hb hX hbl hbA hS (i := 4 * k + 1) (by omega) (by omega) dL_law_950 ?_
  refine lv_aload_n hx hb dL_law_951 rfl (lv_at hl 4 rfl) ?_
  have hPc : va_P D vwCl (wXo cI cZ cL a n pl nw ns σ κ σ' κ' qo f) H := hP.sub i42 rfl
  refine va_calli (vx_runSW (As := [.ref (a 40), .int (xs (4 * k + 1)), .ref qo]) (rest := []) ⟨hx, hb, hml, hown, hts⟩ (c_L_count l hlT D cI cZ cL cO a n pl nw ns σ κ σ' κ' H qo f (xs (4 * k + 1)) (A_ (al a am qo) 42) (oka41 hO) hO.ao (okDo hO) hB) (vx_cwSW 3 hts gL_law_L_count rfl rfl rfl (by decide +kernel) ⟨Nat.le_of_ble_eq_true rfl, Nat.le_of_ble_eq_true rfl⟩) ⟨ax_blind, fun U hU hW => ⟨rfl, hU, hPc, va_K.moved hW.alike hK, lwE.warm hW hE, (hTH.warm hW).narrow hA2⟩⟩ rfl rfl hl.1 rfl (lv_room (Nat.le_of_ble_eq_true rfl)) dL_law_952 ⟨by show cells + 1 ≤ 601024; omega, by show slots + 6 ≤ 7293034; omega⟩) hS (fun q _ h => hA2 q h) hA2 (fun r u t9 H1 locs ht9 hal hr9 hB1 hz1 hk1 hS => ?_)
  replace hr9 : r = nI (kCount (xs (4 * k + 1))) := hr9
  subst hr9
  have hP1 : va_P D vwCl (wXo cI cZ cL a n pl nw ns σ u.1 u.2.1 u.2.2 qo (oK (kCount (xs (4 * k + 1))) (ifk (kCount (xs (4 * k + 1))) (alT n pl nw ns σ (nN (xs (4 * k + 1))))) f)) H1 := by rw [← ht9]; exact hB1
  replace hP : va_P D vwCl (wL cI cZ cL a am qo n pl nw ns σ u.1 u.2.1 u.2.2 (oK (kCount (xs (4 * k + 1))) (ifk (kCount (xs (4 * k + 1))) (alT n pl nw ns σ (nN (xs (4 * k + 1))))) f) n nw ns σ th η) H1 := jnH hO hP hP1 hk1
  refine lv_istore (lv' := [(5, .int (nI (kCount (xs (4 * k + 1))))), (4, .int (nI (4 * k))), (0, .ref b), (1, .ref (a 40)), (2, .ref (am 0)), (3, .ref qo)]) hx hb dL_law_955 hl (by decide) rfl (fun ls hl => ?_)
  refine lv_aload_n hx hb dL_law_957 rfl (lv_at hl 4 rfl) ?_
  refine lv_aload_n hx hb dL_law_958 rfl (lv_at hl 2 rfl) ?_
  refine lv_iload hx hb dL_law_959 (lv_at hl 1 rfl) ?_
  refine lv_iconst (v := nI 1) hx hb dL_law_961 rfl ?_
  refine lv_iadd hx hb dL_law_962 ?_
  refine li_topi (nI_add _ _) ?_
  refine li_sld hx hb hX hbl hbA hS (i := 4 * k + 1) (by omega) (by omega) dL_law_963 ?_
  have hPm : va_P D vwCl (wM cI cZ am th n nw ns σ η) H1 := hP.sub m13 rfl
  refine miV (As := [.int (xs (4 * k + 1))]) (q0 := 0) (ci := 3) hx hb hml hown hts (c_X3_count l D cI cZ cL cO am th n nw ns σ η H1 (xs (4 * k + 1)) (A_ am 13) (okm13 hO) ⟨hB.1, hB.2.2.1, hB.2.2.2⟩ pl hB.2.1 hI.1.2.1.1 hI.1.2.2.2.1 hI.1.2.2.2.2.1) (cwV 1 hts gL_law_X3_count rfl rfl rfl (by decide +kernel) ⟨Nat.le_of_ble_eq_true rfl, Nat.le_of_ble_eq_true rfl⟩) hK hE hPm rfl rfl rfl rfl hl.1 rfl (Nat.le_of_ble_eq_true rfl) hS (okmA hO) dL_law_964 ⟨by show cells + 1 ≤ 601024; omega, by show slots + 6 ≤ 7293034; omega⟩ (fun H2 locs hPm2 _ hk2 hS => ?_)
  replace hP : va_P D vwCl (wL cI cZ cL a am qo n pl nw ns σ u.1 u.2.1 u.2.2 (oK (kCount (xs (4 * k + 1))) (ifk (kCount (xs (4 * k + 1))) (alT n pl nw ns σ (nN (xs (4 * k + 1))))) f) n nw ns σ (nI (kCount (xs (4 * k + 1)))) η) H2 := jnM hO hP hPm2 hk2
  refine lv_istore (lv' := [(6, .int (ifk (kCount (xs (4 * k + 1))) (alT n pl nw ns σ (nN (xs (4 * k + 1)))))), (5, .int (nI (kCount (xs (4 * k + 1))))), (4, .int (nI (4 * k))), (0, .ref b), (1, .ref (a 40)), (2, .ref (am 0)), (3, .ref qo)]) hx hb dL_law_967 hl (by decide) rfl (fun ls hl => ?_)
  refine lv_aload_n hx hb dL_law_969 rfl (lv_at hl 5 rfl) ?_
  have hB9 := hI.1.1
  refine roV (As := []) (q0 := 0) (ci := 3) hx hb hml hown hts (c_X3_thrown l D cI cZ cL cO am (nI (kCount (xs (4 * k + 1)))) n nw ns σ η H2 ⟨hB9.1, hB9.2.2.1, hB9.2.2.2⟩) (cwV 0 hts gL_law_X3_thrown rfl rfl rfl (by decide +kernel) ⟨Nat.le_of_ble_eq_true rfl, Nat.le_of_ble_eq_true rfl⟩) hK hE (hP.sub (ws' := wM cI cZ am (nI (kCount (xs (4 * k + 1)))) n nw ns σ η) m13 rfl) rfl rfl rfl rfl hl.1 rfl (Nat.le_of_ble_eq_true rfl) hS dL_law_970 ⟨by show cells + 1 ≤ 601024; omega, by show slots + 6 ≤ 7293034; omega⟩ (fun locs hS => ?_)
  refine lv_iload hx hb dL_law_973 (lv_at hl 1 rfl) ?_
  refine lv_icmp_eq (tgt := 980) hx hb dL_law_975 (by decide) (fun c1 => ?_) (fun c1 => absurd rfl c1)
  refine lv_iload hx hb dL_law_980 (lv_at hl 1 rfl) ?_
  refine li_ne0 (tgt := 997) hx hb dL_law_982 (by decide) (by have h9 := kCount_le (x := (xs (4 * k + 1))); omega) (fun c2 => ?_) (fun c2 => ?_)
  · skip
    refine lv_goto (tgt := 1315) hx hb dL_law_997 (by decide) ?_
    refine w_wide (k := cells + 18) (n := slots + 420) (by omega) (by omega) ?_
    exact kk _ _ _ _ _ _ _ _ _ _ _ _ H2 locs ls hI hLZ (by omega) hP hS (lv_sub hl [2, 3, 4, 5, 6] rfl)
  · skip
    refine lv_aload_n hx hb dL_law_985 rfl (lv_at hl 6 rfl) ?_
    refine lv_iconst (v := nI 0) hx hb dL_law_986 rfl ?_
    refine va_lald hx hb hK hP 41 2 rfl rfl (vp_in_nI (by decide) (by decide)) dL_law_987 ?_
    refine li_topl (show _ = (ifk (kCount (xs (4 * k + 1))) (alT n pl nw ns σ (nN (xs (4 * k + 1))))).toInt64 from by rw [oK_0 c2]; rfl) ?_
    refine lv_iload hx hb dL_law_988 (lv_at hl 0 rfl) ?_
    refine lv_i2l (v := (ifk (kCount (xs (4 * k + 1))) (alT n pl nw ns σ (nN (xs (4 * k + 1))))).toInt64) hx hb dL_law_990 rfl ?_
    refine W.lcmp hx hb dL_law_991 ?_
    refine li_topi (show _ = nI 0 from lg_cmp_rf _) ?_
    refine li_eq0 (tgt := 997) hx hb dL_law_992 (by decide) (by decide) (fun c3 => ?_) (fun c3 => absurd rfl c3)
    refine lv_goto (tgt := 1315) hx hb dL_law_997 (by decide) ?_
    refine w_wide (k := cells + 18) (n := slots + 420) (by omega) (by omega) ?_
    exact kk _ _ _ _ _ _ _ _ _ _ _ _ H2 locs ls hI hLZ (by omega) hP hS (lv_sub hl [2, 3, 4, 5, 6] rfl)
set_option maxHeartbeats 4000000 in
set_option maxRecDepth 100000 in
theorem law_foresee {p : Program} {l : Launch} {e : Env} {s : State} {m : MethodId} {below : List Frame} {meth : Method} {c : Code} {b L : Nat} {xs : Nat → Int32} {D : va_G} {cI cZ cL cO : ClassId} {a am : Nat → Nat} {qo : Nat} (C0 : lw_At p s m meth c b L xs) (hlT : l.stackTraces = false) (hK : va_K D vwCl (T4 cI cZ cL cO) s) (hE : lwE s) (hT0 : lwT (LA s) s s.heap) (hO : okP (LA s) (al a am qo) 55) (hL : L ≤ 2048) {k : Nat} (hk : 4 * k + 4 ≤ L) {n pl nw ns t : Nat} {σ κ σ' κ' η : Sg} {th : Int32} {f : Nat → Int64} (hI : INW n pl nw ns t σ) (hLZ : LZ nw ns η) (ht : t ≤ 200 * k) {H : Heap} {locs : List Loc} {ls : Array Slot} {cells slots : Nat} (hc : cells + 18 ≤ 601024) (hs : slots + 420 ≤ 7293034) (hP : va_P D vwCl (wL cI cZ cL a am qo n pl nw ns σ κ σ' κ' f n nw ns σ th η) H) (hS : va_S (LA s) s.heap H locs) (hl : lv_has ls 9 [(4, .int (nI (4 * k))), (0, .ref b), (1, .ref (a 40)), (2, .ref (am 0)), (3, .ref qo)]) (kk : LK p l e s m b below meth c D cI cZ cL a am qo k t cells slots) : W p l e room_1 s m #[Value.ref b] below meth c H locs cells slots (lw_Z below #[Value.ref b] s) (F0 m 1000 ls []) := by
  obtain ⟨hx, hb, hr, hml, hown, hts0, hX, hbl, hlocks, hgv⟩ := C0
  have hown : s.vm.findClass RL = some m.cls := hown
  have hts : ∀ w ∈ wsL_law, w.before #[Value.ref b] s = true := fun w h => hts0 w (wsL_law_in w h)
  have hbA : ¬ LA s b := Nat.not_le.mpr hbl
  have hB := hI.1.1
  have hTH := hT0.kept hS
  have hA2 : ∀ q, A_ (al a am qo) 42 q → LA s q := ak_of (hO.M (by decide))
  refine lv_aload_n hx hb dL_law_1000 rfl (lv_at hl 2 rfl) ?_
  refine lv_aload_n hx hb dL_law_1001 rfl (lv_at hl 1 rfl) ?_
  refine lv_iload hx hb dL_law_1002 (lv_at hl 0 rfl) ?_
  refine lv_iconst (v := nI 1) hx hb dL_law_1004 rfl ?_
  refine lv_iadd hx hb dL_law_1005 ?_
  refine li_topi (nI_add _ _) ?_
  refine li_sld hx hb hX hbl hbA hS (i := 4 * k + 1) (by omega) (by omega) dL_law_1006 ?_
  refine lv_aload_n hx hb dL_law_1007 rfl (lv_at hl 1 rfl) ?_
  refine lv_iload hx hb dL_law_1008 (lv_at hl 0 rfl) ?_
  refine lv_iconst (v := nI 2) hx hb dL_law_1010 rfl ?_
  refine lv_iadd hx hb dL_law_1011 ?_
  refine li_topi (nI_add _ _) ?_
  refine li_sld hx hb hX hbl hbA hS (i := 4 * k + 2) (by omega) (by omega) dL_law_1012 ?_
  refine lv_aload_n hx hb dL_law_1013 rfl (lv_at hl 4 rfl) ?_
  have hPc : va_P D vwCl (wXo cI cZ cL a n pl nw ns σ κ σ' κ' qo f) H := hP.sub i42 rfl
  refine va_calli (vx_runSW (As := [.ref (a 40), .int (xs (4 * k + 1)), .int (xs (4 * k + 2)), .ref qo]) (rest := []) ⟨hx, hb, hml, hown, hts⟩ (c_L_foresee l hlT D cI cZ cL cO a n pl nw ns σ κ σ' κ' H qo f (xs (4 * k + 1)) (xs (4 * k + 2)) (A_ (al a am qo) 42) (oka41 hO) hO.ao (okDo hO) hB t hI.1 (by omega)) (vx_cwSW 4 hts gL_law_L_foresee rfl rfl rfl (by decide +kernel) ⟨Nat.le_of_ble_eq_true rfl, Nat.le_of_ble_eq_true rfl⟩) ⟨ax_blind, fun U hU hW => ⟨rfl, hU, hPc, va_K.moved hW.alike hK, lwE.warm hW hE, (hTH.warm hW).narrow hA2⟩⟩ rfl rfl hl.1 rfl (lv_room (Nat.le_of_ble_eq_true rfl)) dL_law_1014 ⟨by show cells + 1 ≤ 601024; omega, by show slots + 6 ≤ 7293034; omega⟩) hS (fun q _ h => hA2 q h) hA2 (fun r u t9 H1 locs ht9 hal hr9 hB1 hz1 hk1 hS => ?_)
  replace hr9 : r = nI (kFor n (xs (4 * k + 1)) (xs (4 * k + 2))) := hr9
  subst hr9
  have hP1 : va_P D vwCl (wXo cI cZ cL a n pl nw ns σ u.1 u.2.1 u.2.2 qo (oK (kFor n (xs (4 * k + 1)) (xs (4 * k + 2))) (vFor n pl nw ns σ (xs (4 * k + 1)) (xs (4 * k + 2))) f)) H1 := by rw [← ht9]; exact hB1
  replace hP : va_P D vwCl (wL cI cZ cL a am qo n pl nw ns σ u.1 u.2.1 u.2.2 (oK (kFor n (xs (4 * k + 1)) (xs (4 * k + 2))) (vFor n pl nw ns σ (xs (4 * k + 1)) (xs (4 * k + 2))) f) n nw ns σ th η) H1 := jnH hO hP hP1 hk1
  refine lv_istore (lv' := [(5, .int (nI (kFor n (xs (4 * k + 1)) (xs (4 * k + 2))))), (4, .int (nI (4 * k))), (0, .ref b), (1, .ref (a 40)), (2, .ref (am 0)), (3, .ref qo)]) hx hb dL_law_1017 hl (by decide) rfl (fun ls hl => ?_)
  refine lv_aload_n hx hb dL_law_1019 rfl (lv_at hl 4 rfl) ?_
  refine lv_aload_n hx hb dL_law_1020 rfl (lv_at hl 2 rfl) ?_
  refine lv_iload hx hb dL_law_1021 (lv_at hl 1 rfl) ?_
  refine lv_iconst (v := nI 1) hx hb dL_law_1023 rfl ?_
  refine lv_iadd hx hb dL_law_1024 ?_
  refine li_topi (nI_add _ _) ?_
  refine li_sld hx hb hX hbl hbA hS (i := 4 * k + 1) (by omega) (by omega) dL_law_1025 ?_
  refine lv_aload_n hx hb dL_law_1026 rfl (lv_at hl 2 rfl) ?_
  refine lv_iload hx hb dL_law_1027 (lv_at hl 1 rfl) ?_
  refine lv_iconst (v := nI 2) hx hb dL_law_1029 rfl ?_
  refine lv_iadd hx hb dL_law_1030 ?_
  refine li_topi (nI_add _ _) ?_
  refine li_sld hx hb hX hbl hbA hS (i := 4 * k + 2) (by omega) (by omega) dL_law_1031 ?_
  have hPm : va_P D vwCl (wM cI cZ am th n nw ns σ η) H1 := hP.sub m13 rfl
  refine mezV (As := [.int (xs (4 * k + 1)), .int (xs (4 * k + 2))]) (q0 := 0) (ci := 3) hx hb hml hown hts (c_X3_foresee l D cI cZ cL cO am th n nw ns σ η H1 (xs (4 * k + 1)) (xs (4 * k + 2)) (A_ am 13) (okm13 hO) ⟨hB.1, hB.2.2.1, hB.2.2.2⟩ pl t hI.1 hLZ (by omega)) (cwV 2 hts gL_law_X3_foresee rfl rfl rfl (by decide +kernel) ⟨Nat.le_of_ble_eq_true rfl, Nat.le_of_ble_eq_true rfl⟩) hK hE hPm rfl rfl rfl rfl hl.1 rfl (Nat.le_of_ble_eq_true rfl) hS (fun q z => z.elim ((okmA hO) q) (fun y => Nat.le_trans hS.1 y)) dL_law_1032 ⟨by show cells + 1 + 7 ≤ 601024; omega, by show slots + 6 + 343 ≤ 7293034; omega⟩ (fun η2 H2 locs hL2 hPm2 _ hk2 hS => ?_)
  replace hP : va_P D vwCl (wL cI cZ cL a am qo n pl nw ns σ u.1 u.2.1 u.2.2 (oK (kFor n (xs (4 * k + 1)) (xs (4 * k + 2))) (vFor n pl nw ns σ (xs (4 * k + 1)) (xs (4 * k + 2))) f) n nw ns σ (nI (kFor n (xs (4 * k + 1)) (xs (4 * k + 2)))) η2) H2 := jnM hO hP hPm2 (AN_M hk2)
  refine lv_istore (lv' := [(6, .int (vFor n pl nw ns σ (xs (4 * k + 1)) (xs (4 * k + 2)))), (5, .int (nI (kFor n (xs (4 * k + 1)) (xs (4 * k + 2))))), (4, .int (nI (4 * k))), (0, .ref b), (1, .ref (a 40)), (2, .ref (am 0)), (3, .ref qo)]) hx hb dL_law_1035 hl (by decide) rfl (fun ls hl => ?_)
  refine lv_aload_n hx hb dL_law_1037 rfl (lv_at hl 5 rfl) ?_
  have hB9 := hI.1.1
  refine roV (As := []) (q0 := 0) (ci := 3) hx hb hml hown hts (c_X3_thrown l D cI cZ cL cO am (nI (kFor n (xs (4 * k + 1)) (xs (4 * k + 2)))) n nw ns σ η2 H2 ⟨hB9.1, hB9.2.2.1, hB9.2.2.2⟩) (cwV 0 hts gL_law_X3_thrown rfl rfl rfl (by decide +kernel) ⟨Nat.le_of_ble_eq_true rfl, Nat.le_of_ble_eq_true rfl⟩) hK hE (hP.sub (ws' := wM cI cZ am (nI (kFor n (xs (4 * k + 1)) (xs (4 * k + 2)))) n nw ns σ η2) m13 rfl) rfl rfl rfl rfl hl.1 rfl (Nat.le_of_ble_eq_true rfl) hS dL_law_1038 ⟨by show cells + 8 ≤ 601024; omega, by show slots + 349 ≤ 7293034; omega⟩ (fun locs hS => ?_)
  refine lv_iload hx hb dL_law_1041 (lv_at hl 1 rfl) ?_
  refine lv_icmp_eq (tgt := 1048) hx hb dL_law_1043 (by decide) (fun c1 => ?_) (fun c1 => absurd rfl c1)
  refine lv_iload hx hb dL_law_1048 (lv_at hl 1 rfl) ?_
  refine li_ne0 (tgt := 1065) hx hb dL_law_1050 (by decide) (by have h9 := kFor_le (n := n) (x := (xs (4 * k + 1))) (y := (xs (4 * k + 2))); omega) (fun c2 => ?_) (fun c2 => ?_)
  · skip
    refine lv_goto (tgt := 1315) hx hb dL_law_1065 (by decide) ?_
    refine w_wide (k := cells + 18) (n := slots + 420) (by omega) (by omega) ?_
    exact kk _ _ _ _ _ _ _ _ _ _ _ _ H2 locs ls hI hL2 (by omega) hP hS (lv_sub hl [2, 3, 4, 5, 6] rfl)
  · skip
    refine lv_aload_n hx hb dL_law_1053 rfl (lv_at hl 6 rfl) ?_
    refine lv_iconst (v := nI 0) hx hb dL_law_1054 rfl ?_
    refine va_lald hx hb hK hP 41 2 rfl rfl (vp_in_nI (by decide) (by decide)) dL_law_1055 ?_
    refine li_topl (show _ = (vFor n pl nw ns σ (xs (4 * k + 1)) (xs (4 * k + 2))).toInt64 from by rw [oK_0 c2]; rfl) ?_
    refine lv_iload hx hb dL_law_1056 (lv_at hl 0 rfl) ?_
    refine lv_i2l (v := (vFor n pl nw ns σ (xs (4 * k + 1)) (xs (4 * k + 2))).toInt64) hx hb dL_law_1058 rfl ?_
    refine W.lcmp hx hb dL_law_1059 ?_
    refine li_topi (show _ = nI 0 from lg_cmp_rf _) ?_
    refine li_eq0 (tgt := 1065) hx hb dL_law_1060 (by decide) (by decide) (fun c3 => ?_) (fun c3 => absurd rfl c3)
    refine lv_goto (tgt := 1315) hx hb dL_law_1065 (by decide) ?_
    refine w_wide (k := cells + 18) (n := slots + 420) (by omega) (by omega) ?_
    exact kk _ _ _ _ _ _ _ _ _ _ _ _ H2 locs ls hI hL2 (by omega) hP hS (lv_sub hl [2, 3, 4, 5, 6] rfl)
set_option maxHeartbeats 4000000 in
set_option maxRecDepth 100000 in
theorem law_home {p : Program} {l : Launch} {e : Env} {s : State} {m : MethodId} {below : List Frame} {meth : Method} {c : Code} {b L : Nat} {xs : Nat → Int32} {D : va_G} {cI cZ cL cO : ClassId} {a am : Nat → Nat} {qo : Nat} (C0 : lw_At p s m meth c b L xs) (hlT : l.stackTraces = false) (hK : va_K D vwCl (T4 cI cZ cL cO) s) (hE : lwE s) (hT0 : lwT (LA s) s s.heap) (hO : okP (LA s) (al a am qo) 55) (hL : L ≤ 2048) {k : Nat} (hk : 4 * k + 4 ≤ L) {n pl nw ns t : Nat} {σ κ σ' κ' η : Sg} {th : Int32} {f : Nat → Int64} (hI : INW n pl nw ns t σ) (hLZ : LZ nw ns η) (ht : t ≤ 200 * k) {H : Heap} {locs : List Loc} {ls : Array Slot} {cells slots : Nat} (hc : cells + 18 ≤ 601024) (hs : slots + 420 ≤ 7293034) (hP : va_P D vwCl (wL cI cZ cL a am qo n pl nw ns σ κ σ' κ' f n nw ns σ th η) H) (hS : va_S (LA s) s.heap H locs) (hl : lv_has ls 9 [(4, .int (nI (4 * k))), (0, .ref b), (1, .ref (a 40)), (2, .ref (am 0)), (3, .ref qo)]) (kk : LK p l e s m b below meth c D cI cZ cL a am qo k t cells slots) : W p l e room_1 s m #[Value.ref b] below meth c H locs cells slots (lw_Z below #[Value.ref b] s) (F0 m 1068 ls []) := by
  obtain ⟨hx, hb, hr, hml, hown, hts0, hX, hbl, hlocks, hgv⟩ := C0
  have hown : s.vm.findClass RL = some m.cls := hown
  have hts : ∀ w ∈ wsL_law, w.before #[Value.ref b] s = true := fun w h => hts0 w (wsL_law_in w h)
  have hbA : ¬ LA s b := Nat.not_le.mpr hbl
  have hB := hI.1.1
  have hTH := hT0.kept hS
  have hA2 : ∀ q, A_ (al a am qo) 42 q → LA s q := ak_of (hO.M (by decide))
  refine lv_aload_n hx hb dL_law_1068 rfl (lv_at hl 2 rfl) ?_
  refine lv_aload_n hx hb dL_law_1069 rfl (lv_at hl 1 rfl) ?_
  refine lv_iload hx hb dL_law_1070 (lv_at hl 0 rfl) ?_
  refine lv_iconst (v := nI 1) hx hb dL_law_1072 rfl ?_
  refine lv_iadd hx hb dL_law_1073 ?_
  refine li_topi (nI_add _ _) ?_
  refine li_sld hx hb hX hbl hbA hS (i := 4 * k + 1) (by omega) (by omega) dL_law_1074 ?_
  refine lv_aload_n hx hb dL_law_1075 rfl (lv_at hl 4 rfl) ?_
  have hPc : va_P D vwCl (wXo cI cZ cL a n pl nw ns σ κ σ' κ' qo f) H := hP.sub i42 rfl
  refine va_calli (vx_runSW (As := [.ref (a 40), .int (xs (4 * k + 1)), .ref qo]) (rest := []) ⟨hx, hb, hml, hown, hts⟩ (c_L_home l hlT D cI cZ cL cO a n pl nw ns σ κ σ' κ' H qo f (xs (4 * k + 1)) (A_ (al a am qo) 42) (oka41 hO) hO.ao (okDo hO) hB t hI.1 (by omega)) (vx_cwSW 3 hts gL_law_L_home rfl rfl rfl (by decide +kernel) ⟨Nat.le_of_ble_eq_true rfl, Nat.le_of_ble_eq_true rfl⟩) ⟨ax_blind, fun U hU hW => ⟨rfl, hU, hPc, va_K.moved hW.alike hK, lwE.warm hW hE, (hTH.warm hW).narrow hA2⟩⟩ rfl rfl hl.1 rfl (lv_room (Nat.le_of_ble_eq_true rfl)) dL_law_1076 ⟨by show cells + 1 ≤ 601024; omega, by show slots + 6 ≤ 7293034; omega⟩) hS (fun q _ h => hA2 q h) hA2 (fun r u t9 H1 locs ht9 hal hr9 hB1 hz1 hk1 hS => ?_)
  replace hr9 : r = nI (kHome nw (xs (4 * k + 1))) := hr9
  subst hr9
  have hP1 : va_P D vwCl (wXo cI cZ cL a n pl nw ns σ u.1 u.2.1 u.2.2 qo (oK (kHome nw (xs (4 * k + 1))) (vHome n pl nw ns σ (xs (4 * k + 1))) f)) H1 := by rw [← ht9]; exact hB1
  replace hP : va_P D vwCl (wL cI cZ cL a am qo n pl nw ns σ u.1 u.2.1 u.2.2 (oK (kHome nw (xs (4 * k + 1))) (vHome n pl nw ns σ (xs (4 * k + 1))) f) n nw ns σ th η) H1 := jnH hO hP hP1 hk1
  refine lv_istore (lv' := [(5, .int (nI (kHome nw (xs (4 * k + 1))))), (4, .int (nI (4 * k))), (0, .ref b), (1, .ref (a 40)), (2, .ref (am 0)), (3, .ref qo)]) hx hb dL_law_1079 hl (by decide) rfl (fun ls hl => ?_)
  refine lv_aload_n hx hb dL_law_1081 rfl (lv_at hl 4 rfl) ?_
  refine lv_aload_n hx hb dL_law_1082 rfl (lv_at hl 2 rfl) ?_
  refine lv_iload hx hb dL_law_1083 (lv_at hl 1 rfl) ?_
  refine lv_iconst (v := nI 1) hx hb dL_law_1085 rfl ?_
  refine lv_iadd hx hb dL_law_1086 ?_
  refine li_topi (nI_add _ _) ?_
  refine li_sld hx hb hX hbl hbA hS (i := 4 * k + 1) (by omega) (by omega) dL_law_1087 ?_
  have hPm : va_P D vwCl (wM cI cZ am th n nw ns σ η) H1 := hP.sub m13 rfl
  refine mezV (As := [.int (xs (4 * k + 1))]) (q0 := 0) (ci := 3) hx hb hml hown hts (c_X3_home l D cI cZ cL cO am th n nw ns σ η H1 (xs (4 * k + 1)) (A_ am 13) (okm13 hO) ⟨hB.1, hB.2.2.1, hB.2.2.2⟩ pl t hI.1 hLZ (by omega)) (cwV 1 hts gL_law_X3_home rfl rfl rfl (by decide +kernel) ⟨Nat.le_of_ble_eq_true rfl, Nat.le_of_ble_eq_true rfl⟩) hK hE hPm rfl rfl rfl rfl hl.1 rfl (Nat.le_of_ble_eq_true rfl) hS (fun q z => z.elim ((okmA hO) q) (fun y => Nat.le_trans hS.1 y)) dL_law_1088 ⟨by show cells + 1 + 7 ≤ 601024; omega, by show slots + 6 + 343 ≤ 7293034; omega⟩ (fun η2 H2 locs hL2 hPm2 _ hk2 hS => ?_)
  replace hP : va_P D vwCl (wL cI cZ cL a am qo n pl nw ns σ u.1 u.2.1 u.2.2 (oK (kHome nw (xs (4 * k + 1))) (vHome n pl nw ns σ (xs (4 * k + 1))) f) n nw ns σ (nI (kHome nw (xs (4 * k + 1)))) η2) H2 := jnM hO hP hPm2 (AN_M hk2)
  refine lv_istore (lv' := [(6, .int (vHome n pl nw ns σ (xs (4 * k + 1)))), (5, .int (nI (kHome nw (xs (4 * k + 1))))), (4, .int (nI (4 * k))), (0, .ref b), (1, .ref (a 40)), (2, .ref (am 0)), (3, .ref qo)]) hx hb dL_law_1091 hl (by decide) rfl (fun ls hl => ?_)
  refine lv_aload_n hx hb dL_law_1093 rfl (lv_at hl 5 rfl) ?_
  have hB9 := hI.1.1
  refine roV (As := []) (q0 := 0) (ci := 3) hx hb hml hown hts (c_X3_thrown l D cI cZ cL cO am (nI (kHome nw (xs (4 * k + 1)))) n nw ns σ η2 H2 ⟨hB9.1, hB9.2.2.1, hB9.2.2.2⟩) (cwV 0 hts gL_law_X3_thrown rfl rfl rfl (by decide +kernel) ⟨Nat.le_of_ble_eq_true rfl, Nat.le_of_ble_eq_true rfl⟩) hK hE (hP.sub (ws' := wM cI cZ am (nI (kHome nw (xs (4 * k + 1)))) n nw ns σ η2) m13 rfl) rfl rfl rfl rfl hl.1 rfl (Nat.le_of_ble_eq_true rfl) hS dL_law_1094 ⟨by show cells + 8 ≤ 601024; omega, by show slots + 349 ≤ 7293034; omega⟩ (fun locs hS => ?_)
  refine lv_iload hx hb dL_law_1097 (lv_at hl 1 rfl) ?_
  refine lv_icmp_eq (tgt := 1104) hx hb dL_law_1099 (by decide) (fun c1 => ?_) (fun c1 => absurd rfl c1)
  refine lv_iload hx hb dL_law_1104 (lv_at hl 1 rfl) ?_
  refine li_ne0 (tgt := 1121) hx hb dL_law_1106 (by decide) (by have h9 := kHome_le (nw := nw) (x := (xs (4 * k + 1))); omega) (fun c2 => ?_) (fun c2 => ?_)
  · skip
    refine lv_goto (tgt := 1315) hx hb dL_law_1121 (by decide) ?_
    refine w_wide (k := cells + 18) (n := slots + 420) (by omega) (by omega) ?_
    exact kk _ _ _ _ _ _ _ _ _ _ _ _ H2 locs ls hI hL2 (by omega) hP hS (lv_sub hl [2, 3, 4, 5, 6] rfl)
  · skip
    refine lv_aload_n hx hb dL_law_1109 rfl (lv_at hl 6 rfl) ?_
    refine lv_iconst (v := nI 0) hx hb dL_law_1110 rfl ?_
    refine va_lald hx hb hK hP 41 2 rfl rfl (vp_in_nI (by decide) (by decide)) dL_law_1111 ?_
    refine li_topl (show _ = (vHome n pl nw ns σ (xs (4 * k + 1))).toInt64 from by rw [oK_0 c2]; rfl) ?_
    refine lv_iload hx hb dL_law_1112 (lv_at hl 0 rfl) ?_
    refine lv_i2l (v := (vHome n pl nw ns σ (xs (4 * k + 1))).toInt64) hx hb dL_law_1114 rfl ?_
    refine W.lcmp hx hb dL_law_1115 ?_
    refine li_topi (show _ = nI 0 from lg_cmp_rf _) ?_
    refine li_eq0 (tgt := 1121) hx hb dL_law_1116 (by decide) (by decide) (fun c3 => ?_) (fun c3 => absurd rfl c3)
    refine lv_goto (tgt := 1315) hx hb dL_law_1121 (by decide) ?_
    refine w_wide (k := cells + 18) (n := slots + 420) (by omega) (by omega) ?_
    exact kk _ _ _ _ _ _ _ _ _ _ _ _ H2 locs ls hI hL2 (by omega) hP hS (lv_sub hl [2, 3, 4, 5, 6] rfl)
set_option maxHeartbeats 4000000 in
set_option maxRecDepth 100000 in
theorem law_hears {p : Program} {l : Launch} {e : Env} {s : State} {m : MethodId} {below : List Frame} {meth : Method} {c : Code} {b L : Nat} {xs : Nat → Int32} {D : va_G} {cI cZ cL cO : ClassId} {a am : Nat → Nat} {qo : Nat} (C0 : lw_At p s m meth c b L xs) (hlT : l.stackTraces = false) (hK : va_K D vwCl (T4 cI cZ cL cO) s) (hE : lwE s) (hT0 : lwT (LA s) s s.heap) (hO : okP (LA s) (al a am qo) 55) (hL : L ≤ 2048) {k : Nat} (hk : 4 * k + 4 ≤ L) {n pl nw ns t : Nat} {σ κ σ' κ' η : Sg} {th : Int32} {f : Nat → Int64} (hI : INW n pl nw ns t σ) (hLZ : LZ nw ns η) (ht : t ≤ 200 * k) {H : Heap} {locs : List Loc} {ls : Array Slot} {cells slots : Nat} (hc : cells + 18 ≤ 601024) (hs : slots + 420 ≤ 7293034) (hP : va_P D vwCl (wL cI cZ cL a am qo n pl nw ns σ κ σ' κ' f n nw ns σ th η) H) (hS : va_S (LA s) s.heap H locs) (hl : lv_has ls 9 [(4, .int (nI (4 * k))), (0, .ref b), (1, .ref (a 40)), (2, .ref (am 0)), (3, .ref qo)]) (kk : LK p l e s m b below meth c D cI cZ cL a am qo k t cells slots) : W p l e room_1 s m #[Value.ref b] below meth c H locs cells slots (lw_Z below #[Value.ref b] s) (F0 m 1124 ls []) := by
  obtain ⟨hx, hb, hr, hml, hown, hts0, hX, hbl, hlocks, hgv⟩ := C0
  have hown : s.vm.findClass RL = some m.cls := hown
  have hts : ∀ w ∈ wsL_law, w.before #[Value.ref b] s = true := fun w h => hts0 w (wsL_law_in w h)
  have hbA : ¬ LA s b := Nat.not_le.mpr hbl
  have hB := hI.1.1
  have hTH := hT0.kept hS
  have hA2 : ∀ q, A_ (al a am qo) 42 q → LA s q := ak_of (hO.M (by decide))
  refine lv_aload_n hx hb dL_law_1124 rfl (lv_at hl 2 rfl) ?_
  refine lv_aload_n hx hb dL_law_1125 rfl (lv_at hl 1 rfl) ?_
  refine lv_iload hx hb dL_law_1126 (lv_at hl 0 rfl) ?_
  refine lv_iconst (v := nI 1) hx hb dL_law_1128 rfl ?_
  refine lv_iadd hx hb dL_law_1129 ?_
  refine li_topi (nI_add _ _) ?_
  refine li_sld hx hb hX hbl hbA hS (i := 4 * k + 1) (by omega) (by omega) dL_law_1130 ?_
  refine lv_aload_n hx hb dL_law_1131 rfl (lv_at hl 1 rfl) ?_
  refine lv_iload hx hb dL_law_1132 (lv_at hl 0 rfl) ?_
  refine lv_iconst (v := nI 2) hx hb dL_law_1134 rfl ?_
  refine lv_iadd hx hb dL_law_1135 ?_
  refine li_topi (nI_add _ _) ?_
  refine li_sld hx hb hX hbl hbA hS (i := 4 * k + 2) (by omega) (by omega) dL_law_1136 ?_
  refine lv_aload_n hx hb dL_law_1137 rfl (lv_at hl 4 rfl) ?_
  have hPc : va_P D vwCl (wXo cI cZ cL a n pl nw ns σ κ σ' κ' qo f) H := hP.sub i42 rfl
  refine va_calli (vx_runSW (As := [.ref (a 40), .int (xs (4 * k + 1)), .int (xs (4 * k + 2)), .ref qo]) (rest := []) ⟨hx, hb, hml, hown, hts⟩ (c_L_hears l hlT D cI cZ cL cO a n pl nw ns σ κ σ' κ' H qo f (xs (4 * k + 1)) (xs (4 * k + 2)) (A_ (al a am qo) 42) (oka41 hO) hO.ao (okDo hO) hB t hI.1 (by omega)) (vx_cwSW 4 hts gL_law_L_hears rfl rfl rfl (by decide +kernel) ⟨Nat.le_of_ble_eq_true rfl, Nat.le_of_ble_eq_true rfl⟩) ⟨ax_blind, fun U hU hW => ⟨rfl, hU, hPc, va_K.moved hW.alike hK, lwE.warm hW hE, (hTH.warm hW).narrow hA2⟩⟩ rfl rfl hl.1 rfl (lv_room (Nat.le_of_ble_eq_true rfl)) dL_law_1138 ⟨by show cells + 1 ≤ 601024; omega, by show slots + 6 ≤ 7293034; omega⟩) hS (fun q _ h => hA2 q h) hA2 (fun r u t9 H1 locs ht9 hal hr9 hB1 hz1 hk1 hS => ?_)
  replace hr9 : r = nI (kKnow nw ns (xs (4 * k + 1)) (xs (4 * k + 2))) := hr9
  subst hr9
  have hP1 : va_P D vwCl (wXo cI cZ cL a n pl nw ns σ u.1 u.2.1 u.2.2 qo (oK (kKnow nw ns (xs (4 * k + 1)) (xs (4 * k + 2))) (vHears n pl nw ns σ (xs (4 * k + 1)) (xs (4 * k + 2))) f)) H1 := by rw [← ht9]; exact hB1
  replace hP : va_P D vwCl (wL cI cZ cL a am qo n pl nw ns σ u.1 u.2.1 u.2.2 (oK (kKnow nw ns (xs (4 * k + 1)) (xs (4 * k + 2))) (vHears n pl nw ns σ (xs (4 * k + 1)) (xs (4 * k + 2))) f) n nw ns σ th η) H1 := jnH hO hP hP1 hk1
  refine lv_istore (lv' := [(5, .int (nI (kKnow nw ns (xs (4 * k + 1)) (xs (4 * k + 2))))), (4, .int (nI (4 * k))), (0, .ref b), (1, .ref (a 40)), (2, .ref (am 0)), (3, .ref qo)]) hx hb dL_law_1141 hl (by decide) rfl (fun ls hl => ?_)
  refine lv_aload_n hx hb dL_law_1143 rfl (lv_at hl 4 rfl) ?_
  refine lv_aload_n hx hb dL_law_1144 rfl (lv_at hl 2 rfl) ?_
  refine lv_iload hx hb dL_law_1145 (lv_at hl 1 rfl) ?_
  refine lv_iconst (v := nI 1) hx hb dL_law_1147 rfl ?_
  refine lv_iadd hx hb dL_law_1148 ?_
  refine li_topi (nI_add _ _) ?_
  refine li_sld hx hb hX hbl hbA hS (i := 4 * k + 1) (by omega) (by omega) dL_law_1149 ?_
  refine lv_aload_n hx hb dL_law_1150 rfl (lv_at hl 2 rfl) ?_
  refine lv_iload hx hb dL_law_1151 (lv_at hl 1 rfl) ?_
  refine lv_iconst (v := nI 2) hx hb dL_law_1153 rfl ?_
  refine lv_iadd hx hb dL_law_1154 ?_
  refine li_topi (nI_add _ _) ?_
  refine li_sld hx hb hX hbl hbA hS (i := 4 * k + 2) (by omega) (by omega) dL_law_1155 ?_
  have hPm : va_P D vwCl (wM cI cZ am th n nw ns σ η) H1 := hP.sub m13 rfl
  refine mezV (As := [.int (xs (4 * k + 1)), .int (xs (4 * k + 2))]) (q0 := 0) (ci := 3) hx hb hml hown hts (c_X3_hears l D cI cZ cL cO am th n nw ns σ η H1 (xs (4 * k + 1)) (xs (4 * k + 2)) (A_ am 13) (okm13 hO) ⟨hB.1, hB.2.2.1, hB.2.2.2⟩ pl t hI.1 hLZ (by omega)) (cwV 2 hts gL_law_X3_hears rfl rfl rfl (by decide +kernel) ⟨Nat.le_of_ble_eq_true rfl, Nat.le_of_ble_eq_true rfl⟩) hK hE hPm rfl rfl rfl rfl hl.1 rfl (Nat.le_of_ble_eq_true rfl) hS (fun q z => z.elim ((okmA hO) q) (fun y => Nat.le_trans hS.1 y)) dL_law_1156 ⟨by show cells + 1 + 7 ≤ 601024; omega, by show slots + 6 + 343 ≤ 7293034; omega⟩ (fun η2 H2 locs hL2 hPm2 _ hk2 hS => ?_)
  replace hP : va_P D vwCl (wL cI cZ cL a am qo n pl nw ns σ u.1 u.2.1 u.2.2 (oK (kKnow nw ns (xs (4 * k + 1)) (xs (4 * k + 2))) (vHears n pl nw ns σ (xs (4 * k + 1)) (xs (4 * k + 2))) f) n nw ns σ (nI (kKnow nw ns (xs (4 * k + 1)) (xs (4 * k + 2)))) η2) H2 := jnM hO hP hPm2 (AN_M hk2)
  refine lv_istore (lv' := [(6, .int (vHears n pl nw ns σ (xs (4 * k + 1)) (xs (4 * k + 2)))), (5, .int (nI (kKnow nw ns (xs (4 * k + 1)) (xs (4 * k + 2))))), (4, .int (nI (4 * k))), (0, .ref b), (1, .ref (a 40)), (2, .ref (am 0)), (3, .ref qo)]) hx hb dL_law_1159 hl (by decide) rfl (fun ls hl => ?_)
  refine lv_aload_n hx hb dL_law_1161 rfl (lv_at hl 5 rfl) ?_
  have hB9 := hI.1.1
  refine roV (As := []) (q0 := 0) (ci := 3) hx hb hml hown hts (c_X3_thrown l D cI cZ cL cO am (nI (kKnow nw ns (xs (4 * k + 1)) (xs (4 * k + 2)))) n nw ns σ η2 H2 ⟨hB9.1, hB9.2.2.1, hB9.2.2.2⟩) (cwV 0 hts gL_law_X3_thrown rfl rfl rfl (by decide +kernel) ⟨Nat.le_of_ble_eq_true rfl, Nat.le_of_ble_eq_true rfl⟩) hK hE (hP.sub (ws' := wM cI cZ am (nI (kKnow nw ns (xs (4 * k + 1)) (xs (4 * k + 2)))) n nw ns σ η2) m13 rfl) rfl rfl rfl rfl hl.1 rfl (Nat.le_of_ble_eq_true rfl) hS dL_law_1162 ⟨by show cells + 8 ≤ 601024; omega, by show slots + 349 ≤ 7293034; omega⟩ (fun locs hS => ?_)
  refine lv_iload hx hb dL_law_1165 (lv_at hl 1 rfl) ?_
  refine lv_icmp_eq (tgt := 1172) hx hb dL_law_1167 (by decide) (fun c1 => ?_) (fun c1 => absurd rfl c1)
  refine lv_iload hx hb dL_law_1172 (lv_at hl 1 rfl) ?_
  refine li_ne0 (tgt := 1189) hx hb dL_law_1174 (by decide) (by have h9 := kKnow_le (nw := nw) (ns := ns) (x := (xs (4 * k + 1))) (y := (xs (4 * k + 2))); omega) (fun c2 => ?_) (fun c2 => ?_)
  · skip
    refine lv_goto (tgt := 1315) hx hb dL_law_1189 (by decide) ?_
    refine w_wide (k := cells + 18) (n := slots + 420) (by omega) (by omega) ?_
    exact kk _ _ _ _ _ _ _ _ _ _ _ _ H2 locs ls hI hL2 (by omega) hP hS (lv_sub hl [2, 3, 4, 5, 6] rfl)
  · skip
    refine lv_aload_n hx hb dL_law_1177 rfl (lv_at hl 6 rfl) ?_
    refine lv_iconst (v := nI 0) hx hb dL_law_1178 rfl ?_
    refine va_lald hx hb hK hP 41 2 rfl rfl (vp_in_nI (by decide) (by decide)) dL_law_1179 ?_
    refine li_topl (show _ = (vHears n pl nw ns σ (xs (4 * k + 1)) (xs (4 * k + 2))).toInt64 from by rw [oK_0 c2]; rfl) ?_
    refine lv_iload hx hb dL_law_1180 (lv_at hl 0 rfl) ?_
    refine lv_i2l (v := (vHears n pl nw ns σ (xs (4 * k + 1)) (xs (4 * k + 2))).toInt64) hx hb dL_law_1182 rfl ?_
    refine W.lcmp hx hb dL_law_1183 ?_
    refine li_topi (show _ = nI 0 from lg_cmp_rf _) ?_
    refine li_eq0 (tgt := 1189) hx hb dL_law_1184 (by decide) (by decide) (fun c3 => ?_) (fun c3 => absurd rfl c3)
    refine lv_goto (tgt := 1315) hx hb dL_law_1189 (by decide) ?_
    refine w_wide (k := cells + 18) (n := slots + 420) (by omega) (by omega) ?_
    exact kk _ _ _ _ _ _ _ _ _ _ _ _ H2 locs ls hI hL2 (by omega) hP hS (lv_sub hl [2, 3, 4, 5, 6] rfl)
set_option maxHeartbeats 4000000 in
set_option maxRecDepth 100000 in
theorem law_advise {p : Program} {l : Launch} {e : Env} {s : State} {m : MethodId} {below : List Frame} {meth : Method} {c : Code} {b L : Nat} {xs : Nat → Int32} {D : va_G} {cI cZ cL cO : ClassId} {a am : Nat → Nat} {qo : Nat} (C0 : lw_At p s m meth c b L xs) (hlT : l.stackTraces = false) (hK : va_K D vwCl (T4 cI cZ cL cO) s) (hE : lwE s) (hT0 : lwT (LA s) s s.heap) (hO : okP (LA s) (al a am qo) 55) (hL : L ≤ 2048) {k : Nat} (hk : 4 * k + 4 ≤ L) {n pl nw ns t : Nat} {σ κ σ' κ' η : Sg} {th : Int32} {f : Nat → Int64} (hI : INW n pl nw ns t σ) (hLZ : LZ nw ns η) (ht : t ≤ 200 * k) {H : Heap} {locs : List Loc} {ls : Array Slot} {cells slots : Nat} (hc : cells + 18 ≤ 601024) (hs : slots + 420 ≤ 7293034) (hP : va_P D vwCl (wL cI cZ cL a am qo n pl nw ns σ κ σ' κ' f n nw ns σ th η) H) (hS : va_S (LA s) s.heap H locs) (hl : lv_has ls 9 [(4, .int (nI (4 * k))), (0, .ref b), (1, .ref (a 40)), (2, .ref (am 0)), (3, .ref qo)]) (kk : LK p l e s m b below meth c D cI cZ cL a am qo k t cells slots) : W p l e room_1 s m #[Value.ref b] below meth c H locs cells slots (lw_Z below #[Value.ref b] s) (F0 m 1192 ls []) := by
  obtain ⟨hx, hb, hr, hml, hown, hts0, hX, hbl, hlocks, hgv⟩ := C0
  have hown : s.vm.findClass RL = some m.cls := hown
  have hts : ∀ w ∈ wsL_law, w.before #[Value.ref b] s = true := fun w h => hts0 w (wsL_law_in w h)
  have hbA : ¬ LA s b := Nat.not_le.mpr hbl
  have hB := hI.1.1
  have hTH := hT0.kept hS
  have hA2 : ∀ q, A_ (al a am qo) 42 q → LA s q := ak_of (hO.M (by decide))
  refine lv_aload_n hx hb dL_law_1192 rfl (lv_at hl 2 rfl) ?_
  refine lv_aload_n hx hb dL_law_1193 rfl (lv_at hl 1 rfl) ?_
  refine lv_iload hx hb dL_law_1194 (lv_at hl 0 rfl) ?_
  refine lv_iconst (v := nI 1) hx hb dL_law_1196 rfl ?_
  refine lv_iadd hx hb dL_law_1197 ?_
  refine li_topi (nI_add _ _) ?_
  refine li_sld hx hb hX hbl hbA hS (i := 4 * k + 1) (by omega) (by omega) dL_law_1198 ?_
  refine lv_aload_n hx hb dL_law_1199 rfl (lv_at hl 1 rfl) ?_
  refine lv_iload hx hb dL_law_1200 (lv_at hl 0 rfl) ?_
  refine lv_iconst (v := nI 2) hx hb dL_law_1202 rfl ?_
  refine lv_iadd hx hb dL_law_1203 ?_
  refine li_topi (nI_add _ _) ?_
  refine li_sld hx hb hX hbl hbA hS (i := 4 * k + 2) (by omega) (by omega) dL_law_1204 ?_
  refine lv_aload_n hx hb dL_law_1205 rfl (lv_at hl 4 rfl) ?_
  have hPc : va_P D vwCl (wXo cI cZ cL a n pl nw ns σ κ σ' κ' qo f) H := hP.sub i42 rfl
  refine va_calli (vx_runSW (As := [.ref (a 40), .int (xs (4 * k + 1)), .int (xs (4 * k + 2)), .ref qo]) (rest := []) ⟨hx, hb, hml, hown, hts⟩ (c_L_advise l hlT D cI cZ cL cO a n pl nw ns σ κ σ' κ' H qo f (xs (4 * k + 1)) (xs (4 * k + 2)) (A_ (al a am qo) 42) (oka41 hO) hO.ao (okDo hO) hB t hI.1 (by omega)) (vx_cwSW 4 hts gL_law_L_advise rfl rfl rfl (by decide +kernel) ⟨Nat.le_of_ble_eq_true rfl, Nat.le_of_ble_eq_true rfl⟩) ⟨ax_blind, fun U hU hW => ⟨rfl, hU, hPc, va_K.moved hW.alike hK, lwE.warm hW hE, (hTH.warm hW).narrow hA2⟩⟩ rfl rfl hl.1 rfl (lv_room (Nat.le_of_ble_eq_true rfl)) dL_law_1206 ⟨by show cells + 1 ≤ 601024; omega, by show slots + 6 ≤ 7293034; omega⟩) hS (fun q _ h => hA2 q h) hA2 (fun r u t9 H1 locs ht9 hal hr9 hB1 hz1 hk1 hS => ?_)
  replace hr9 : r = nI (kAdv n (xs (4 * k + 1)) (xs (4 * k + 2))) := hr9
  subst hr9
  have hP1 : va_P D vwCl (wXo cI cZ cL a n pl nw ns σ u.1 u.2.1 u.2.2 qo (oK (kAdv n (xs (4 * k + 1)) (xs (4 * k + 2))) (vAdv n pl nw ns σ (xs (4 * k + 1)) (xs (4 * k + 2))) f)) H1 := by rw [← ht9]; exact hB1
  replace hP : va_P D vwCl (wL cI cZ cL a am qo n pl nw ns σ u.1 u.2.1 u.2.2 (oK (kAdv n (xs (4 * k + 1)) (xs (4 * k + 2))) (vAdv n pl nw ns σ (xs (4 * k + 1)) (xs (4 * k + 2))) f) n nw ns σ th η) H1 := jnH hO hP hP1 hk1
  refine lv_istore (lv' := [(5, .int (nI (kAdv n (xs (4 * k + 1)) (xs (4 * k + 2))))), (4, .int (nI (4 * k))), (0, .ref b), (1, .ref (a 40)), (2, .ref (am 0)), (3, .ref qo)]) hx hb dL_law_1209 hl (by decide) rfl (fun ls hl => ?_)
  refine lv_aload_n hx hb dL_law_1211 rfl (lv_at hl 4 rfl) ?_
  refine lv_aload_n hx hb dL_law_1212 rfl (lv_at hl 2 rfl) ?_
  refine lv_iload hx hb dL_law_1213 (lv_at hl 1 rfl) ?_
  refine lv_iconst (v := nI 1) hx hb dL_law_1215 rfl ?_
  refine lv_iadd hx hb dL_law_1216 ?_
  refine li_topi (nI_add _ _) ?_
  refine li_sld hx hb hX hbl hbA hS (i := 4 * k + 1) (by omega) (by omega) dL_law_1217 ?_
  refine lv_aload_n hx hb dL_law_1218 rfl (lv_at hl 2 rfl) ?_
  refine lv_iload hx hb dL_law_1219 (lv_at hl 1 rfl) ?_
  refine lv_iconst (v := nI 2) hx hb dL_law_1221 rfl ?_
  refine lv_iadd hx hb dL_law_1222 ?_
  refine li_topi (nI_add _ _) ?_
  refine li_sld hx hb hX hbl hbA hS (i := 4 * k + 2) (by omega) (by omega) dL_law_1223 ?_
  have hPm : va_P D vwCl (wM cI cZ am th n nw ns σ η) H1 := hP.sub m13 rfl
  refine mezV (As := [.int (xs (4 * k + 1)), .int (xs (4 * k + 2))]) (q0 := 0) (ci := 3) hx hb hml hown hts (c_X3_advise l D cI cZ cL cO am th n nw ns σ η H1 (xs (4 * k + 1)) (xs (4 * k + 2)) (A_ am 13) (okm13 hO) ⟨hB.1, hB.2.2.1, hB.2.2.2⟩ pl t hI.1 hLZ (by omega)) (cwV 2 hts gL_law_X3_advise rfl rfl rfl (by decide +kernel) ⟨Nat.le_of_ble_eq_true rfl, Nat.le_of_ble_eq_true rfl⟩) hK hE hPm rfl rfl rfl rfl hl.1 rfl (Nat.le_of_ble_eq_true rfl) hS (fun q z => z.elim ((okmA hO) q) (fun y => Nat.le_trans hS.1 y)) dL_law_1224 ⟨by show cells + 1 + 17 ≤ 601024; omega, by show slots + 6 + 393 ≤ 7293034; omega⟩ (fun η2 H2 locs hL2 hPm2 _ hk2 hS => ?_)
  replace hP : va_P D vwCl (wL cI cZ cL a am qo n pl nw ns σ u.1 u.2.1 u.2.2 (oK (kAdv n (xs (4 * k + 1)) (xs (4 * k + 2))) (vAdv n pl nw ns σ (xs (4 * k + 1)) (xs (4 * k + 2))) f) n nw ns σ (nI (kAdv n (xs (4 * k + 1)) (xs (4 * k + 2)))) η2) H2 := jnM hO hP hPm2 (AN_M hk2)
  refine lv_istore (lv' := [(6, .int (vAdv n pl nw ns σ (xs (4 * k + 1)) (xs (4 * k + 2)))), (5, .int (nI (kAdv n (xs (4 * k + 1)) (xs (4 * k + 2))))), (4, .int (nI (4 * k))), (0, .ref b), (1, .ref (a 40)), (2, .ref (am 0)), (3, .ref qo)]) hx hb dL_law_1227 hl (by decide) rfl (fun ls hl => ?_)
  refine lv_aload_n hx hb dL_law_1229 rfl (lv_at hl 5 rfl) ?_
  have hB9 := hI.1.1
  refine roV (As := []) (q0 := 0) (ci := 3) hx hb hml hown hts (c_X3_thrown l D cI cZ cL cO am (nI (kAdv n (xs (4 * k + 1)) (xs (4 * k + 2)))) n nw ns σ η2 H2 ⟨hB9.1, hB9.2.2.1, hB9.2.2.2⟩) (cwV 0 hts gL_law_X3_thrown rfl rfl rfl (by decide +kernel) ⟨Nat.le_of_ble_eq_true rfl, Nat.le_of_ble_eq_true rfl⟩) hK hE (hP.sub (ws' := wM cI cZ am (nI (kAdv n (xs (4 * k + 1)) (xs (4 * k + 2)))) n nw ns σ η2) m13 rfl) rfl rfl rfl rfl hl.1 rfl (Nat.le_of_ble_eq_true rfl) hS dL_law_1230 ⟨by show cells + 18 ≤ 601024; omega, by show slots + 399 ≤ 7293034; omega⟩ (fun locs hS => ?_)
  refine lv_iload hx hb dL_law_1233 (lv_at hl 1 rfl) ?_
  refine lv_icmp_eq (tgt := 1240) hx hb dL_law_1235 (by decide) (fun c1 => ?_) (fun c1 => absurd rfl c1)
  refine lv_iload hx hb dL_law_1240 (lv_at hl 1 rfl) ?_
  refine li_ne0 (tgt := 1257) hx hb dL_law_1242 (by decide) (by have h9 := kAdv_le (n := n) (x := (xs (4 * k + 1))) (y := (xs (4 * k + 2))); omega) (fun c2 => ?_) (fun c2 => ?_)
  · skip
    refine lv_goto (tgt := 1315) hx hb dL_law_1257 (by decide) ?_
    refine w_wide (k := cells + 18) (n := slots + 420) (by omega) (by omega) ?_
    exact kk _ _ _ _ _ _ _ _ _ _ _ _ H2 locs ls hI hL2 (by omega) hP hS (lv_sub hl [2, 3, 4, 5, 6] rfl)
  · skip
    refine lv_aload_n hx hb dL_law_1245 rfl (lv_at hl 6 rfl) ?_
    refine lv_iconst (v := nI 0) hx hb dL_law_1246 rfl ?_
    refine va_lald hx hb hK hP 41 2 rfl rfl (vp_in_nI (by decide) (by decide)) dL_law_1247 ?_
    refine li_topl (show _ = (vAdv n pl nw ns σ (xs (4 * k + 1)) (xs (4 * k + 2))).toInt64 from by rw [oK_0 c2]; rfl) ?_
    refine lv_iload hx hb dL_law_1248 (lv_at hl 0 rfl) ?_
    refine lv_i2l (v := (vAdv n pl nw ns σ (xs (4 * k + 1)) (xs (4 * k + 2))).toInt64) hx hb dL_law_1250 rfl ?_
    refine W.lcmp hx hb dL_law_1251 ?_
    refine li_topi (show _ = nI 0 from lg_cmp_rf _) ?_
    refine li_eq0 (tgt := 1257) hx hb dL_law_1252 (by decide) (by decide) (fun c3 => ?_) (fun c3 => absurd rfl c3)
    refine lv_goto (tgt := 1315) hx hb dL_law_1257 (by decide) ?_
    refine w_wide (k := cells + 18) (n := slots + 420) (by omega) (by omega) ?_
    exact kk _ _ _ _ _ _ _ _ _ _ _ _ H2 locs ls hI hL2 (by omega) hP hS (lv_sub hl [2, 3, 4, 5, 6] rfl)
set_option maxHeartbeats 4000000 in
set_option maxRecDepth 100000 in
theorem law_light {p : Program} {l : Launch} {e : Env} {s : State} {m : MethodId} {below : List Frame} {meth : Method} {c : Code} {b L : Nat} {xs : Nat → Int32} {D : va_G} {cI cZ cL cO : ClassId} {a am : Nat → Nat} {qo : Nat} (C0 : lw_At p s m meth c b L xs) (hlT : l.stackTraces = false) (hK : va_K D vwCl (T4 cI cZ cL cO) s) (hE : lwE s) (hT0 : lwT (LA s) s s.heap) (hO : okP (LA s) (al a am qo) 55) (hL : L ≤ 2048) {k : Nat} (hk : 4 * k + 4 ≤ L) {n pl nw ns t : Nat} {σ κ σ' κ' η : Sg} {th : Int32} {f : Nat → Int64} (hI : INW n pl nw ns t σ) (hLZ : LZ nw ns η) (ht : t ≤ 200 * k) {H : Heap} {locs : List Loc} {ls : Array Slot} {cells slots : Nat} (hc : cells + 18 ≤ 601024) (hs : slots + 420 ≤ 7293034) (hP : va_P D vwCl (wL cI cZ cL a am qo n pl nw ns σ κ σ' κ' f n nw ns σ th η) H) (hS : va_S (LA s) s.heap H locs) (hl : lv_has ls 9 [(4, .int (nI (4 * k))), (0, .ref b), (1, .ref (a 40)), (2, .ref (am 0)), (3, .ref qo)]) (kk : LK p l e s m b below meth c D cI cZ cL a am qo k t cells slots) : W p l e room_1 s m #[Value.ref b] below meth c H locs cells slots (lw_Z below #[Value.ref b] s) (F0 m 1260 ls []) := by
  obtain ⟨hx, hb, hr, hml, hown, hts0, hX, hbl, hlocks, hgv⟩ := C0
  have hown : s.vm.findClass RL = some m.cls := hown
  have hts : ∀ w ∈ wsL_law, w.before #[Value.ref b] s = true := fun w h => hts0 w (wsL_law_in w h)
  have hbA : ¬ LA s b := Nat.not_le.mpr hbl
  have hB := hI.1.1
  have hTH := hT0.kept hS
  have hA2 : ∀ q, A_ (al a am qo) 42 q → LA s q := ak_of (hO.M (by decide))
  refine lv_aload_n hx hb dL_law_1260 rfl (lv_at hl 2 rfl) ?_
  have hPc : va_P D vwCl (wX cI cZ a n pl nw ns σ κ σ' κ') H := hP.sub i41 rfl
  refine mdV (As := []) (q0 := 40) (ci := 2) hx hb hml hown hts (c_X2_light l D cI cZ cL cO a n pl nw ns σ κ σ' κ' H (A_ a 41) (oka41' hO) hB) (cwV 0 hts gL_law_X2_light rfl rfl rfl (by decide +kernel) ⟨Nat.le_of_ble_eq_true rfl, Nat.le_of_ble_eq_true rfl⟩) hK hE hPc rfl rfl rfl rfl hl.1 rfl (Nat.le_of_ble_eq_true rfl) hS (okaA hO) dL_law_1261 ⟨by show cells ≤ 601024; omega, by show slots ≤ 7293034; omega⟩ (fun H1 locs hP1 _ hk1 hS => ?_)
  have hPo : va_at D vwCl (qo, .inl (cL, 1, .inr (.inl f))) H := hP 41 _ rfl
  replace hP : va_P D vwCl (wL cI cZ cL a am qo n pl nw ns σ κ σ' κ' f n nw ns σ th η) H1 := jnH hO hP (jnO hO.ao hPo hP1 hk1) (fun q h1 h2 => hk1 q h1 (fun z => h2 (okaal q z)))
  refine lv_dstore (lv' := [(5, .double (liV nw σ)), (4, .int (nI (4 * k))), (0, .ref b), (1, .ref (a 40)), (2, .ref (am 0)), (3, .ref qo)]) hx hb dL_law_1264 hl (by decide) rfl (fun ls hl => ?_)
  refine lv_aload_n hx hb dL_law_1266 rfl (lv_at hl 4 rfl) ?_
  refine mdV (As := []) (q0 := 0) (ci := 3) hx hb hml hown hts (c_X3_light l D cI cZ cL cO am th n nw ns σ η H1 (A_ am 13) (okm13 hO) ⟨hB.1, hB.2.2.1, hB.2.2.2⟩ hI.1.2.1.1) (cwV 0 hts gL_law_X3_light rfl rfl rfl (by decide +kernel) ⟨Nat.le_of_ble_eq_true rfl, Nat.le_of_ble_eq_true rfl⟩) hK hE (hP.sub (ws' := wM cI cZ am th n nw ns σ η) m13 rfl) rfl rfl rfl rfl hl.1 rfl (Nat.le_of_ble_eq_true rfl) hS (okmA hO) dL_law_1267 ⟨by show cells ≤ 601024; omega, by show slots ≤ 7293034; omega⟩ (fun H2 locs hPm2 _ hk2 hS => ?_)
  replace hP : va_P D vwCl (wL cI cZ cL a am qo n pl nw ns σ κ σ' κ' f n nw ns σ (nI 0) η) H2 := jnM hO hP hPm2 hk2
  refine lv_dstore (lv' := [(7, .double (liV nw σ)), (5, .double (liV nw σ)), (4, .int (nI (4 * k))), (0, .ref b), (1, .ref (a 40)), (2, .ref (am 0)), (3, .ref qo)]) hx hb dL_law_1270 hl (by decide) rfl (fun ls hl => ?_)
  refine lv_dload hx hb dL_law_1272 (lv_at hl 1 rfl) ?_
  refine lv_dload hx hb dL_law_1274 (lv_at hl 0 rfl) ?_
  refine lv_dcmp hx hb dL_law_1276 ?_
  refine li_topi (show _ = nI 0 from dc_li hB.2.2.1) ?_
  refine li_eq0 (tgt := 1298) hx hb dL_law_1277 (by decide) (by decide) (fun c3 => ?_) (fun c3 => absurd rfl c3)
  refine lv_goto (tgt := 1315) hx hb dL_law_1298 (by decide) ?_
  refine w_wide (k := cells + 18) (n := slots + 420) (by omega) (by omega) ?_
  exact kk _ _ _ _ _ _ _ _ _ _ _ _ H2 locs ls hI hLZ (by omega) hP hS (lv_sub hl [2, 3, 4, 5, 6] rfl)
set_option maxHeartbeats 4000000 in
set_option maxRecDepth 100000 in
theorem law_digest {p : Program} {l : Launch} {e : Env} {s : State} {m : MethodId} {below : List Frame} {meth : Method} {c : Code} {b L : Nat} {xs : Nat → Int32} {D : va_G} {cI cZ cL cO : ClassId} {a am : Nat → Nat} {qo : Nat} (C0 : lw_At p s m meth c b L xs) (hlT : l.stackTraces = false) (hK : va_K D vwCl (T4 cI cZ cL cO) s) (hE : lwE s) (hT0 : lwT (LA s) s s.heap) (hO : okP (LA s) (al a am qo) 55) (hL : L ≤ 2048) {k : Nat} (hk : 4 * k + 4 ≤ L) {n pl nw ns t : Nat} {σ κ σ' κ' η : Sg} {th : Int32} {f : Nat → Int64} (hI : INW n pl nw ns t σ) (hLZ : LZ nw ns η) (ht : t ≤ 200 * k) {H : Heap} {locs : List Loc} {ls : Array Slot} {cells slots : Nat} (hc : cells + 18 ≤ 601024) (hs : slots + 420 ≤ 7293034) (hP : va_P D vwCl (wL cI cZ cL a am qo n pl nw ns σ κ σ' κ' f n nw ns σ th η) H) (hS : va_S (LA s) s.heap H locs) (hl : lv_has ls 9 [(4, .int (nI (4 * k))), (0, .ref b), (1, .ref (a 40)), (2, .ref (am 0)), (3, .ref qo)]) (kk : LK p l e s m b below meth c D cI cZ cL a am qo k t cells slots) : W p l e room_1 s m #[Value.ref b] below meth c H locs cells slots (lw_Z below #[Value.ref b] s) (F0 m 1301 ls []) := by
  obtain ⟨hx, hb, hr, hml, hown, hts0, hX, hbl, hlocks, hgv⟩ := C0
  have hown : s.vm.findClass RL = some m.cls := hown
  have hts : ∀ w ∈ wsL_law, w.before #[Value.ref b] s = true := fun w h => hts0 w (wsL_law_in w h)
  have hbA : ¬ LA s b := Nat.not_le.mpr hbl
  have hB := hI.1.1
  have hTH := hT0.kept hS
  have hA2 : ∀ q, A_ (al a am qo) 42 q → LA s q := ak_of (hO.M (by decide))
  refine lv_aload_n hx hb dL_law_1301 rfl (lv_at hl 2 rfl) ?_
  have hPc : va_P D vwCl (wX cI cZ a n pl nw ns σ κ σ' κ') H := hP.sub i41 rfl
  refine rlV (As := []) (q0 := 40) (ci := 2) hx hb hml hown hts (c_X2_digest l D cI cZ cL cO a n pl nw ns σ κ σ' κ' H hB hI.1.2.1.1) (cwV 0 hts gL_law_X2_digest rfl rfl rfl (by decide +kernel) ⟨Nat.le_of_ble_eq_true rfl, Nat.le_of_ble_eq_true rfl⟩) hK hE hPc rfl rfl rfl rfl hl.1 rfl (Nat.le_of_ble_eq_true rfl) hS dL_law_1302 ⟨by show cells ≤ 601024; omega, by show slots ≤ 7293034; omega⟩ (fun locs hS => ?_)
  refine lv_aload_n hx hb dL_law_1305 rfl (lv_at hl 3 rfl) ?_
  refine mlV (As := []) (q0 := 0) (ci := 3) hx hb hml hown hts (c_X3_digest l D cI cZ cL cO am th n nw ns σ η H (A_ am 13) (okm13 hO) ⟨hB.1, hB.2.2.1, hB.2.2.2⟩ pl hB.2.1 hI.1.2.1.1 hI.1.2.2.2.1 hI.1.2.2.2.2.1) (cwV 0 hts gL_law_X3_digest rfl rfl rfl (by decide +kernel) ⟨Nat.le_of_ble_eq_true rfl, Nat.le_of_ble_eq_true rfl⟩) hK hE (hP.sub (ws' := wM cI cZ am th n nw ns σ η) m13 rfl) rfl rfl rfl rfl hl.1 rfl (Nat.le_of_ble_eq_true rfl) hS (okmA hO) dL_law_1306 ⟨by show cells ≤ 601024; omega, by show slots ≤ 7293034; omega⟩ (fun H2 locs hPm2 _ hk2 hS => ?_)
  replace hP : va_P D vwCl (wL cI cZ cL a am qo n pl nw ns σ κ σ' κ' f n nw ns σ (nI 0) η) H2 := jnM hO hP hPm2 hk2
  refine W.lcmp hx hb dL_law_1309 ?_
  refine li_topi (show _ = nI 0 from lg_cmp_rf _) ?_
  refine li_eq0 (tgt := 1315) hx hb dL_law_1310 (by decide) (by decide) (fun c3 => ?_) (fun c3 => absurd rfl c3)
  refine w_wide (k := cells + 18) (n := slots + 420) (by omega) (by omega) ?_
  exact kk _ _ _ _ _ _ _ _ _ _ _ _ H2 locs ls hI hLZ (by omega) hP hS (lv_sub hl [0, 1, 2, 3, 4] rfl)
