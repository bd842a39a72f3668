/-! THE LAW'S LOOP -/
theorem and31 (v : Int32) : ∃ j : Nat, j < 32 ∧ v &&& nI 31 = nI j := by
  refine ⟨(v &&& nI 31).toBitVec.toNat, ?_, ?_⟩
  · have h : (v &&& nI 31).toBitVec.toNat ≤ 31 := by
      rw [Int32.toBitVec_and, BitVec.toNat_and]
      exact Nat.and_le_right
    omega
  · apply Int32.toBitVec_inj.mp
    show _ = BitVec.ofNat 32 _
    rw [BitVec.ofNat_toNat, BitVec.setWidth_eq]
theorem law_le {L i : Nat} (hL : L ≤ 2048) (hi : i ≤ 4096) (h : ¬ nI L - nI 4 < nI i) : i + 4 ≤ L := by
  have zL := nI_toInt (n := L) (by omega)
  have zi := nI_toInt (n := i) (by omega)
  have z4 : (nI 4).toInt = 4 := by decide
  rw [Int32.lt_iff_toInt_lt, zi, Int32.toInt_sub, zL, z4, Int.bmod_eq_of_le (by omega) (by omega)] at h
  omega
set_option maxHeartbeats 4000000 in
set_option maxRecDepth 100000 in
theorem law_loop {p : Program} {l : Launch} {e : Env} {s : State} {m : MethodId} {below : List Frame} {meth : Method} {c : Code} {b L : Nat} {xs : Nat → Int32} {D : va_G} {cI cZ cL cO : ClassId} {a am : Nat → Nat} {qo : Nat} (C0 : lw_At p s m meth c b L xs) (hlT : l.stackTraces = false) (hK : va_K D vwCl (T4 cI cZ cL cO) s) (hE : lwE s) (hT0 : lwT (LA s) s s.heap) (hO : okP (LA s) (al a am qo) 55) (hL : L ≤ 2048) :
    ∀ (r k : Nat), L + 4 ≤ 4 * k + 4 * r → 4 * k ≤ L + 4 → ∀ (n pl nw ns t : Nat) (σ κ σ' κ' η : Sg) (th : Int32) (f : Nat → Int64) (H : Heap) (locs : List Loc) (ls : Array Slot), INW n pl nw ns t σ → LZ nw ns η → t ≤ 200 * k → va_P D vwCl (wL cI cZ cL a am qo n pl nw ns σ κ σ' κ' f n nw ns σ th η) H → va_S (LA s) s.heap H locs → lv_has ls 9 [(4, .int (nI (4 * k))), (0, .ref b), (1, .ref (a 40)), (2, .ref (am 0)), (3, .ref qo)] →
      W p l e room_1 s m #[Value.ref b] below meth c H locs (100 + 18 * k) (3000 + 420 * k) (lw_Z below #[Value.ref b] s) (F0 m 23 ls []) := by
  obtain ⟨hx, hb, hr, hml, hown, hts0, hX, hbl, hlocks, hgv⟩ := id C0
  have hbA : ¬ LA s b := Nat.not_le.mpr hbl
  intro r
  induction r with
  | zero =>
    intro k h1 h2 n pl nw ns t σ κ σ' κ' η th f H locs ls hI hLZ ht hP hS hl
    refine lv_iload hx hb dL_law_23 (lv_at hl 0 rfl) ?_
    refine lv_aload_n hx hb dL_law_25 rfl (lv_at hl 1 rfl) ?_
    refine va_slen hx hb hX hbl hbA hS dL_law_26 ?_
    refine lv_iconst (v := nI 4) hx hb dL_law_27 rfl ?_
    refine lv_isub hx hb dL_law_28 ?_
    refine lv_icmp_gt (tgt := 1321) hx hb dL_law_29 (by decide) (fun c1 => ?_) (fun c1 => ?_)
    · refine lv_iconst (v := 1) hx hb dL_law_1321 (by decide) ?_
      refine va_forget (fun q hq => hS.2.2 q hq) ?_
      refine w_wide (k := 601024) (n := 7293034) (by omega) (by omega) ?_
      exact lw_ret (d0 := s.drawn) (Drawn.sameBut.refl s.drawn lw_cs) hx hb hr hlocks dL_law_1322
    · have := law_le hL (by omega) c1
      omega
  | succ r ih =>
    intro k h1 h2 n pl nw ns t σ κ σ' κ' η th f H locs ls hI hLZ ht hP hS hl
    refine lv_iload hx hb dL_law_23 (lv_at hl 0 rfl) ?_
    refine lv_aload_n hx hb dL_law_25 rfl (lv_at hl 1 rfl) ?_
    refine va_slen hx hb hX hbl hbA hS dL_law_26 ?_
    refine lv_iconst (v := nI 4) hx hb dL_law_27 rfl ?_
    refine lv_isub hx hb dL_law_28 ?_
    refine lv_icmp_gt (tgt := 1321) hx hb dL_law_29 (by decide) (fun c1 => ?_) (fun c1 => ?_)
    · refine lv_iconst (v := 1) hx hb dL_law_1321 (by decide) ?_
      refine va_forget (fun q hq => hS.2.2 q hq) ?_
      refine w_wide (k := 601024) (n := 7293034) (by omega) (by omega) ?_
      exact lw_ret (d0 := s.drawn) (Drawn.sameBut.refl s.drawn lw_cs) hx hb hr hlocks dL_law_1322
    · have hk : 4 * k + 4 ≤ L := law_le hL (by omega) c1
      have kk : LK p l e s m b below meth c D cI cZ cL a am qo k t (100 + 18 * k) (3000 + 420 * k) := by
        intro n' pl' nw' ns' t' σ1 κ1 s1 k1 η1 th1 f1 H1 locs1 ls1 hI1 hLZ1 ht1 hP1 hS1 hl1
        refine lv_iinc (v := nI (4 * (k + 1))) (lv' := [(4, .int (nI (4 * (k + 1)))), (0, .ref b), (1, .ref (a 40)), (2, .ref (am 0)), (3, .ref qo)]) hx hb dL_law_1315 hl1 (k := 0) rfl (nI_inc _ 4) (by decide) rfl (fun ls2 hl2 => ?_)
        refine lv_goto (tgt := 23) hx hb dL_law_1318 (by decide) ?_
        refine w_wide (k := 100 + 18 * (k + 1)) (n := 3000 + 420 * (k + 1)) (by omega) (by omega) ?_
        exact ih (k + 1) (by omega) (by omega) n' pl' nw' ns' t' σ1 κ1 s1 k1 η1 th1 f1 H1 locs1 ls2 hI1 hLZ1 (by omega) hP1 hS1 hl2
      have hc : 100 + 18 * k + 18 ≤ 601024 := by omega
      have hs : 3000 + 420 * k + 420 ≤ 7293034 := by omega
      refine lv_aload_n hx hb dL_law_32 rfl (lv_at hl 1 rfl) ?_
      refine lv_iload hx hb dL_law_33 (lv_at hl 0 rfl) ?_
      refine li_sld hx hb hX hbl hbA hS (i := 4 * k) (by omega) (by omega) dL_law_35 ?_
      refine lv_bipush (v := nI 31) hx hb dL_law_36 rfl ?_
      refine lv_iand hx hb dL_law_38 ?_
      obtain ⟨j, hj, ej⟩ := and31 (xs (4 * k))
      refine li_topi ej ?_
      rcases (show j = 0 ∨ j = 1 ∨ j = 2 ∨ j = 3 ∨ j = 4 ∨ j = 5 ∨ j = 6 ∨ j = 7 ∨ j = 8 ∨ j = 9 ∨ j = 10 ∨ j = 11 ∨ j = 12 ∨ j = 13 ∨ j = 14 ∨ j = 15 ∨ j = 16 ∨ j = 17 ∨ j = 18 ∨ 19 ≤ j by omega) with rfl | rfl | rfl | rfl | rfl | rfl | rfl | rfl | rfl | rfl | rfl | rfl | rfl | rfl | rfl | rfl | rfl | rfl | rfl | hj9
      · refine lv_tableIn (off := 89) (tgt := 128) hx hb dL_law_39 (by decide) (by decide) rfl (by decide) ?_
        exact law_addStretch C0 hlT hK hE hT0 hO hL hk hI hLZ ht hc hs hP hS hl kk
      · refine lv_tableIn (off := 157) (tgt := 196) hx hb dL_law_39 (by decide) (by decide) rfl (by decide) ?_
        exact law_post C0 hlT hK hE hT0 hO hL hk hI hLZ ht hc hs hP hS hl kk
      · refine lv_tableIn (off := 225) (tgt := 264) hx hb dL_law_39 (by decide) (by decide) rfl (by decide) ?_
        exact law_setWind C0 hlT hK hE hT0 hO hL hk hI hLZ ht hc hs hP hS hl kk
      · refine lv_tableIn (off := 293) (tgt := 332) hx hb dL_law_39 (by decide) (by decide) rfl (by decide) ?_
        exact law_come C0 hlT hK hE hT0 hO hL hk hI hLZ ht hc hs hP hS hl kk
      · refine lv_tableIn (off := 373) (tgt := 412) hx hb dL_law_39 (by decide) (by decide) rfl (by decide) ?_
        exact law_trim C0 hlT hK hE hT0 hO hL hk hI hLZ ht hc hs hP hS hl kk
      · refine lv_tableIn (off := 441) (tgt := 480) hx hb dL_law_39 (by decide) (by decide) rfl (by decide) ?_
        exact law_addSong C0 hlT hK hE hT0 hO hL hk hI hLZ ht hc hs hP hS hl kk
      · refine lv_tableIn (off := 497) (tgt := 536) hx hb dL_law_39 (by decide) (by decide) rfl (by decide) ?_
        exact law_teach C0 hlT hK hE hT0 hO hL hk hI hLZ ht hc hs hP hS hl kk
      · refine lv_tableIn (off := 577) (tgt := 616) hx hb dL_law_39 (by decide) (by decide) rfl (by decide) ?_
        exact law_stretch C0 hlT hK hE hT0 hO hL hk hI hLZ ht hc hs hP hS hl kk
      · refine lv_tableIn (off := 645) (tgt := 684) hx hb dL_law_39 (by decide) (by decide) rfl (by decide) ?_
        exact law_walker C0 hlT hK hE hT0 hO hL hk hI hLZ ht hc hs hP hS hl kk
      · refine lv_tableIn (off := 713) (tgt := 752) hx hb dL_law_39 (by decide) (by decide) rfl (by decide) ?_
        exact law_knows C0 hlT hK hE hT0 hO hL hk hI hLZ ht hc hs hP hS hl kk
      · refine lv_tableIn (off := 781) (tgt := 820) hx hb dL_law_39 (by decide) (by decide) rfl (by decide) ?_
        exact law_song C0 hlT hK hE hT0 hO hL hk hI hLZ ht hc hs hP hS hl kk
      · refine lv_tableIn (off := 849) (tgt := 888) hx hb dL_law_39 (by decide) (by decide) rfl (by decide) ?_
        exact law_pass C0 hlT hK hE hT0 hO hL hk hI hLZ ht hc hs hP hS hl kk
      · refine lv_tableIn (off := 905) (tgt := 944) hx hb dL_law_39 (by decide) (by decide) rfl (by decide) ?_
        exact law_count C0 hlT hK hE hT0 hO hL hk hI hLZ ht hc hs hP hS hl kk
      · refine lv_tableIn (off := 961) (tgt := 1000) hx hb dL_law_39 (by decide) (by decide) rfl (by decide) ?_
        exact law_foresee C0 hlT hK hE hT0 hO hL hk hI hLZ ht hc hs hP hS hl kk
      · refine lv_tableIn (off := 1029) (tgt := 1068) hx hb dL_law_39 (by decide) (by decide) rfl (by decide) ?_
        exact law_home C0 hlT hK hE hT0 hO hL hk hI hLZ ht hc hs hP hS hl kk
      · refine lv_tableIn (off := 1085) (tgt := 1124) hx hb dL_law_39 (by decide) (by decide) rfl (by decide) ?_
        exact law_hears C0 hlT hK hE hT0 hO hL hk hI hLZ ht hc hs hP hS hl kk
      · refine lv_tableIn (off := 1153) (tgt := 1192) hx hb dL_law_39 (by decide) (by decide) rfl (by decide) ?_
        exact law_advise C0 hlT hK hE hT0 hO hL hk hI hLZ ht hc hs hP hS hl kk
      · refine lv_tableIn (off := 1221) (tgt := 1260) hx hb dL_law_39 (by decide) (by decide) rfl (by decide) ?_
        exact law_light C0 hlT hK hE hT0 hO hL hk hI hLZ ht hc hs hP hS hl kk
      · refine lv_tableIn (off := 1262) (tgt := 1301) hx hb dL_law_39 (by decide) (by decide) rfl (by decide) ?_
        exact law_digest C0 hlT hK hE hT0 hO hL hk hI hLZ ht hc hs hP hS hl kk
      · refine lv_tableOut (tgt := 1315) hx hb dL_law_39 (Or.inr (by rw [nI_toInt (by omega)]; omega)) (by decide) ?_
        refine w_wide (k := 100 + 18 * k + 18) (n := 3000 + 420 * k + 420) (by omega) (by omega) ?_
        exact kk n pl nw ns t σ κ σ' κ' η th f H locs ls hI hLZ (by omega) hP hS hl
