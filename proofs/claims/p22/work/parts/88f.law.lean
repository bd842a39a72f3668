/-! the law, a piece of its walk -/
set_option maxHeartbeats 40000000 in
set_option maxRecDepth 100000 in
theorem law_767 {p : Program} {e : Env} {s : State} {m : MethodId} {below : List Frame} {meth : Method} {c : Code} (l : Launch) {D : va_G} {cI cZ cW cO : ClassId} {b : Nat} (T : Ke) {Q : State → Prop} (hx : p.tables.exec = Jvm.exec) (hb : c.code = cL_law) (hml : c.maxLocals = 30) (hown : s.vm.findClass RL = some m.cls) (hts : ∀ w ∈ wsL_law, w.before #[Value.ref b] s = true) (hK : va_K D vwCl (T4 cI cZ cW cO) s) (hE : lwE s) (hEnd : ∀ (ls : Array Slot) (H : Heap) (locs : List Loc) (k j : Nat), k ≤ 100000 → j ≤ 1000000 → va_S (LA s) s.heap H locs → W p l e room_1 s m #[Value.ref b] below meth c H locs k j Q (F0 m 1423 ls [.int (nI 1)])) {n pl ns t nw1 who s0 fuel9 : Nat} {σ1 u9 : Sg} {v3 : Int32} (hn : 0 < n) (hn6 : n ≤ 6) (c2 : t < 40) (hLV : LV n pl nw1 ns t σ1) (hLV2 : LV n pl nw1 ns (t + 1) (tau n pl nw1 ns σ1)) (hnwB : 2 ≤ nw1) (hBc : n ≤ 10 ∧ pl ≤ 200 ∧ nw1 ≤ 20 ∧ ns ≤ 6) (hB : n ≤ 10 ∧ nw1 ≤ 20 ∧ ns ≤ 6) (hs0 : s0 ≤ n) (c12 : n ≤ s0) (hfuel29 : 40 - t < fuel9 + 1) (ih29 : ∀ (t : Nat) (nw : Nat) (a : Ka) (u : S3) (σ : Sg) (η : Sg), (40 - t) < fuel9 → (t ≤ 40) → (LV n pl nw ns t σ) → (2 ≤ nw) → (kO (LA s) [41, 10, n, nw, nw] a) → ∀ (G : Heap) (locs : List Loc), kP D [41, 10, n, nw, nw] a (eL cI cZ cW cO (xC cI cZ (a 0) n pl nw ns σ u) a n nw ns σ η T) G → va_S (LA s) s.heap G locs → ∀ (ls : Array Slot), lv_has ls 30 [(4, .int (nI t)), (3, .int (nI ns)), (2, .ref (a 1 0)), (1, .ref (a 0 40)), (0, .ref b)] → W p l e room_1 s m #[Value.ref b] below meth c G locs (200 + 60 * t) (3000 + 700 * t) Q (F0 m 29 ls [])) {w fuel8 : Nat} {a22 : Ka} (hw : w ≤ nw1) (hfuel453 : nw1 - w < fuel8 + 1) (ih453 : ∀ (w : Nat) (u : S3), (nw1 - w) < fuel8 → (w ≤ nw1) → ∀ (G : Heap) (locs : List Loc), kP D [41, 10, n, nw1, nw1, 1, nw1, 1, nw1, 1, 1, n, 1] a22 (eL cI cZ cW cO (xC cI cZ (a22 0) n pl nw1 ns (tau n pl nw1 ns σ1) u) a22 n nw1 ns (tau n pl nw1 ns σ1) u9 (TL cI cO a22 n pl nw1 (fillK (waT nw1 σ1) 9 nw1 0) (fillK (knG σ1) ns nw1 0) (upd (fun _ => 0) who (hoV n pl nw1 ns σ1 who)) (fillK (stT n nw1 σ1) 6 s0 0) (onH (tau n pl nw1 ns σ1) w))) G → va_S (LA s) s.heap G locs → ∀ (ls : Array Slot), lv_has ls 30 [(20, .int (nI w)), (19, .ref (a22 12 0)), (18, .int (nI (cnt (nwS σ1 (tau n pl nw1 ns σ1)) w))), (17, .int (nI (sumN (mnW (tau n pl nw1 ns σ1) ns) w))), (16, .int (nI (cam n pl nw1 ns σ1))), (15, .int (windOf σ1)), (14, .int (nI (sumN (kn (tau n pl nw1 ns σ1) nw1) ns))), (13, .int (nI (lb (tau n pl nw1 ns σ1) nw1))), (12, .int (nI (hm (tau n pl nw1 ns σ1) nw1 (nI 2)))), (11, .int (nI who)), (10, .ref (a22 10 0)), (9, .ref (a22 9 0)), (8, .ref (a22 7 0)), (7, .ref (a22 5 0)), (6, .int (nI nw1)), (5, .int ((v3 >>> ((((nI t) / (nI 16)) * (nI 3)) &&& 31)) + (nI (89 * t)))), (4, .int (nI t)), (3, .int (nI ns)), (2, .ref (a22 1 0)), (1, .ref (a22 0 40)), (0, .ref b)] → W p l e room_1 s m #[Value.ref b] below meth c G locs (200 + 60 * t + 3 + 1 + nw1 + 1 + nw1 + 1 + 1 + n + 1) (3000 + 700 * t + 35 + nw1 + nw1 * 9 + nw1 + nw1 * 6 + nw1 + n + n * 6 + pl) Q (F0 m 453 ls [])) (hO : kO (LA s) [41, 10, n, nw1, nw1, 1, nw1, 1, nw1, 1, 1, n, 1] a22) (hw9 : w < nw1) (K862_102 : ∀ (fuel : Nat) (u : S3), 0 < fuel → ∀ (G : Heap) (locs : List Loc), kP D [41, 10, n, nw1, nw1, 1, nw1, 1, nw1, 1, 1, n, 1] a22 (eL cI cZ cW cO (xC cI cZ (a22 0) n pl nw1 ns (tau n pl nw1 ns σ1) u) a22 n nw1 ns (tau n pl nw1 ns σ1) u9 (TL cI cO a22 n pl nw1 (fillK (waT nw1 σ1) 9 nw1 0) (fillK (knG σ1) ns nw1 0) (upd (fun _ => 0) who (hoV n pl nw1 ns σ1 who)) (fillK (stT n nw1 σ1) 6 s0 0) (onH (tau n pl nw1 ns σ1) (w + 1)))) G → va_S (LA s) s.heap G locs → ∀ (ls : Array Slot), lv_has ls 30 [(23, .int ((tau n pl nw1 ns σ1) 10 w)), (22, .int ((tau n pl nw1 ns σ1) 13 w)), (21, .int ((tau n pl nw1 ns σ1) 12 w)), (20, .int (nI w)), (19, .ref (a22 12 0)), (18, .int (nI (cnt (nwS σ1 (tau n pl nw1 ns σ1)) (w + 1)))), (17, .int (nI (sumN (mnW (tau n pl nw1 ns σ1) ns) w))), (16, .int (nI (cam n pl nw1 ns σ1))), (15, .int (windOf σ1)), (14, .int (nI (sumN (kn (tau n pl nw1 ns σ1) nw1) ns))), (13, .int (nI (lb (tau n pl nw1 ns σ1) nw1))), (12, .int (nI (hm (tau n pl nw1 ns σ1) nw1 (nI 2)))), (11, .int (nI who)), (10, .ref (a22 10 0)), (9, .ref (a22 9 0)), (8, .ref (a22 7 0)), (7, .ref (a22 5 0)), (6, .int (nI nw1)), (5, .int ((v3 >>> ((((nI t) / (nI 16)) * (nI 3)) &&& 31)) + (nI (89 * t)))), (4, .int (nI t)), (3, .int (nI ns)), (2, .ref (a22 1 0)), (1, .ref (a22 0 40)), (0, .ref b)] → W p l e room_1 s m #[Value.ref b] below meth c G locs (200 + 60 * t + 3 + 1 + nw1 + 1 + nw1 + 1 + 1 + n + 1) (3000 + 700 * t + 35 + nw1 + nw1 * 9 + nw1 + nw1 * 6 + nw1 + n + n * 6 + pl) Q (F0 m 862 ls [])) : ∀ (fuel : Nat) (u : S3), 0 < fuel → ∀ (G : Heap) (locs : List Loc), kP D [41, 10, n, nw1, nw1, 1, nw1, 1, nw1, 1, 1, n, 1] a22 (eL cI cZ cW cO (xC cI cZ (a22 0) n pl nw1 ns (tau n pl nw1 ns σ1) u) a22 n nw1 ns (tau n pl nw1 ns σ1) u9 (TL cI cO a22 n pl nw1 (fillK (waT nw1 σ1) 9 nw1 0) (fillK (knG σ1) ns nw1 0) (upd (fun _ => 0) who (hoV n pl nw1 ns σ1 who)) (fillK (stT n nw1 σ1) 6 s0 0) (onH (tau n pl nw1 ns σ1) (w + 1)))) G → va_S (LA s) s.heap G locs → ∀ (ls : Array Slot), lv_has ls 30 [(23, .int ((tau n pl nw1 ns σ1) 10 w)), (22, .int ((tau n pl nw1 ns σ1) 13 w)), (21, .int ((tau n pl nw1 ns σ1) 12 w)), (20, .int (nI w)), (19, .ref (a22 12 0)), (18, .int (nI (cnt (nwS σ1 (tau n pl nw1 ns σ1)) (w + 1)))), (17, .int (nI (sumN (mnW (tau n pl nw1 ns σ1) ns) w))), (16, .int (nI (cam n pl nw1 ns σ1))), (15, .int (windOf σ1)), (14, .int (nI (sumN (kn (tau n pl nw1 ns σ1) nw1) ns))), (13, .int (nI (lb (tau n pl nw1 ns σ1) nw1))), (12, .int (nI (hm (tau n pl nw1 ns σ1) nw1 (nI 2)))), (11, .int (nI who)), (10, .ref (a22 10 0)), (9, .ref (a22 9 0)), (8, .ref (a22 7 0)), (7, .ref (a22 5 0)), (6, .int (nI nw1)), (5, .int ((v3 >>> ((((nI t) / (nI 16)) * (nI 3)) &&& 31)) + (nI (89 * t)))), (4, .int (nI t)), (3, .int (nI ns)), (2, .ref (a22 1 0)), (1, .ref (a22 0 40)), (0, .ref b)] → W p l e room_1 s m #[Value.ref b] below meth c G locs (200 + 60 * t + 3 + 1 + nw1 + 1 + nw1 + 1 + 1 + n + 1) (3000 + 700 * t + 35 + nw1 + nw1 * 9 + nw1 + nw1 * 6 + nw1 + n + n * 6 + pl) Q (F0 m 767 ls []) := by
  have g13 : (Cond.initialized "java/lang/Math").before #[Value.ref b] s = true := hts _ (List.mem_of_getElem? (i := 11) (by decide +kernel))
  have g15 : (Cond.methodLink RL 125 Lib.Math.max.name).before #[Value.ref b] s = true := hts _ (List.mem_of_getElem? (i := 9) (by decide +kernel))
  have g16 : (Cond.static Lib.Math.max.name).before #[Value.ref b] s = true := hts _ (List.mem_of_getElem? (i := 10) (by decide +kernel))
  have g17 : (Cond.code Lib.Math.max.name Lib.Math.max.code 2 (some .int)).before #[Value.ref b] s = true := hts _ (List.mem_of_getElem? (i := 12) (by decide +kernel))
  intro fuel u _  G locs hP hS ls hl
  refine lv_aload hx hb dL_law_767 (lv_at hl 16 rfl) ?_
  refine lv_iload hx hb dL_law_769 (lv_at hl 3 rfl) ?_
  refine lk_aldO hx hb hK hP 5 0 (show 0 < 1 by decide) rfl (by omega) (by omega) (rfs_at (by omega)) dL_law_771 ?_
  refine lv_iconst (v := nI 3) hx hb dL_law_772 rfl ?_
  refine lk_ild hx hb hK hP 6 w (show w < nw1 by omega) rfl (by omega) (by decide) dL_law_773 ?_
  refine li_topi (show (fillK (waT nw1 σ1) 9 nw1 0) w 3 = σ1 11 w from (fillK_at (by omega) (by decide)).trans rfl) ?_
  refine lv_iconst (v := nI 1) hx hb dL_law_774 rfl ?_
  refine lv_icmp_ne (tgt := 793) hx hb dL_law_775 (by decide) (fun c107 => ?_) (fun c107 => ?_)
  · skip
    refine lv_iconst (v := nI 0) hx hb dL_law_793 rfl ?_
    refine lv_istore (lv' := [(24, .int (nI 0)), (23, .int ((tau n pl nw1 ns σ1) 10 w)), (22, .int ((tau n pl nw1 ns σ1) 13 w)), (21, .int ((tau n pl nw1 ns σ1) 12 w)), (20, .int (nI w)), (19, .ref (a22 12 0)), (18, .int (nI (cnt (nwS σ1 (tau n pl nw1 ns σ1)) (w + 1)))), (17, .int (nI (sumN (mnW (tau n pl nw1 ns σ1) ns) w))), (16, .int (nI (cam n pl nw1 ns σ1))), (15, .int (windOf σ1)), (14, .int (nI (sumN (kn (tau n pl nw1 ns σ1) nw1) ns))), (13, .int (nI (lb (tau n pl nw1 ns σ1) nw1))), (12, .int (nI (hm (tau n pl nw1 ns σ1) nw1 (nI 2)))), (11, .int (nI who)), (10, .ref (a22 10 0)), (9, .ref (a22 9 0)), (8, .ref (a22 7 0)), (7, .ref (a22 5 0)), (6, .int (nI nw1)), (5, .int ((v3 >>> ((((nI t) / (nI 16)) * (nI 3)) &&& 31)) + (nI (89 * t)))), (4, .int (nI t)), (3, .int (nI ns)), (2, .ref (a22 1 0)), (1, .ref (a22 0 40)), (0, .ref b)]) hx hb dL_law_794 hl (by decide) rfl (fun ls hl => ?_)
    refine lv_iload hx hb dL_law_796 (lv_at hl 1 rfl) ?_
    refine lv_iconst (v := nI 0) hx hb dL_law_798 rfl ?_
    refine lv_aload hx hb dL_law_799 (lv_at hl 17 rfl) ?_
    refine lv_iload hx hb dL_law_801 (lv_at hl 4 rfl) ?_
    refine lk_aldO hx hb hK hP 5 0 (show 0 < 1 by decide) rfl (by omega) (by omega) (rfs_at (by omega)) dL_law_803 ?_
    refine lv_iconst (v := nI 1) hx hb dL_law_804 rfl ?_
    refine lk_ild hx hb hK hP 6 w (show w < nw1 by omega) rfl (by omega) (by decide) dL_law_805 ?_
    refine li_topi (show (fillK (waT nw1 σ1) 9 nw1 0) w 1 = σ1 10 w from (fillK_at (by omega) (by decide)).trans rfl) ?_
    refine lv_iload hx hb dL_law_806 (lv_at hl 0 rfl) ?_
    refine li_eq0 (tgt := 825) hx hb dL_law_808 (by decide) (by first | omega | (have := mxp_le (hLV.inv.2.1.2.1 w hw9).2.2; omega) | (have := dkN_le (σ := σ1) (τ := (tau n pl nw1 ns σ1)) (w := w); omega) | (have := (K9_nN hLV2.2.2.1 hw9 (show k < 6 by omega)).2; omega) | (have := (K9_nN hLV.2.2.1 hw9 (show k < 6 by omega)).2; omega) | (have := (K9_nN hLV.2.2.1 (show o9 < nw1 by omega) (show k < 6 by omega)).2; omega) | (have := (hLV.inv.2.1.2.1 w hw9).2.2; omega) | (have := cnt_le (nwS σ1 (tau n pl nw1 ns σ1)) nw1; omega) | (have := hm_le (σ := (tau n pl nw1 ns σ1)) (nw := nw1) (x := nI 2); omega) | (have := lb_le (σ := (tau n pl nw1 ns σ1)) (nw := nw1); omega) | (have := hm_sum hLV2 nw1; omega) | (have := now_cam hLV hn; have := cnt_le (nwS σ1 (tau n pl nw1 ns σ1)) nw1; omega) | (have := cnt_le (nwS σ1 (tau n pl nw1 ns σ1)) w; omega) | (have := mn_le (τ := (tau n pl nw1 ns σ1)) (show ns ≤ 6 by omega) w; omega) | (rw [← mn_sum]; have := mn_le (τ := (tau n pl nw1 ns σ1)) (show ns ≤ 6 by omega) nw1; omega) | (have := q8 sx (by omega); omega) | (have : cnt (waS (tau n pl nw1 ns σ1) (nI z)) nw1 ≤ 2 := hLV2.2.1 z (by omega); omega)) (fun c108 => ?_) (fun c108 => ?_)
    · skip
      refine lv_iconst (v := nI 0) hx hb dL_law_825 rfl ?_
      refine lv_isub hx hb dL_law_826 ?_
      refine va_mmax hx hb (hml.trans hl.1.symm) hown g15 g16 g13 g17 (by decide) (Nat.le_of_ble_eq_true rfl) (rmC (show 200 + 60 * t + 3 + 1 + nw1 + 1 + nw1 + 1 + 1 + n + 1 ≤ 100000 by omega)) (rmS (show 3000 + 700 * t + 35 + nw1 + nw1 * 9 + nw1 + nw1 * 6 + nw1 + n + n * 6 + pl ≤ 1000000 by omega)) dL_law_827 ?_
      refine lv_icmp_ne (tgt := 860) hx hb dL_law_830 (by decide) (fun c109 => ?_) (fun c109 => ?_)
      · first | exact absurd (k_830a hLV hw9 (by assumption) (by assumption) (by assumption)) c109 | exact absurd (k_830b hLV hw9 (by assumption) (by assumption) (by assumption)) c109 | exact absurd (k_830c hLV hw9 (Or.inl (by assumption))) c109 | exact absurd (k_830c hLV hw9 (Or.inr (by assumption))) c109
      · skip
        refine lv_aload_n hx hb dL_law_833 rfl (lv_at hl 23 rfl) ?_
        refine lv_iload hx hb dL_law_834 (lv_at hl 4 rfl) ?_
        refine lv_iconst (v := nI 3) hx hb dL_law_836 rfl ?_
        refine ayK (As := [.int (nI w), .int (nI 3)]) hx hb hml hown hts (c_X2_walker l D cI cZ cW cO (a22 0) n pl nw1 ns (tau n pl nw1 ns σ1) u.1 u.2.1 u.2.2 G (nI w) (nI 3) (kA [41] a22) (okP_k hO rfl) hBc (hLV2.inv.2.1.1) (kTwo_0 (by omega) (by omega) (by omega) (by decide))) (cwV 2 hts gL_law_X2_walker rfl rfl rfl (by decide +kernel) ⟨by decide, by decide⟩) hK hE hO rfl hP rfl hl.1 rfl (Nat.le_of_ble_eq_true rfl) hS dL_law_837 ⟨rmC (show 200 + 60 * t + 3 + 1 + nw1 + 1 + nw1 + 1 + 1 + n + 1 ≤ 100000 by omega), rmS (show 3000 + 700 * t + 35 + nw1 + nw1 * 9 + nw1 + nw1 * 6 + nw1 + n + n * 6 + pl ≤ 1000000 by omega)⟩ (fun u110 G locs hP hS => ?_)
        have hP : kP D [41, 10, n, nw1, nw1, 1, nw1, 1, nw1, 1, 1, n, 1] a22 (eL cI cZ cW cO (xC cI cZ (a22 0) n pl nw1 ns (tau n pl nw1 ns σ1) u110) a22 n nw1 ns (tau n pl nw1 ns σ1) u9 (TL cI cO a22 n pl nw1 (fillK (waT nw1 σ1) 9 nw1 0) (fillK (knG σ1) ns nw1 0) (upd (fun _ => 0) who (hoV n pl nw1 ns σ1 who)) (fillK (stT n nw1 σ1) 6 s0 0) (onH (tau n pl nw1 ns σ1) (w + 1)))) G := hP
        refine li_topi (x' := waT nw1 (tau n pl nw1 ns σ1) w 3) (ifk_2 (f := waT nw1 (tau n pl nw1 ns σ1)) (by omega) (by omega) (by omega) (by decide)) ?_
        refine li_topi (show waT nw1 (tau n pl nw1 ns σ1) w 3 = (tau n pl nw1 ns σ1) 11 w from rfl) ?_
        refine lv_iconst (v := nI 1) hx hb dL_law_840 rfl ?_
        refine lv_icmp_ne (tgt := 862) hx hb dL_law_841 (by decide) (fun c111 => ?_) (fun c111 => ?_)
        · skip
          have hl9 : lv_has ls 30 [(23, .int ((tau n pl nw1 ns σ1) 10 w)), (22, .int ((tau n pl nw1 ns σ1) 13 w)), (21, .int ((tau n pl nw1 ns σ1) 12 w)), (20, .int (nI w)), (19, .ref (a22 12 0)), (18, .int (nI (cnt (nwS σ1 (tau n pl nw1 ns σ1)) (w + 1)))), (17, .int (nI (sumN (mnW (tau n pl nw1 ns σ1) ns) w))), (16, .int (nI (cam n pl nw1 ns σ1))), (15, .int (windOf σ1)), (14, .int (nI (sumN (kn (tau n pl nw1 ns σ1) nw1) ns))), (13, .int (nI (lb (tau n pl nw1 ns σ1) nw1))), (12, .int (nI (hm (tau n pl nw1 ns σ1) nw1 (nI 2)))), (11, .int (nI who)), (10, .ref (a22 10 0)), (9, .ref (a22 9 0)), (8, .ref (a22 7 0)), (7, .ref (a22 5 0)), (6, .int (nI nw1)), (5, .int ((v3 >>> ((((nI t) / (nI 16)) * (nI 3)) &&& 31)) + (nI (89 * t)))), (4, .int (nI t)), (3, .int (nI ns)), (2, .ref (a22 1 0)), (1, .ref (a22 0 40)), (0, .ref b)] := lv_sub hl [1, 2, 3, 4, 5, 6, 7, 8, 9, 10, 11, 12, 13, 14, 15, 16, 17, 18, 19, 20, 21, 22, 23, 24] rfl
          exact K862_102 (0 + 1) u110 (Nat.lt_succ_self _)  G locs hP hS ls hl9
        · skip
          refine lv_iload hx hb dL_law_844 (lv_at hl 1 rfl) ?_
          refine lv_if_ne (tgt := 862) hx hb dL_law_846 (by decide) (fun c112 => ?_) (fun c112 => ?_)
          · skip
            have hl9 : lv_has ls 30 [(23, .int ((tau n pl nw1 ns σ1) 10 w)), (22, .int ((tau n pl nw1 ns σ1) 13 w)), (21, .int ((tau n pl nw1 ns σ1) 12 w)), (20, .int (nI w)), (19, .ref (a22 12 0)), (18, .int (nI (cnt (nwS σ1 (tau n pl nw1 ns σ1)) (w + 1)))), (17, .int (nI (sumN (mnW (tau n pl nw1 ns σ1) ns) w))), (16, .int (nI (cam n pl nw1 ns σ1))), (15, .int (windOf σ1)), (14, .int (nI (sumN (kn (tau n pl nw1 ns σ1) nw1) ns))), (13, .int (nI (lb (tau n pl nw1 ns σ1) nw1))), (12, .int (nI (hm (tau n pl nw1 ns σ1) nw1 (nI 2)))), (11, .int (nI who)), (10, .ref (a22 10 0)), (9, .ref (a22 9 0)), (8, .ref (a22 7 0)), (7, .ref (a22 5 0)), (6, .int (nI nw1)), (5, .int ((v3 >>> ((((nI t) / (nI 16)) * (nI 3)) &&& 31)) + (nI (89 * t)))), (4, .int (nI t)), (3, .int (nI ns)), (2, .ref (a22 1 0)), (1, .ref (a22 0 40)), (0, .ref b)] := lv_sub hl [1, 2, 3, 4, 5, 6, 7, 8, 9, 10, 11, 12, 13, 14, 15, 16, 17, 18, 19, 20, 21, 22, 23, 24] rfl
            exact K862_102 (0 + 1) u110 (Nat.lt_succ_self _)  G locs hP hS ls hl9
          · skip
            refine lv_aload hx hb dL_law_849 (lv_at hl 17 rfl) ?_
            refine lv_iload hx hb dL_law_851 (lv_at hl 4 rfl) ?_
            refine lk_aldO hx hb hK hP 5 0 (show 0 < 1 by decide) rfl (by omega) (by omega) (rfs_at (by omega)) dL_law_853 ?_
            refine lv_iconst (v := nI 4) hx hb dL_law_854 rfl ?_
            refine lk_ild hx hb hK hP 6 w (show w < nw1 by omega) rfl (by omega) (by decide) dL_law_855 ?_
            refine li_topi (show (fillK (waT nw1 σ1) 9 nw1 0) w 4 = σ1 12 w from (fillK_at (by omega) (by decide)).trans rfl) ?_
            refine lv_iconst (v := nI 2) hx hb dL_law_856 rfl ?_
            refine lv_icmp_ge (tgt := 862) hx hb dL_law_857 (by decide) (fun c113 => ?_) (fun c113 => ?_)
            · skip
              have hl9 : lv_has ls 30 [(23, .int ((tau n pl nw1 ns σ1) 10 w)), (22, .int ((tau n pl nw1 ns σ1) 13 w)), (21, .int ((tau n pl nw1 ns σ1) 12 w)), (20, .int (nI w)), (19, .ref (a22 12 0)), (18, .int (nI (cnt (nwS σ1 (tau n pl nw1 ns σ1)) (w + 1)))), (17, .int (nI (sumN (mnW (tau n pl nw1 ns σ1) ns) w))), (16, .int (nI (cam n pl nw1 ns σ1))), (15, .int (windOf σ1)), (14, .int (nI (sumN (kn (tau n pl nw1 ns σ1) nw1) ns))), (13, .int (nI (lb (tau n pl nw1 ns σ1) nw1))), (12, .int (nI (hm (tau n pl nw1 ns σ1) nw1 (nI 2)))), (11, .int (nI who)), (10, .ref (a22 10 0)), (9, .ref (a22 9 0)), (8, .ref (a22 7 0)), (7, .ref (a22 5 0)), (6, .int (nI nw1)), (5, .int ((v3 >>> ((((nI t) / (nI 16)) * (nI 3)) &&& 31)) + (nI (89 * t)))), (4, .int (nI t)), (3, .int (nI ns)), (2, .ref (a22 1 0)), (1, .ref (a22 0 40)), (0, .ref b)] := lv_sub hl [1, 2, 3, 4, 5, 6, 7, 8, 9, 10, 11, 12, 13, 14, 15, 16, 17, 18, 19, 20, 21, 22, 23, 24] rfl
              exact K862_102 (0 + 1) u110 (Nat.lt_succ_self _)  G locs hP hS ls hl9
            · exact absurd (k_857 hLV hw9 c111 c112) c113
    · exact absurd c108 (by decide)
  · skip
    refine lv_aload hx hb dL_law_778 (lv_at hl 16 rfl) ?_
    refine lv_iload hx hb dL_law_780 (lv_at hl 3 rfl) ?_
    refine lk_aldO hx hb hK hP 5 0 (show 0 < 1 by decide) rfl (by omega) (by omega) (rfs_at (by omega)) dL_law_782 ?_
    refine lv_iconst (v := nI 4) hx hb dL_law_783 rfl ?_
    refine lk_ild hx hb hK hP 6 w (show w < nw1 by omega) rfl (by omega) (by decide) dL_law_784 ?_
    refine li_topi (show (fillK (waT nw1 σ1) 9 nw1 0) w 4 = σ1 12 w from (fillK_at (by omega) (by decide)).trans rfl) ?_
    refine lv_iconst (v := nI 2) hx hb dL_law_785 rfl ?_
    refine lv_icmp_ge (tgt := 793) hx hb dL_law_786 (by decide) (fun c114 => ?_) (fun c114 => ?_)
    · skip
      refine lv_iconst (v := nI 0) hx hb dL_law_793 rfl ?_
      refine lv_istore (lv' := [(24, .int (nI 0)), (23, .int ((tau n pl nw1 ns σ1) 10 w)), (22, .int ((tau n pl nw1 ns σ1) 13 w)), (21, .int ((tau n pl nw1 ns σ1) 12 w)), (20, .int (nI w)), (19, .ref (a22 12 0)), (18, .int (nI (cnt (nwS σ1 (tau n pl nw1 ns σ1)) (w + 1)))), (17, .int (nI (sumN (mnW (tau n pl nw1 ns σ1) ns) w))), (16, .int (nI (cam n pl nw1 ns σ1))), (15, .int (windOf σ1)), (14, .int (nI (sumN (kn (tau n pl nw1 ns σ1) nw1) ns))), (13, .int (nI (lb (tau n pl nw1 ns σ1) nw1))), (12, .int (nI (hm (tau n pl nw1 ns σ1) nw1 (nI 2)))), (11, .int (nI who)), (10, .ref (a22 10 0)), (9, .ref (a22 9 0)), (8, .ref (a22 7 0)), (7, .ref (a22 5 0)), (6, .int (nI nw1)), (5, .int ((v3 >>> ((((nI t) / (nI 16)) * (nI 3)) &&& 31)) + (nI (89 * t)))), (4, .int (nI t)), (3, .int (nI ns)), (2, .ref (a22 1 0)), (1, .ref (a22 0 40)), (0, .ref b)]) hx hb dL_law_794 hl (by decide) rfl (fun ls hl => ?_)
      refine lv_iload hx hb dL_law_796 (lv_at hl 1 rfl) ?_
      refine lv_iconst (v := nI 0) hx hb dL_law_798 rfl ?_
      refine lv_aload hx hb dL_law_799 (lv_at hl 17 rfl) ?_
      refine lv_iload hx hb dL_law_801 (lv_at hl 4 rfl) ?_
      refine lk_aldO hx hb hK hP 5 0 (show 0 < 1 by decide) rfl (by omega) (by omega) (rfs_at (by omega)) dL_law_803 ?_
      refine lv_iconst (v := nI 1) hx hb dL_law_804 rfl ?_
      refine lk_ild hx hb hK hP 6 w (show w < nw1 by omega) rfl (by omega) (by decide) dL_law_805 ?_
      refine li_topi (show (fillK (waT nw1 σ1) 9 nw1 0) w 1 = σ1 10 w from (fillK_at (by omega) (by decide)).trans rfl) ?_
      refine lv_iload hx hb dL_law_806 (lv_at hl 0 rfl) ?_
      refine li_eq0 (tgt := 825) hx hb dL_law_808 (by decide) (by first | omega | (have := mxp_le (hLV.inv.2.1.2.1 w hw9).2.2; omega) | (have := dkN_le (σ := σ1) (τ := (tau n pl nw1 ns σ1)) (w := w); omega) | (have := (K9_nN hLV2.2.2.1 hw9 (show k < 6 by omega)).2; omega) | (have := (K9_nN hLV.2.2.1 hw9 (show k < 6 by omega)).2; omega) | (have := (K9_nN hLV.2.2.1 (show o9 < nw1 by omega) (show k < 6 by omega)).2; omega) | (have := (hLV.inv.2.1.2.1 w hw9).2.2; omega) | (have := cnt_le (nwS σ1 (tau n pl nw1 ns σ1)) nw1; omega) | (have := hm_le (σ := (tau n pl nw1 ns σ1)) (nw := nw1) (x := nI 2); omega) | (have := lb_le (σ := (tau n pl nw1 ns σ1)) (nw := nw1); omega) | (have := hm_sum hLV2 nw1; omega) | (have := now_cam hLV hn; have := cnt_le (nwS σ1 (tau n pl nw1 ns σ1)) nw1; omega) | (have := cnt_le (nwS σ1 (tau n pl nw1 ns σ1)) w; omega) | (have := mn_le (τ := (tau n pl nw1 ns σ1)) (show ns ≤ 6 by omega) w; omega) | (rw [← mn_sum]; have := mn_le (τ := (tau n pl nw1 ns σ1)) (show ns ≤ 6 by omega) nw1; omega) | (have := q8 sx (by omega); omega) | (have : cnt (waS (tau n pl nw1 ns σ1) (nI z)) nw1 ≤ 2 := hLV2.2.1 z (by omega); omega)) (fun c115 => ?_) (fun c115 => ?_)
      · skip
        refine lv_iconst (v := nI 0) hx hb dL_law_825 rfl ?_
        refine lv_isub hx hb dL_law_826 ?_
        refine va_mmax hx hb (hml.trans hl.1.symm) hown g15 g16 g13 g17 (by decide) (Nat.le_of_ble_eq_true rfl) (rmC (show 200 + 60 * t + 3 + 1 + nw1 + 1 + nw1 + 1 + 1 + n + 1 ≤ 100000 by omega)) (rmS (show 3000 + 700 * t + 35 + nw1 + nw1 * 9 + nw1 + nw1 * 6 + nw1 + n + n * 6 + pl ≤ 1000000 by omega)) dL_law_827 ?_
        refine lv_icmp_ne (tgt := 860) hx hb dL_law_830 (by decide) (fun c116 => ?_) (fun c116 => ?_)
        · first | exact absurd (k_830a hLV hw9 (by assumption) (by assumption) (by assumption)) c116 | exact absurd (k_830b hLV hw9 (by assumption) (by assumption) (by assumption)) c116 | exact absurd (k_830c hLV hw9 (Or.inl (by assumption))) c116 | exact absurd (k_830c hLV hw9 (Or.inr (by assumption))) c116
        · skip
          refine lv_aload_n hx hb dL_law_833 rfl (lv_at hl 23 rfl) ?_
          refine lv_iload hx hb dL_law_834 (lv_at hl 4 rfl) ?_
          refine lv_iconst (v := nI 3) hx hb dL_law_836 rfl ?_
          refine ayK (As := [.int (nI w), .int (nI 3)]) hx hb hml hown hts (c_X2_walker l D cI cZ cW cO (a22 0) n pl nw1 ns (tau n pl nw1 ns σ1) u.1 u.2.1 u.2.2 G (nI w) (nI 3) (kA [41] a22) (okP_k hO rfl) hBc (hLV2.inv.2.1.1) (kTwo_0 (by omega) (by omega) (by omega) (by decide))) (cwV 2 hts gL_law_X2_walker rfl rfl rfl (by decide +kernel) ⟨by decide, by decide⟩) hK hE hO rfl hP rfl hl.1 rfl (Nat.le_of_ble_eq_true rfl) hS dL_law_837 ⟨rmC (show 200 + 60 * t + 3 + 1 + nw1 + 1 + nw1 + 1 + 1 + n + 1 ≤ 100000 by omega), rmS (show 3000 + 700 * t + 35 + nw1 + nw1 * 9 + nw1 + nw1 * 6 + nw1 + n + n * 6 + pl ≤ 1000000 by omega)⟩ (fun u117 G locs hP hS => ?_)
          have hP : kP D [41, 10, n, nw1, nw1, 1, nw1, 1, nw1, 1, 1, n, 1] a22 (eL cI cZ cW cO (xC cI cZ (a22 0) n pl nw1 ns (tau n pl nw1 ns σ1) u117) a22 n nw1 ns (tau n pl nw1 ns σ1) u9 (TL cI cO a22 n pl nw1 (fillK (waT nw1 σ1) 9 nw1 0) (fillK (knG σ1) ns nw1 0) (upd (fun _ => 0) who (hoV n pl nw1 ns σ1 who)) (fillK (stT n nw1 σ1) 6 s0 0) (onH (tau n pl nw1 ns σ1) (w + 1)))) G := hP
          refine li_topi (x' := waT nw1 (tau n pl nw1 ns σ1) w 3) (ifk_2 (f := waT nw1 (tau n pl nw1 ns σ1)) (by omega) (by omega) (by omega) (by decide)) ?_
          refine li_topi (show waT nw1 (tau n pl nw1 ns σ1) w 3 = (tau n pl nw1 ns σ1) 11 w from rfl) ?_
          refine lv_iconst (v := nI 1) hx hb dL_law_840 rfl ?_
          refine lv_icmp_ne (tgt := 862) hx hb dL_law_841 (by decide) (fun c118 => ?_) (fun c118 => ?_)
          · skip
            have hl9 : lv_has ls 30 [(23, .int ((tau n pl nw1 ns σ1) 10 w)), (22, .int ((tau n pl nw1 ns σ1) 13 w)), (21, .int ((tau n pl nw1 ns σ1) 12 w)), (20, .int (nI w)), (19, .ref (a22 12 0)), (18, .int (nI (cnt (nwS σ1 (tau n pl nw1 ns σ1)) (w + 1)))), (17, .int (nI (sumN (mnW (tau n pl nw1 ns σ1) ns) w))), (16, .int (nI (cam n pl nw1 ns σ1))), (15, .int (windOf σ1)), (14, .int (nI (sumN (kn (tau n pl nw1 ns σ1) nw1) ns))), (13, .int (nI (lb (tau n pl nw1 ns σ1) nw1))), (12, .int (nI (hm (tau n pl nw1 ns σ1) nw1 (nI 2)))), (11, .int (nI who)), (10, .ref (a22 10 0)), (9, .ref (a22 9 0)), (8, .ref (a22 7 0)), (7, .ref (a22 5 0)), (6, .int (nI nw1)), (5, .int ((v3 >>> ((((nI t) / (nI 16)) * (nI 3)) &&& 31)) + (nI (89 * t)))), (4, .int (nI t)), (3, .int (nI ns)), (2, .ref (a22 1 0)), (1, .ref (a22 0 40)), (0, .ref b)] := lv_sub hl [1, 2, 3, 4, 5, 6, 7, 8, 9, 10, 11, 12, 13, 14, 15, 16, 17, 18, 19, 20, 21, 22, 23, 24] rfl
            exact K862_102 (0 + 1) u117 (Nat.lt_succ_self _)  G locs hP hS ls hl9
          · skip
            refine lv_iload hx hb dL_law_844 (lv_at hl 1 rfl) ?_
            refine lv_if_ne (tgt := 862) hx hb dL_law_846 (by decide) (fun c119 => ?_) (fun c119 => ?_)
            · skip
              have hl9 : lv_has ls 30 [(23, .int ((tau n pl nw1 ns σ1) 10 w)), (22, .int ((tau n pl nw1 ns σ1) 13 w)), (21, .int ((tau n pl nw1 ns σ1) 12 w)), (20, .int (nI w)), (19, .ref (a22 12 0)), (18, .int (nI (cnt (nwS σ1 (tau n pl nw1 ns σ1)) (w + 1)))), (17, .int (nI (sumN (mnW (tau n pl nw1 ns σ1) ns) w))), (16, .int (nI (cam n pl nw1 ns σ1))), (15, .int (windOf σ1)), (14, .int (nI (sumN (kn (tau n pl nw1 ns σ1) nw1) ns))), (13, .int (nI (lb (tau n pl nw1 ns σ1) nw1))), (12, .int (nI (hm (tau n pl nw1 ns σ1) nw1 (nI 2)))), (11, .int (nI who)), (10, .ref (a22 10 0)), (9, .ref (a22 9 0)), (8, .ref (a22 7 0)), (7, .ref (a22 5 0)), (6, .int (nI nw1)), (5, .int ((v3 >>> ((((nI t) / (nI 16)) * (nI 3)) &&& 31)) + (nI (89 * t)))), (4, .int (nI t)), (3, .int (nI ns)), (2, .ref (a22 1 0)), (1, .ref (a22 0 40)), (0, .ref b)] := lv_sub hl [1, 2, 3, 4, 5, 6, 7, 8, 9, 10, 11, 12, 13, 14, 15, 16, 17, 18, 19, 20, 21, 22, 23, 24] rfl
              exact K862_102 (0 + 1) u117 (Nat.lt_succ_self _)  G locs hP hS ls hl9
            · skip
              refine lv_aload hx hb dL_law_849 (lv_at hl 17 rfl) ?_
              refine lv_iload hx hb dL_law_851 (lv_at hl 4 rfl) ?_
              refine lk_aldO hx hb hK hP 5 0 (show 0 < 1 by decide) rfl (by omega) (by omega) (rfs_at (by omega)) dL_law_853 ?_
              refine lv_iconst (v := nI 4) hx hb dL_law_854 rfl ?_
              refine lk_ild hx hb hK hP 6 w (show w < nw1 by omega) rfl (by omega) (by decide) dL_law_855 ?_
              refine li_topi (show (fillK (waT nw1 σ1) 9 nw1 0) w 4 = σ1 12 w from (fillK_at (by omega) (by decide)).trans rfl) ?_
              refine lv_iconst (v := nI 2) hx hb dL_law_856 rfl ?_
              refine lv_icmp_ge (tgt := 862) hx hb dL_law_857 (by decide) (fun c120 => ?_) (fun c120 => ?_)
              · skip
                have hl9 : lv_has ls 30 [(23, .int ((tau n pl nw1 ns σ1) 10 w)), (22, .int ((tau n pl nw1 ns σ1) 13 w)), (21, .int ((tau n pl nw1 ns σ1) 12 w)), (20, .int (nI w)), (19, .ref (a22 12 0)), (18, .int (nI (cnt (nwS σ1 (tau n pl nw1 ns σ1)) (w + 1)))), (17, .int (nI (sumN (mnW (tau n pl nw1 ns σ1) ns) w))), (16, .int (nI (cam n pl nw1 ns σ1))), (15, .int (windOf σ1)), (14, .int (nI (sumN (kn (tau n pl nw1 ns σ1) nw1) ns))), (13, .int (nI (lb (tau n pl nw1 ns σ1) nw1))), (12, .int (nI (hm (tau n pl nw1 ns σ1) nw1 (nI 2)))), (11, .int (nI who)), (10, .ref (a22 10 0)), (9, .ref (a22 9 0)), (8, .ref (a22 7 0)), (7, .ref (a22 5 0)), (6, .int (nI nw1)), (5, .int ((v3 >>> ((((nI t) / (nI 16)) * (nI 3)) &&& 31)) + (nI (89 * t)))), (4, .int (nI t)), (3, .int (nI ns)), (2, .ref (a22 1 0)), (1, .ref (a22 0 40)), (0, .ref b)] := lv_sub hl [1, 2, 3, 4, 5, 6, 7, 8, 9, 10, 11, 12, 13, 14, 15, 16, 17, 18, 19, 20, 21, 22, 23, 24] rfl
                exact K862_102 (0 + 1) u117 (Nat.lt_succ_self _)  G locs hP hS ls hl9
              · exact absurd (k_857 hLV hw9 c118 c119) c120
      · exact absurd c115 (by decide)
    · skip
      refine lv_iconst (v := nI 1) hx hb dL_law_789 rfl ?_
      refine lv_goto (tgt := 794) hx hb dL_law_790 (by decide) ?_
      refine lv_istore (lv' := [(24, .int (nI 1)), (23, .int ((tau n pl nw1 ns σ1) 10 w)), (22, .int ((tau n pl nw1 ns σ1) 13 w)), (21, .int ((tau n pl nw1 ns σ1) 12 w)), (20, .int (nI w)), (19, .ref (a22 12 0)), (18, .int (nI (cnt (nwS σ1 (tau n pl nw1 ns σ1)) (w + 1)))), (17, .int (nI (sumN (mnW (tau n pl nw1 ns σ1) ns) w))), (16, .int (nI (cam n pl nw1 ns σ1))), (15, .int (windOf σ1)), (14, .int (nI (sumN (kn (tau n pl nw1 ns σ1) nw1) ns))), (13, .int (nI (lb (tau n pl nw1 ns σ1) nw1))), (12, .int (nI (hm (tau n pl nw1 ns σ1) nw1 (nI 2)))), (11, .int (nI who)), (10, .ref (a22 10 0)), (9, .ref (a22 9 0)), (8, .ref (a22 7 0)), (7, .ref (a22 5 0)), (6, .int (nI nw1)), (5, .int ((v3 >>> ((((nI t) / (nI 16)) * (nI 3)) &&& 31)) + (nI (89 * t)))), (4, .int (nI t)), (3, .int (nI ns)), (2, .ref (a22 1 0)), (1, .ref (a22 0 40)), (0, .ref b)]) hx hb dL_law_794 hl (by decide) rfl (fun ls hl => ?_)
      refine lv_iload hx hb dL_law_796 (lv_at hl 1 rfl) ?_
      refine lv_iconst (v := nI 0) hx hb dL_law_798 rfl ?_
      refine lv_aload hx hb dL_law_799 (lv_at hl 17 rfl) ?_
      refine lv_iload hx hb dL_law_801 (lv_at hl 4 rfl) ?_
      refine lk_aldO hx hb hK hP 5 0 (show 0 < 1 by decide) rfl (by omega) (by omega) (rfs_at (by omega)) dL_law_803 ?_
      refine lv_iconst (v := nI 1) hx hb dL_law_804 rfl ?_
      refine lk_ild hx hb hK hP 6 w (show w < nw1 by omega) rfl (by omega) (by decide) dL_law_805 ?_
      refine li_topi (show (fillK (waT nw1 σ1) 9 nw1 0) w 1 = σ1 10 w from (fillK_at (by omega) (by decide)).trans rfl) ?_
      refine lv_iload hx hb dL_law_806 (lv_at hl 0 rfl) ?_
      refine li_eq0 (tgt := 825) hx hb dL_law_808 (by decide) (by first | omega | (have := mxp_le (hLV.inv.2.1.2.1 w hw9).2.2; omega) | (have := dkN_le (σ := σ1) (τ := (tau n pl nw1 ns σ1)) (w := w); omega) | (have := (K9_nN hLV2.2.2.1 hw9 (show k < 6 by omega)).2; omega) | (have := (K9_nN hLV.2.2.1 hw9 (show k < 6 by omega)).2; omega) | (have := (K9_nN hLV.2.2.1 (show o9 < nw1 by omega) (show k < 6 by omega)).2; omega) | (have := (hLV.inv.2.1.2.1 w hw9).2.2; omega) | (have := cnt_le (nwS σ1 (tau n pl nw1 ns σ1)) nw1; omega) | (have := hm_le (σ := (tau n pl nw1 ns σ1)) (nw := nw1) (x := nI 2); omega) | (have := lb_le (σ := (tau n pl nw1 ns σ1)) (nw := nw1); omega) | (have := hm_sum hLV2 nw1; omega) | (have := now_cam hLV hn; have := cnt_le (nwS σ1 (tau n pl nw1 ns σ1)) nw1; omega) | (have := cnt_le (nwS σ1 (tau n pl nw1 ns σ1)) w; omega) | (have := mn_le (τ := (tau n pl nw1 ns σ1)) (show ns ≤ 6 by omega) w; omega) | (rw [← mn_sum]; have := mn_le (τ := (tau n pl nw1 ns σ1)) (show ns ≤ 6 by omega) nw1; omega) | (have := q8 sx (by omega); omega) | (have : cnt (waS (tau n pl nw1 ns σ1) (nI z)) nw1 ≤ 2 := hLV2.2.1 z (by omega); omega)) (fun c121 => ?_) (fun c121 => ?_)
      · exact absurd c121 (by decide)
      · skip
        refine lv_iload hx hb dL_law_811 (lv_at hl 9 rfl) ?_
        refine lv_iconst (v := nI 5) hx hb dL_law_813 rfl ?_
        refine lv_icmp_le (tgt := 821) hx hb dL_law_814 (by decide) (fun c122 => ?_) (fun c122 => ?_)
        · skip
          refine lv_iconst (v := nI 1) hx hb dL_law_821 rfl ?_
          refine lv_goto (tgt := 826) hx hb dL_law_822 (by decide) ?_
          refine lv_isub hx hb dL_law_826 ?_
          refine va_mmax hx hb (hml.trans hl.1.symm) hown g15 g16 g13 g17 (by decide) (Nat.le_of_ble_eq_true rfl) (rmC (show 200 + 60 * t + 3 + 1 + nw1 + 1 + nw1 + 1 + 1 + n + 1 ≤ 100000 by omega)) (rmS (show 3000 + 700 * t + 35 + nw1 + nw1 * 9 + nw1 + nw1 * 6 + nw1 + n + n * 6 + pl ≤ 1000000 by omega)) dL_law_827 ?_
          refine lv_icmp_ne (tgt := 860) hx hb dL_law_830 (by decide) (fun c123 => ?_) (fun c123 => ?_)
          · first | exact absurd (k_830a hLV hw9 (by assumption) (by assumption) (by assumption)) c123 | exact absurd (k_830b hLV hw9 (by assumption) (by assumption) (by assumption)) c123 | exact absurd (k_830c hLV hw9 (Or.inl (by assumption))) c123 | exact absurd (k_830c hLV hw9 (Or.inr (by assumption))) c123
          · skip
            refine lv_aload_n hx hb dL_law_833 rfl (lv_at hl 23 rfl) ?_
            refine lv_iload hx hb dL_law_834 (lv_at hl 4 rfl) ?_
            refine lv_iconst (v := nI 3) hx hb dL_law_836 rfl ?_
            refine ayK (As := [.int (nI w), .int (nI 3)]) hx hb hml hown hts (c_X2_walker l D cI cZ cW cO (a22 0) n pl nw1 ns (tau n pl nw1 ns σ1) u.1 u.2.1 u.2.2 G (nI w) (nI 3) (kA [41] a22) (okP_k hO rfl) hBc (hLV2.inv.2.1.1) (kTwo_0 (by omega) (by omega) (by omega) (by decide))) (cwV 2 hts gL_law_X2_walker rfl rfl rfl (by decide +kernel) ⟨by decide, by decide⟩) hK hE hO rfl hP rfl hl.1 rfl (Nat.le_of_ble_eq_true rfl) hS dL_law_837 ⟨rmC (show 200 + 60 * t + 3 + 1 + nw1 + 1 + nw1 + 1 + 1 + n + 1 ≤ 100000 by omega), rmS (show 3000 + 700 * t + 35 + nw1 + nw1 * 9 + nw1 + nw1 * 6 + nw1 + n + n * 6 + pl ≤ 1000000 by omega)⟩ (fun u124 G locs hP hS => ?_)
            have hP : kP D [41, 10, n, nw1, nw1, 1, nw1, 1, nw1, 1, 1, n, 1] a22 (eL cI cZ cW cO (xC cI cZ (a22 0) n pl nw1 ns (tau n pl nw1 ns σ1) u124) a22 n nw1 ns (tau n pl nw1 ns σ1) u9 (TL cI cO a22 n pl nw1 (fillK (waT nw1 σ1) 9 nw1 0) (fillK (knG σ1) ns nw1 0) (upd (fun _ => 0) who (hoV n pl nw1 ns σ1 who)) (fillK (stT n nw1 σ1) 6 s0 0) (onH (tau n pl nw1 ns σ1) (w + 1)))) G := hP
            refine li_topi (x' := waT nw1 (tau n pl nw1 ns σ1) w 3) (ifk_2 (f := waT nw1 (tau n pl nw1 ns σ1)) (by omega) (by omega) (by omega) (by decide)) ?_
            refine li_topi (show waT nw1 (tau n pl nw1 ns σ1) w 3 = (tau n pl nw1 ns σ1) 11 w from rfl) ?_
            refine lv_iconst (v := nI 1) hx hb dL_law_840 rfl ?_
            refine lv_icmp_ne (tgt := 862) hx hb dL_law_841 (by decide) (fun c125 => ?_) (fun c125 => ?_)
            · skip
              have hl9 : lv_has ls 30 [(23, .int ((tau n pl nw1 ns σ1) 10 w)), (22, .int ((tau n pl nw1 ns σ1) 13 w)), (21, .int ((tau n pl nw1 ns σ1) 12 w)), (20, .int (nI w)), (19, .ref (a22 12 0)), (18, .int (nI (cnt (nwS σ1 (tau n pl nw1 ns σ1)) (w + 1)))), (17, .int (nI (sumN (mnW (tau n pl nw1 ns σ1) ns) w))), (16, .int (nI (cam n pl nw1 ns σ1))), (15, .int (windOf σ1)), (14, .int (nI (sumN (kn (tau n pl nw1 ns σ1) nw1) ns))), (13, .int (nI (lb (tau n pl nw1 ns σ1) nw1))), (12, .int (nI (hm (tau n pl nw1 ns σ1) nw1 (nI 2)))), (11, .int (nI who)), (10, .ref (a22 10 0)), (9, .ref (a22 9 0)), (8, .ref (a22 7 0)), (7, .ref (a22 5 0)), (6, .int (nI nw1)), (5, .int ((v3 >>> ((((nI t) / (nI 16)) * (nI 3)) &&& 31)) + (nI (89 * t)))), (4, .int (nI t)), (3, .int (nI ns)), (2, .ref (a22 1 0)), (1, .ref (a22 0 40)), (0, .ref b)] := lv_sub hl [1, 2, 3, 4, 5, 6, 7, 8, 9, 10, 11, 12, 13, 14, 15, 16, 17, 18, 19, 20, 21, 22, 23, 24] rfl
              exact K862_102 (0 + 1) u124 (Nat.lt_succ_self _)  G locs hP hS ls hl9
            · skip
              refine lv_iload hx hb dL_law_844 (lv_at hl 1 rfl) ?_
              refine lv_if_ne (tgt := 862) hx hb dL_law_846 (by decide) (fun c126 => ?_) (fun c126 => ?_)
              · skip
                have hl9 : lv_has ls 30 [(23, .int ((tau n pl nw1 ns σ1) 10 w)), (22, .int ((tau n pl nw1 ns σ1) 13 w)), (21, .int ((tau n pl nw1 ns σ1) 12 w)), (20, .int (nI w)), (19, .ref (a22 12 0)), (18, .int (nI (cnt (nwS σ1 (tau n pl nw1 ns σ1)) (w + 1)))), (17, .int (nI (sumN (mnW (tau n pl nw1 ns σ1) ns) w))), (16, .int (nI (cam n pl nw1 ns σ1))), (15, .int (windOf σ1)), (14, .int (nI (sumN (kn (tau n pl nw1 ns σ1) nw1) ns))), (13, .int (nI (lb (tau n pl nw1 ns σ1) nw1))), (12, .int (nI (hm (tau n pl nw1 ns σ1) nw1 (nI 2)))), (11, .int (nI who)), (10, .ref (a22 10 0)), (9, .ref (a22 9 0)), (8, .ref (a22 7 0)), (7, .ref (a22 5 0)), (6, .int (nI nw1)), (5, .int ((v3 >>> ((((nI t) / (nI 16)) * (nI 3)) &&& 31)) + (nI (89 * t)))), (4, .int (nI t)), (3, .int (nI ns)), (2, .ref (a22 1 0)), (1, .ref (a22 0 40)), (0, .ref b)] := lv_sub hl [1, 2, 3, 4, 5, 6, 7, 8, 9, 10, 11, 12, 13, 14, 15, 16, 17, 18, 19, 20, 21, 22, 23, 24] rfl
                exact K862_102 (0 + 1) u124 (Nat.lt_succ_self _)  G locs hP hS ls hl9
              · skip
                refine lv_aload hx hb dL_law_849 (lv_at hl 17 rfl) ?_
                refine lv_iload hx hb dL_law_851 (lv_at hl 4 rfl) ?_
                refine lk_aldO hx hb hK hP 5 0 (show 0 < 1 by decide) rfl (by omega) (by omega) (rfs_at (by omega)) dL_law_853 ?_
                refine lv_iconst (v := nI 4) hx hb dL_law_854 rfl ?_
                refine lk_ild hx hb hK hP 6 w (show w < nw1 by omega) rfl (by omega) (by decide) dL_law_855 ?_
                refine li_topi (show (fillK (waT nw1 σ1) 9 nw1 0) w 4 = σ1 12 w from (fillK_at (by omega) (by decide)).trans rfl) ?_
                refine lv_iconst (v := nI 2) hx hb dL_law_856 rfl ?_
                refine lv_icmp_ge (tgt := 862) hx hb dL_law_857 (by decide) (fun c127 => ?_) (fun c127 => ?_)
                · skip
                  have hl9 : lv_has ls 30 [(23, .int ((tau n pl nw1 ns σ1) 10 w)), (22, .int ((tau n pl nw1 ns σ1) 13 w)), (21, .int ((tau n pl nw1 ns σ1) 12 w)), (20, .int (nI w)), (19, .ref (a22 12 0)), (18, .int (nI (cnt (nwS σ1 (tau n pl nw1 ns σ1)) (w + 1)))), (17, .int (nI (sumN (mnW (tau n pl nw1 ns σ1) ns) w))), (16, .int (nI (cam n pl nw1 ns σ1))), (15, .int (windOf σ1)), (14, .int (nI (sumN (kn (tau n pl nw1 ns σ1) nw1) ns))), (13, .int (nI (lb (tau n pl nw1 ns σ1) nw1))), (12, .int (nI (hm (tau n pl nw1 ns σ1) nw1 (nI 2)))), (11, .int (nI who)), (10, .ref (a22 10 0)), (9, .ref (a22 9 0)), (8, .ref (a22 7 0)), (7, .ref (a22 5 0)), (6, .int (nI nw1)), (5, .int ((v3 >>> ((((nI t) / (nI 16)) * (nI 3)) &&& 31)) + (nI (89 * t)))), (4, .int (nI t)), (3, .int (nI ns)), (2, .ref (a22 1 0)), (1, .ref (a22 0 40)), (0, .ref b)] := lv_sub hl [1, 2, 3, 4, 5, 6, 7, 8, 9, 10, 11, 12, 13, 14, 15, 16, 17, 18, 19, 20, 21, 22, 23, 24] rfl
                  exact K862_102 (0 + 1) u124 (Nat.lt_succ_self _)  G locs hP hS ls hl9
                · exact absurd (k_857 hLV hw9 c125 c126) c127
        · skip
          refine lv_iconst (v := nI 2) hx hb dL_law_817 rfl ?_
          refine lv_goto (tgt := 826) hx hb dL_law_818 (by decide) ?_
          refine lv_isub hx hb dL_law_826 ?_
          refine va_mmax hx hb (hml.trans hl.1.symm) hown g15 g16 g13 g17 (by decide) (Nat.le_of_ble_eq_true rfl) (rmC (show 200 + 60 * t + 3 + 1 + nw1 + 1 + nw1 + 1 + 1 + n + 1 ≤ 100000 by omega)) (rmS (show 3000 + 700 * t + 35 + nw1 + nw1 * 9 + nw1 + nw1 * 6 + nw1 + n + n * 6 + pl ≤ 1000000 by omega)) dL_law_827 ?_
          refine lv_icmp_ne (tgt := 860) hx hb dL_law_830 (by decide) (fun c128 => ?_) (fun c128 => ?_)
          · first | exact absurd (k_830a hLV hw9 (by assumption) (by assumption) (by assumption)) c128 | exact absurd (k_830b hLV hw9 (by assumption) (by assumption) (by assumption)) c128 | exact absurd (k_830c hLV hw9 (Or.inl (by assumption))) c128 | exact absurd (k_830c hLV hw9 (Or.inr (by assumption))) c128
          · skip
            refine lv_aload_n hx hb dL_law_833 rfl (lv_at hl 23 rfl) ?_
            refine lv_iload hx hb dL_law_834 (lv_at hl 4 rfl) ?_
            refine lv_iconst (v := nI 3) hx hb dL_law_836 rfl ?_
            refine ayK (As := [.int (nI w), .int (nI 3)]) hx hb hml hown hts (c_X2_walker l D cI cZ cW cO (a22 0) n pl nw1 ns (tau n pl nw1 ns σ1) u.1 u.2.1 u.2.2 G (nI w) (nI 3) (kA [41] a22) (okP_k hO rfl) hBc (hLV2.inv.2.1.1) (kTwo_0 (by omega) (by omega) (by omega) (by decide))) (cwV 2 hts gL_law_X2_walker rfl rfl rfl (by decide +kernel) ⟨by decide, by decide⟩) hK hE hO rfl hP rfl hl.1 rfl (Nat.le_of_ble_eq_true rfl) hS dL_law_837 ⟨rmC (show 200 + 60 * t + 3 + 1 + nw1 + 1 + nw1 + 1 + 1 + n + 1 ≤ 100000 by omega), rmS (show 3000 + 700 * t + 35 + nw1 + nw1 * 9 + nw1 + nw1 * 6 + nw1 + n + n * 6 + pl ≤ 1000000 by omega)⟩ (fun u129 G locs hP hS => ?_)
            have hP : kP D [41, 10, n, nw1, nw1, 1, nw1, 1, nw1, 1, 1, n, 1] a22 (eL cI cZ cW cO (xC cI cZ (a22 0) n pl nw1 ns (tau n pl nw1 ns σ1) u129) a22 n nw1 ns (tau n pl nw1 ns σ1) u9 (TL cI cO a22 n pl nw1 (fillK (waT nw1 σ1) 9 nw1 0) (fillK (knG σ1) ns nw1 0) (upd (fun _ => 0) who (hoV n pl nw1 ns σ1 who)) (fillK (stT n nw1 σ1) 6 s0 0) (onH (tau n pl nw1 ns σ1) (w + 1)))) G := hP
            refine li_topi (x' := waT nw1 (tau n pl nw1 ns σ1) w 3) (ifk_2 (f := waT nw1 (tau n pl nw1 ns σ1)) (by omega) (by omega) (by omega) (by decide)) ?_
            refine li_topi (show waT nw1 (tau n pl nw1 ns σ1) w 3 = (tau n pl nw1 ns σ1) 11 w from rfl) ?_
            refine lv_iconst (v := nI 1) hx hb dL_law_840 rfl ?_
            refine lv_icmp_ne (tgt := 862) hx hb dL_law_841 (by decide) (fun c130 => ?_) (fun c130 => ?_)
            · skip
              have hl9 : lv_has ls 30 [(23, .int ((tau n pl nw1 ns σ1) 10 w)), (22, .int ((tau n pl nw1 ns σ1) 13 w)), (21, .int ((tau n pl nw1 ns σ1) 12 w)), (20, .int (nI w)), (19, .ref (a22 12 0)), (18, .int (nI (cnt (nwS σ1 (tau n pl nw1 ns σ1)) (w + 1)))), (17, .int (nI (sumN (mnW (tau n pl nw1 ns σ1) ns) w))), (16, .int (nI (cam n pl nw1 ns σ1))), (15, .int (windOf σ1)), (14, .int (nI (sumN (kn (tau n pl nw1 ns σ1) nw1) ns))), (13, .int (nI (lb (tau n pl nw1 ns σ1) nw1))), (12, .int (nI (hm (tau n pl nw1 ns σ1) nw1 (nI 2)))), (11, .int (nI who)), (10, .ref (a22 10 0)), (9, .ref (a22 9 0)), (8, .ref (a22 7 0)), (7, .ref (a22 5 0)), (6, .int (nI nw1)), (5, .int ((v3 >>> ((((nI t) / (nI 16)) * (nI 3)) &&& 31)) + (nI (89 * t)))), (4, .int (nI t)), (3, .int (nI ns)), (2, .ref (a22 1 0)), (1, .ref (a22 0 40)), (0, .ref b)] := lv_sub hl [1, 2, 3, 4, 5, 6, 7, 8, 9, 10, 11, 12, 13, 14, 15, 16, 17, 18, 19, 20, 21, 22, 23, 24] rfl
              exact K862_102 (0 + 1) u129 (Nat.lt_succ_self _)  G locs hP hS ls hl9
            · skip
              refine lv_iload hx hb dL_law_844 (lv_at hl 1 rfl) ?_
              refine lv_if_ne (tgt := 862) hx hb dL_law_846 (by decide) (fun c131 => ?_) (fun c131 => ?_)
              · skip
                have hl9 : lv_has ls 30 [(23, .int ((tau n pl nw1 ns σ1) 10 w)), (22, .int ((tau n pl nw1 ns σ1) 13 w)), (21, .int ((tau n pl nw1 ns σ1) 12 w)), (20, .int (nI w)), (19, .ref (a22 12 0)), (18, .int (nI (cnt (nwS σ1 (tau n pl nw1 ns σ1)) (w + 1)))), (17, .int (nI (sumN (mnW (tau n pl nw1 ns σ1) ns) w))), (16, .int (nI (cam n pl nw1 ns σ1))), (15, .int (windOf σ1)), (14, .int (nI (sumN (kn (tau n pl nw1 ns σ1) nw1) ns))), (13, .int (nI (lb (tau n pl nw1 ns σ1) nw1))), (12, .int (nI (hm (tau n pl nw1 ns σ1) nw1 (nI 2)))), (11, .int (nI who)), (10, .ref (a22 10 0)), (9, .ref (a22 9 0)), (8, .ref (a22 7 0)), (7, .ref (a22 5 0)), (6, .int (nI nw1)), (5, .int ((v3 >>> ((((nI t) / (nI 16)) * (nI 3)) &&& 31)) + (nI (89 * t)))), (4, .int (nI t)), (3, .int (nI ns)), (2, .ref (a22 1 0)), (1, .ref (a22 0 40)), (0, .ref b)] := lv_sub hl [1, 2, 3, 4, 5, 6, 7, 8, 9, 10, 11, 12, 13, 14, 15, 16, 17, 18, 19, 20, 21, 22, 23, 24] rfl
                exact K862_102 (0 + 1) u129 (Nat.lt_succ_self _)  G locs hP hS ls hl9
              · skip
                refine lv_aload hx hb dL_law_849 (lv_at hl 17 rfl) ?_
                refine lv_iload hx hb dL_law_851 (lv_at hl 4 rfl) ?_
                refine lk_aldO hx hb hK hP 5 0 (show 0 < 1 by decide) rfl (by omega) (by omega) (rfs_at (by omega)) dL_law_853 ?_
                refine lv_iconst (v := nI 4) hx hb dL_law_854 rfl ?_
                refine lk_ild hx hb hK hP 6 w (show w < nw1 by omega) rfl (by omega) (by decide) dL_law_855 ?_
                refine li_topi (show (fillK (waT nw1 σ1) 9 nw1 0) w 4 = σ1 12 w from (fillK_at (by omega) (by decide)).trans rfl) ?_
                refine lv_iconst (v := nI 2) hx hb dL_law_856 rfl ?_
                refine lv_icmp_ge (tgt := 862) hx hb dL_law_857 (by decide) (fun c132 => ?_) (fun c132 => ?_)
                · skip
                  have hl9 : lv_has ls 30 [(23, .int ((tau n pl nw1 ns σ1) 10 w)), (22, .int ((tau n pl nw1 ns σ1) 13 w)), (21, .int ((tau n pl nw1 ns σ1) 12 w)), (20, .int (nI w)), (19, .ref (a22 12 0)), (18, .int (nI (cnt (nwS σ1 (tau n pl nw1 ns σ1)) (w + 1)))), (17, .int (nI (sumN (mnW (tau n pl nw1 ns σ1) ns) w))), (16, .int (nI (cam n pl nw1 ns σ1))), (15, .int (windOf σ1)), (14, .int (nI (sumN (kn (tau n pl nw1 ns σ1) nw1) ns))), (13, .int (nI (lb (tau n pl nw1 ns σ1) nw1))), (12, .int (nI (hm (tau n pl nw1 ns σ1) nw1 (nI 2)))), (11, .int (nI who)), (10, .ref (a22 10 0)), (9, .ref (a22 9 0)), (8, .ref (a22 7 0)), (7, .ref (a22 5 0)), (6, .int (nI nw1)), (5, .int ((v3 >>> ((((nI t) / (nI 16)) * (nI 3)) &&& 31)) + (nI (89 * t)))), (4, .int (nI t)), (3, .int (nI ns)), (2, .ref (a22 1 0)), (1, .ref (a22 0 40)), (0, .ref b)] := lv_sub hl [1, 2, 3, 4, 5, 6, 7, 8, 9, 10, 11, 12, 13, 14, 15, 16, 17, 18, 19, 20, 21, 22, 23, 24] rfl
                  exact K862_102 (0 + 1) u129 (Nat.lt_succ_self _)  G locs hP hS ls hl9
                · exact absurd (k_857 hLV hw9 c130 c131) c132
