/-! the simulation: a step -/
def pe_Q (D : va_G) (W9 : Sg → va_W) (A : Nat → Prop) : Array Value → State → Outcome → State → Prop := va_Qi (fun (_ : Int32) (_ : Sg) => True) (fun u t => va_P D vwCl (W9 u) t.heap) A
theorem pe_of {l : Launch} {y : MethodName} {ws ws' : List Cond} {rm : Room} {cc : ByteArray} {maxL : Nat} {av : List Value} {D : va_G} {tys : List (ClassId × FieldType)} {w : va_W} {W9 : Sg → va_W} {H : Heap} {A : Nat → Prop} (hy : plainName y.cls = true) (hw : ws = Cond.code y cc maxL (some .int) :: ws') (hlen : (lg_sl av).length ≤ maxL)
    (body : ∀ (p : Program) (e : Env) (s : State) (m : MethodId) (args : Array Value) (below : List Frame) (meth : Method) (c : Code) (Q : State → Prop) (ls : Array Slot) (locs : List Loc),
      p.tables.exec = Jvm.exec → c.code = cc → c.maxLocals = maxL → s.vm.findClass y.cls = some m.cls → (∀ w ∈ ws, w.before args s = true) → va_K D vwCl tys s → lwE s → va_P D vwCl w H → lv_has ls maxL (lv_args 0 av) → va_S A H H locs →
      (∀ (pc : Nat) (ls : Array Slot) (H1 : Heap) (locs : List Loc) (v : Int32) (u : Sg), decode cc pc = .ok (.ireturn, 1) → va_P D vwCl (W9 u) H1 → va_S A H H1 locs → W p l e rm s m args below meth c H1 locs 0 0 Q (F0 m pc ls [.int v])) →
      W p l e rm s m args below meth c H locs 0 0 Q (F0 m 0 ls [])) : Met l y ws rm (ro_P D tys w H av) (pe_Q D W9 A) 0 0 A := by
  refine Met.ofW (cc := cc) (maxL := maxL) (ret := some .int) hy hw ?_
  intro p e s m args below meth c s₁ B hml hv
  obtain ⟨rfl, rfl, hP, hK, hE⟩ := hv
  have hx := B.exec
  have hb := B.bytes
  have hr := B.returns
  have hts := atoms_spec (ws := ws) B.pre
  have hown : s.vm.findClass y.cls = some m.cls := findClass_of_methodNamed B.named
  have hlocks := B.notSynchronized
  have hl := lv_entry av (n := maxL) hlen
  rw [lg_entry_eq]
  generalize (lg_sl av ++ List.replicate (maxL - (lg_sl av).length) Slot.unset).toArray = ls at hl ⊢
  exact body p e s m _ below meth c _ ls [] hx hb hml hown hts hK hE hP hl va_S.rf (fun pc ls H1 locs v u hd hP1 hS => W.zret (v := v) hx hb hr rfl (fun t ht hW => ⟨⟨v, u, rfl, trivial, by show va_P D vwCl (W9 u) t.heap; rw [ht]; exact hP1⟩, hS.F ht⟩) hS.2.2 hd hlocks)
theorem vu_up2 {E : Sg} {k i : Nat} {R : Nat → Int32} {x : Int32} : up2 (va_up E k R) k i x = va_up E k (upd R i x) := by
  funext r j
  rw [up2_at]
  unfold va_up upd
  by_cases h : r = k
  · subst h
    by_cases q : j = i
    · simp [q]
    · simp [q]
  · simp [h]
def qT (nw : Nat) (σ : Sg) : Sg := boF (windOf σ) nw (bdF (windOf σ) nw σ)
def qE (nw : Nat) (σ η : Sg) : Sg := lgE (qT nw σ) nw η nw
def qS (nw : Nat) (σ κ : Sg) : Sg := (t1 nw (σ, κ)).1
def qL (nw ns : Nat) (σ κ η : Sg) : Sg := lnE (qS nw σ κ) nw ns (qE nw σ η) nw 0
def qM (nw ns : Nat) (σ κ η : Sg) : Nat → Int32 := qL nw ns σ κ η 0
def qU (nw ns : Nat) (σ κ : Sg) : Sg := (sgF nw ns (t1 nw (σ, κ))).1
def qV (nw ns : Nat) (σ κ η : Sg) : Sg := thE (qU nw ns σ κ) (qL nw ns σ κ η) (k0 (qU nw ns σ κ))
def qQ (n pl nw ns : Nat) (σ κ : Sg) (f : Nat → Nat) (i : Nat) : P2 := goT n pl nw f i (dkS (qU nw ns σ κ) nw, k0 (qU nw ns σ κ))
theorem qS_lit {nw : Nat} {σ κ : Sg} (hz : bz (qT nw σ)) (hw : wz (qT nw σ)) : foldN (lg1 (qT nw σ) nw) nw (qT nw σ) = qS nw σ κ := (le_lg (κ := κ) hz hw).symm
theorem qU_eq {nw ns : Nat} {σ κ η : Sg} (hSV : SV nw (qS nw σ κ)) (hz : bz (qS nw σ κ)) (hns : ns ≤ 6) : sgK (qS nw σ κ) (qM nw ns σ κ η) ns nw 0 = qU nw ns σ κ := sgK_eq (κ := (t1 nw (σ, κ)).2) hSV hz hns
theorem qQ_t2 {n pl nw ns m : Nat} {σ κ : Sg} {f : Nat → Nat} (hOR : OR (qU nw ns σ κ) nw m f) (hPB : PB pl nw (qU nw ns σ κ)) (hpl : pl ≤ 200) (hnw : nw ≤ 20) : (qQ n pl nw ns σ κ f m).1 = (t2 n pl nw ns (σ, κ)).1 := goT_goF (κ := (sgF nw ns (t1 nw (σ, κ))).2) hOR hPB hpl hnw
set_option maxHeartbeats 4000000 in
set_option maxRecDepth 100000 in
theorem c_X3_pass (l : Launch) (D : va_G) (cI cZ cW cO : ClassId) (X : Nat → va_E) (a : Ka) (n nw ns : Nat) (σ η : Sg) (T : Ke) (H : Heap) (A : Nat → Prop) (hO : kO A (MS n nw) a) (hB : n ≤ 10 ∧ nw ≤ 20 ∧ ns ≤ 6) (pl : Nat) (t : Nat) (κ9 : Sg) (hI : INV n pl nw ns t σ) (hn0 : 0 < n) (ht : t < 2 ^ 30) (hAT : AT pl nw σ) (hST : ST σ) : Met l yX3_pass wsX3_pass ({ frames := 2, cells := 0, slots := 0, locals := 51 } : Room) (ro_P D (T4 cI cZ cW cO) (wK (MS n nw) a (eL cI cZ cW cO X a n nw ns σ η T)) H [.ref (a 1 0)]) (pe_Q D (fun u : Sg => wK (MS n nw) a (eL cI cZ cW cO X a n nw ns ((tsF n pl nw ns (σ, κ9)).1) u T)) A) 0 0 A := by
  refine pe_of (cc := cX3_pass) (maxL := 10) (by decide) rfl (Nat.le_of_ble_eq_true rfl) ?_
  intro p e s m args below meth c Q ls locs hx hb hml hown hts hK hE hP hl hS hEnd
  have hP : kP D (MS n nw) a (eL cI cZ cW cO X a n nw ns σ η T) H := kP.of hP
  have hl : lv_has ls 10 [(0, .ref (a 1 0))] := hl
  have hX3 : ∀ w ∈ wsX30, w.before args s = true := fun w h => hts w (List.mem_cons_of_mem _ (List.mem_append_left _ (List.mem_append_right _ (h))))
  have hX4 : ∀ w ∈ wsX40, w.before args s = true := fun w h => hts w (List.mem_cons_of_mem _ (List.mem_append_right _ (h)))
  have f18 : (Cond.fieldLink RX3 18 "LanternWalkLaw$Sim" "wind" "[I").before args s = true := hts _ (List.mem_of_getElem? (i := 1) rfl)
  have f52 : (Cond.fieldLink RX3 52 "LanternWalkLaw$Sim" "step" "I").before args s = true := hts _ (List.mem_of_getElem? (i := 2) rfl)
  have f23 : (Cond.fieldLink RX3 23 "LanternWalkLaw$Sim" "walkers" "[LLanternWalkLaw$Walker;").before args s = true := hts _ (List.mem_of_getElem? (i := 3) rfl)
  have f74 : (Cond.fieldLink RX3 74 "LanternWalkLaw$Walker" "state" "I").before args s = true := hts _ (List.mem_of_getElem? (i := 5) rfl)
  have f77 : (Cond.fieldLink RX3 77 "LanternWalkLaw$Walker" "place" "I").before args s = true := hts _ (List.mem_of_getElem? (i := 15) rfl)
  have f40 : (Cond.fieldLink RX3 40 "LanternWalkLaw$Sim" "order" "[I").before args s = true := hts _ (List.mem_of_getElem? (i := 14) rfl)
  have f100 : (Cond.fieldLink RX3 100 "LanternWalkLaw$Walker" "dark" "I").before args s = true := hts _ (List.mem_of_getElem? (i := 13) rfl)
  have f66 : (Cond.fieldLink RX3 66 "LanternWalkLaw$Walker" "burns" "Z").before args s = true := hts _ (List.mem_of_getElem? (i := 4) rfl)
  have f37 : (Cond.fieldLink RX3 37 "LanternWalkLaw$Sim" "through" "[I").before args s = true := hts _ (List.mem_of_getElem? (i := 12) rfl)
  have f27 : (Cond.fieldLink RX3 27 "LanternWalkLaw$Sim" "songs" "[I").before args s = true := hts _ (List.mem_of_getElem? (i := 8) rfl)
  have f34 : (Cond.fieldLink RX3 34 "LanternWalkLaw$Sim" "learns" "[I").before args s = true := hts _ (List.mem_of_getElem? (i := 9) rfl)
  have f97 : (Cond.fieldLink RX3 97 "LanternWalkLaw$Walker" "knows" "[I").before args s = true := hts _ (List.mem_of_getElem? (i := 10) rfl)
  have f63 : (Cond.fieldLink RX3 63 "LanternWalkLaw$Walker" "voice" "I").before args s = true := hts _ (List.mem_of_getElem? (i := 11) rfl)
  have f30 : (Cond.fieldLink RX3 30 "LanternWalkLaw$Sim" "lit" "[Z").before args s = true := hts _ (List.mem_of_getElem? (i := 7) rfl)
  have f60 : (Cond.fieldLink RX3 60 "LanternWalkLaw$Walker" "wick" "I").before args s = true := hts _ (List.mem_of_getElem? (i := 6) rfl)
  have hz := hI.2.1.1
  have hns6 := hB.2.2
  have hok := hI.2.1
  have hpl := hI.1.2.1
  have hz0 : bz (qT nw σ) := boF_bz (bdF_bz hz)
  have hw0 : wz (qT nw σ) := wz_row (bdF_wz hI.2.2.1) (boF_row (by omega))
  have hz1 : bz (qS nw σ κ9) := t1_bz (q := (σ, κ9)) hz
  have hSV1 : SV nw (qS nw σ κ9) := by unfold SV qS; rw [t1_rows (by omega) (by omega), t1_rows (by omega) (by omega)]; exact hI.2.2.2.2.2.2.1
  have r2 : ∀ r, r ≠ 10 → r ≠ 11 → r ≠ 16 → qU nw ns σ κ9 r = σ r := fun r h1 h2 h3 => by unfold qU; rw [sgF_row h3, t1_rows h1 h2]
  have hPB2 : PB pl nw (qU nw ns σ κ9) := PB_rows (r2 12 (by omega) (by omega) (by omega)) (r2 13 (by omega) (by omega) (by omega)) hI.2.2.2.2.1
  have hRF2 : RF n pl (qU nw ns σ κ9) := RF_rows hI.2.2.2.1 (r2 0 (by omega) (by omega) (by omega)) (r2 2 (by omega) (by omega) (by omega))
  have hAT2 : AT pl nw (qU nw ns σ κ9) := AT_rows hAT (r2 12 (by omega) (by omega) (by omega)) (r2 13 (by omega) (by omega) (by omega))
  have hLT2 : LT n (qU nw ns σ κ9) := LT_rows (r2 1 (by omega) (by omega) (by omega)) (r2 7 (by omega) (by omega) (by omega)) (L1_LT hI.2.2.2.2.2.1)
  have hpz : ∀ w, w < nw → qU nw ns σ κ9 12 w = nI 1 → qU nw ns σ κ9 13 w = nI (pz (qU nw ns σ κ9) w) ∧ pz (qU nw ns σ κ9) w < 200 := fun w hw hs => by obtain ⟨j, hj, e9⟩ := hPB2 w hw hs; unfold pz; rw [e9, nN_nI (by omega)]; exact ⟨rfl, by omega⟩
  have hwd : windOf σ = σ 3 (t % 10) := by unfold windOf; rw [hok.2.2, nN_nI (by omega)]
  have hST2 : ST (t2 n pl nw ns (σ, κ9)).1 := t2_ST hST
  refine lv_aload_n hx hb dX3_pass_0 rfl (lv_at hl 0 rfl) ?_
  refine lk_gf3 hx hb hX3 hown hK hP 1 0 (show 0 < 10 by decide) rfl 2 (by decide) f18 rfl dX3_pass_1 ?_
  refine lv_aload_n hx hb dX3_pass_4 rfl (lv_at hl 0 rfl) ?_
  refine lk_gf3 hx hb hX3 hown hK hP 1 0 (show 0 < 10 by decide) rfl 5 (by decide) f52 rfl dX3_pass_5 ?_
  refine li_topi (show σ 17 0 = nI t from hok.2.2) ?_
  refine lv_bipush (v := nI 10) hx hb dX3_pass_8 rfl ?_
  refine lv_irem hx hb dX3_pass_10 (by decide) ?_
  refine li_topi (show (nI t) - (nI t) / (nI 10) * (nI 10) = nI (t % 10) from pk_rem (by omega) (by decide) (by decide)) ?_
  refine lk_ild hx hb hK hP 1 3 (show 3 < 10 by decide) rfl (by omega) (by decide) dX3_pass_11 ?_
  refine li_topi (show σ 3 (t % 10) = windOf σ from hwd.symm) ?_
  refine lv_istore_n (lv' := [(1, .int (windOf σ)), (0, .ref (a 1 0))]) hx hb dX3_pass_12 rfl hl (by decide) rfl (fun ls hl => ?_)
  refine lv_aload_n hx hb dX3_pass_13 rfl (lv_at hl 1 rfl) ?_
  refine lk_gf3 hx hb hX3 hown hK hP 1 0 (show 0 < 10 by decide) rfl 3 (by decide) f23 rfl dX3_pass_14 ?_
  refine lv_astore_n (lv' := [(2, .ref (a 1 4)), (1, .int (windOf σ)), (0, .ref (a 1 0))]) hx hb dX3_pass_17 rfl hl (by decide) rfl (fun ls hl => ?_)
  refine lv_aload_n hx hb dX3_pass_18 rfl (lv_at hl 0 rfl) ?_
  refine lk_alen hx hb hK hP 1 4 (show 4 < 10 by decide) 2 rfl rfl dX3_pass_19 ?_
  refine lv_istore_n (lv' := [(3, .int (nI nw)), (2, .ref (a 1 4)), (1, .int (windOf σ)), (0, .ref (a 1 0))]) hx hb dX3_pass_20 rfl hl (by decide) rfl (fun ls hl => ?_)
  refine lv_iconst (v := nI 0) hx hb dX3_pass_21 rfl ?_
  refine lv_istore (lv' := [(4, .int (nI 0)), (3, .int (nI nw)), (2, .ref (a 1 4)), (1, .int (windOf σ)), (0, .ref (a 1 0))]) hx hb dX3_pass_22 hl (by decide) rfl (fun ls hl => ?_)
  have L24_1 : ∀ (fuel : Nat) (k : Nat), (nw - k) < fuel → (k ≤ nw) → ∀ (G : Heap) (locs : List Loc), kP D (MS n nw) a (eL cI cZ cW cO X a n nw ns (foldN (bd1 (lossOf (windOf σ))) k σ) η T) G → va_S A H G locs → ∀ (ls : Array Slot), lv_has ls 10 [(4, .int (nI k)), (3, .int (nI nw)), (2, .ref (a 1 4)), (1, .int (windOf σ)), (0, .ref (a 1 0))] → W p l e ({ frames := 2, cells := 0, slots := 0, locals := 51 } : Room) s m args below meth c G locs 0 0 Q (F0 m 24 ls []) := by
    intro fuel
    induction fuel with
    | zero =>
      intro k hfuel
      exact absurd hfuel (Nat.not_lt_zero _)
    | succ fuel ih24 =>
      intro k hfuel24 hk G locs hP hS ls hl
      refine lv_iload hx hb dX3_pass_24 (lv_at hl 0 rfl) ?_
      refine lv_iload_n hx hb dX3_pass_26 rfl (lv_at hl 1 rfl) ?_
      refine li_ge (tgt := 114) hx hb dX3_pass_27 (by decide) (by first | omega | (have := nb_le (σ := foldN (bo1 nw) k (bdF (windOf σ) nw σ)) (nw := nw) (w := k); omega) | (have := wa_le (σ := foldN (st1 nw) k8 (t2 n pl nw ns (σ, κ9)).1) (nw := nw) (z := nI 0); omega) | (have := (hpz _ (by omega) (by assumption)).2; omega) | (have := (hpz _ (by omega) hfa.2).2; omega)) (by first | omega | (have := nb_le (σ := foldN (bo1 nw) k (bdF (windOf σ) nw σ)) (nw := nw) (w := k); omega) | (have := wa_le (σ := foldN (st1 nw) k8 (t2 n pl nw ns (σ, κ9)).1) (nw := nw) (z := nI 0); omega) | (have := (hpz _ (by omega) (by assumption)).2; omega) | (have := (hpz _ (by omega) hfa.2).2; omega)) (fun c2 => ?_) (fun c2 => ?_)
      · skip
        have K174_3 : ∀ (fuel : Nat), 0 < fuel → ∀ (G : Heap) (locs : List Loc), kP D (MS n nw) a (eL cI cZ cW cO X a n nw ns (qT nw σ) η T) G → va_S A H G locs → ∀ (ls : Array Slot), lv_has ls 10 [(0, .ref (a 1 0))] → W p l e ({ frames := 2, cells := 0, slots := 0, locals := 51 } : Room) s m args below meth c G locs 0 0 Q (F0 m 174 ls []) := by
          intro fuel  _  G locs hP hS ls hl
          refine lv_iconst (v := nI 0) hx hb dX3_pass_174 rfl ?_
          refine lv_istore_n (lv' := [(2, .int (nI 0)), (0, .ref (a 1 0))]) hx hb dX3_pass_175 rfl hl (by decide) rfl (fun ls hl => ?_)
          have L176_4 : ∀ (fuel : Nat) (k : Nat), (nw - k) < fuel → (k ≤ nw) → ∀ (G : Heap) (locs : List Loc), kP D (MS n nw) a (eL cI cZ cW cO X a n nw ns (qT nw σ) (lgE (qT nw σ) nw η k) T) G → va_S A H G locs → ∀ (ls : Array Slot), lv_has ls 10 [(2, .int (nI k)), (0, .ref (a 1 0))] → W p l e ({ frames := 2, cells := 0, slots := 0, locals := 51 } : Room) s m args below meth c G locs 0 0 Q (F0 m 176 ls []) := by
            intro fuel
            induction fuel with
            | zero =>
              intro k hfuel
              exact absurd hfuel (Nat.not_lt_zero _)
            | succ fuel ih176 =>
              intro k hfuel176 hk G locs hP hS ls hl
              refine lv_iload_n hx hb dX3_pass_176 rfl (lv_at hl 0 rfl) ?_
              refine lv_aload_n hx hb dX3_pass_177 rfl (lv_at hl 1 rfl) ?_
              refine lk_gf3 hx hb hX3 hown hK hP 1 0 (show 0 < 10 by decide) rfl 3 (by decide) f23 rfl dX3_pass_178 ?_
              refine lk_alen hx hb hK hP 1 4 (show 4 < 10 by decide) 2 rfl rfl dX3_pass_181 ?_
              refine li_ge (tgt := 277) hx hb dX3_pass_182 (by decide) (by first | omega | (have := nb_le (σ := foldN (bo1 nw) k (bdF (windOf σ) nw σ)) (nw := nw) (w := k); omega) | (have := wa_le (σ := foldN (st1 nw) k8 (t2 n pl nw ns (σ, κ9)).1) (nw := nw) (z := nI 0); omega) | (have := (hpz _ (by omega) (by assumption)).2; omega) | (have := (hpz _ (by omega) hfa.2).2; omega)) (by first | omega | (have := nb_le (σ := foldN (bo1 nw) k (bdF (windOf σ) nw σ)) (nw := nw) (w := k); omega) | (have := wa_le (σ := foldN (st1 nw) k8 (t2 n pl nw ns (σ, κ9)).1) (nw := nw) (z := nI 0); omega) | (have := (hpz _ (by omega) (by assumption)).2; omega) | (have := (hpz _ (by omega) hfa.2).2; omega)) (fun c5 => ?_) (fun c5 => ?_)
              · skip
                have K314_6 : ∀ (fuel : Nat), 0 < fuel → ∀ (G : Heap) (locs : List Loc), kP D (MS n nw) a (eL cI cZ cW cO X a n nw ns (qS nw σ κ9) (qE nw σ η) T) G → va_S A H G locs → ∀ (ls : Array Slot), lv_has ls 10 [(0, .ref (a 1 0))] → W p l e ({ frames := 2, cells := 0, slots := 0, locals := 51 } : Room) s m args below meth c G locs 0 0 Q (F0 m 314 ls []) := by
                  intro fuel  _  G locs hP hS ls hl
                  refine lv_iconst (v := nI 0) hx hb dX3_pass_314 rfl ?_
                  refine lv_istore_n (lv' := [(2, .int (nI 0)), (0, .ref (a 1 0))]) hx hb dX3_pass_315 rfl hl (by decide) rfl (fun ls hl => ?_)
                  have L316_7 : ∀ (fuel : Nat) (k : Nat), (nw - k) < fuel → (k ≤ nw) → ∀ (G : Heap) (locs : List Loc), kP D (MS n nw) a (eL cI cZ cW cO X a n nw ns (qS nw σ κ9) (lnE (qS nw σ κ9) nw ns (qE nw σ η) k 0) T) G → va_S A H G locs → ∀ (ls : Array Slot), lv_has ls 10 [(2, .int (nI k)), (0, .ref (a 1 0))] → W p l e ({ frames := 2, cells := 0, slots := 0, locals := 51 } : Room) s m args below meth c G locs 0 0 Q (F0 m 316 ls []) := by
                    intro fuel
                    induction fuel with
                    | zero =>
                      intro k hfuel
                      exact absurd hfuel (Nat.not_lt_zero _)
                    | succ fuel ih316 =>
                      intro k hfuel316 hk G locs hP hS ls hl
                      refine lv_iload_n hx hb dX3_pass_316 rfl (lv_at hl 0 rfl) ?_
                      refine lv_aload_n hx hb dX3_pass_317 rfl (lv_at hl 1 rfl) ?_
                      refine lk_gf3 hx hb hX3 hown hK hP 1 0 (show 0 < 10 by decide) rfl 3 (by decide) f23 rfl dX3_pass_318 ?_
                      refine lk_alen hx hb hK hP 1 4 (show 4 < 10 by decide) 2 rfl rfl dX3_pass_321 ?_
                      refine li_ge (tgt := 561) hx hb dX3_pass_322 (by decide) (by first | omega | (have := nb_le (σ := foldN (bo1 nw) k (bdF (windOf σ) nw σ)) (nw := nw) (w := k); omega) | (have := wa_le (σ := foldN (st1 nw) k8 (t2 n pl nw ns (σ, κ9)).1) (nw := nw) (z := nI 0); omega) | (have := (hpz _ (by omega) (by assumption)).2; omega) | (have := (hpz _ (by omega) hfa.2).2; omega)) (by first | omega | (have := nb_le (σ := foldN (bo1 nw) k (bdF (windOf σ) nw σ)) (nw := nw) (w := k); omega) | (have := wa_le (σ := foldN (st1 nw) k8 (t2 n pl nw ns (σ, κ9)).1) (nw := nw) (z := nI 0); omega) | (have := (hpz _ (by omega) (by assumption)).2; omega) | (have := (hpz _ (by omega) hfa.2).2; omega)) (fun c8 => ?_) (fun c8 => ?_)
                      · skip
                        have K631_9 : ∀ (fuel : Nat), 0 < fuel → ∀ (G : Heap) (locs : List Loc), kP D (MS n nw) a (eL cI cZ cW cO X a n nw ns (qU nw ns σ κ9) (qL nw ns σ κ9 η) T) G → va_S A H G locs → ∀ (ls : Array Slot), lv_has ls 10 [(0, .ref (a 1 0))] → W p l e ({ frames := 2, cells := 0, slots := 0, locals := 51 } : Room) s m args below meth c G locs 0 0 Q (F0 m 631 ls []) := by
                          intro fuel  _  G locs hP hS ls hl
                          refine lv_iconst (v := nI 0) hx hb dX3_pass_631 rfl ?_
                          refine lv_istore_n (lv' := [(2, .int (nI 0)), (0, .ref (a 1 0))]) hx hb dX3_pass_632 rfl hl (by decide) rfl (fun ls hl => ?_)
                          refine lv_iconst (v := nI 0) hx hb dX3_pass_633 rfl ?_
                          refine lv_istore_n (lv' := [(3, .int (nI 0)), (2, .int (nI 0)), (0, .ref (a 1 0))]) hx hb dX3_pass_634 rfl hl (by decide) rfl (fun ls hl => ?_)
                          have L635_10 : ∀ (fuel : Nat) (k : Nat), (10 - k) < fuel → (k ≤ 10) → ∀ (G : Heap) (locs : List Loc), kP D (MS n nw) a (eL cI cZ cW cO X a n nw ns (qU nw ns σ κ9) (thZ (qL nw ns σ κ9 η) k) T) G → va_S A H G locs → ∀ (ls : Array Slot), lv_has ls 10 [(3, .int (nI k)), (2, .int (nI 0)), (0, .ref (a 1 0))] → W p l e ({ frames := 2, cells := 0, slots := 0, locals := 51 } : Room) s m args below meth c G locs 0 0 Q (F0 m 635 ls []) := by
                            intro fuel
                            induction fuel with
                            | zero =>
                              intro k hfuel
                              exact absurd hfuel (Nat.not_lt_zero _)
                            | succ fuel ih635 =>
                              intro k hfuel635 hk G locs hP hS ls hl
                              refine lv_iload_n hx hb dX3_pass_635 rfl (lv_at hl 0 rfl) ?_
                              refine lv_bipush (v := nI 10) hx hb dX3_pass_636 rfl ?_
                              refine li_ge (tgt := 654) hx hb dX3_pass_638 (by decide) (by first | omega | (have := nb_le (σ := foldN (bo1 nw) k (bdF (windOf σ) nw σ)) (nw := nw) (w := k); omega) | (have := wa_le (σ := foldN (st1 nw) k8 (t2 n pl nw ns (σ, κ9)).1) (nw := nw) (z := nI 0); omega) | (have := (hpz _ (by omega) (by assumption)).2; omega) | (have := (hpz _ (by omega) hfa.2).2; omega)) (by first | omega | (have := nb_le (σ := foldN (bo1 nw) k (bdF (windOf σ) nw σ)) (nw := nw) (w := k); omega) | (have := wa_le (σ := foldN (st1 nw) k8 (t2 n pl nw ns (σ, κ9)).1) (nw := nw) (z := nI 0); omega) | (have := (hpz _ (by omega) (by assumption)).2; omega) | (have := (hpz _ (by omega) hfa.2).2; omega)) (fun c11 => ?_) (fun c11 => ?_)
                              · skip
                                refine lv_iconst (v := nI 0) hx hb dX3_pass_654 rfl ?_
                                have hP : kP D (MS n nw) a (eL cI cZ cW cO X a n nw ns (qU nw ns σ κ9) (qV nw ns σ κ9 η) T) G := kP.reE (Nat.le_refl 10) hP (fun i _ => by unfold qV; rw [thE_ne (by omega), thZ_ne (by omega)]) (fun i _ => by unfold qV; rw [thE_ne (by omega), thZ_ne (by omega)]) (fun i hi => by unfold qV; rw [thE_k0, thZ_2 (by omega)]) (fun i _ => by unfold qV; rw [thE_ne (by omega), thZ_ne (by omega)])
                                refine lv_istore_n (lv' := [(3, .int (nI 0)), (2, .int (nI 0)), (0, .ref (a 1 0))]) hx hb dX3_pass_655 rfl hl (by decide) rfl (fun ls hl => ?_)
                                refine lv_iconst (v := nI 0) hx hb dX3_pass_656 rfl ?_
                                refine lv_istore (lv' := [(4, .int (nI 0)), (3, .int (nI 0)), (2, .int (nI 0)), (0, .ref (a 1 0))]) hx hb dX3_pass_657 hl (by decide) rfl (fun ls hl => ?_)
                                have L659_12 : ∀ (fuel : Nat) (k : Nat) (m9 : Nat) (R : Nat → Int32) (f : Nat → Nat), (nw - k) < fuel → (k ≤ nw) → (OR (qU nw ns σ κ9) k m9 f) → (∀ i, i < m9 → R i = nI (f i)) → ∀ (G : Heap) (locs : List Loc), kP D (MS n nw) a (eL cI cZ cW cO X a n nw ns (dkS (qU nw ns σ κ9) k) (va_up (qV nw ns σ κ9 η) 3 R) T) G → va_S A H G locs → ∀ (ls : Array Slot), lv_has ls 10 [(4, .int (nI k)), (3, .int (nI m9)), (2, .int (nI 0)), (0, .ref (a 1 0))] → W p l e ({ frames := 2, cells := 0, slots := 0, locals := 51 } : Room) s m args below meth c G locs 0 0 Q (F0 m 659 ls []) := by
                                  intro fuel
                                  induction fuel with
                                  | zero =>
                                    intro k m9 R f hfuel
                                    exact absurd hfuel (Nat.not_lt_zero _)
                                  | succ fuel ih659 =>
                                    intro k m9 R f hfuel659 hk hOR hR G locs hP hS ls hl
                                    have hOR1 := hOR.1
                                    refine lv_iload hx hb dX3_pass_659 (lv_at hl 0 rfl) ?_
                                    refine lv_aload_n hx hb dX3_pass_661 rfl (lv_at hl 3 rfl) ?_
                                    refine lk_gf3 hx hb hX3 hown hK hP 1 0 (show 0 < 10 by decide) rfl 3 (by decide) f23 rfl dX3_pass_662 ?_
                                    refine lk_alen hx hb hK hP 1 4 (show 4 < 10 by decide) 2 rfl rfl dX3_pass_665 ?_
                                    refine li_ge (tgt := 797) hx hb dX3_pass_666 (by decide) (by first | omega | (have := nb_le (σ := foldN (bo1 nw) k (bdF (windOf σ) nw σ)) (nw := nw) (w := k); omega) | (have := wa_le (σ := foldN (st1 nw) k8 (t2 n pl nw ns (σ, κ9)).1) (nw := nw) (z := nI 0); omega) | (have := (hpz _ (by omega) (by assumption)).2; omega) | (have := (hpz _ (by omega) hfa.2).2; omega)) (by first | omega | (have := nb_le (σ := foldN (bo1 nw) k (bdF (windOf σ) nw σ)) (nw := nw) (w := k); omega) | (have := wa_le (σ := foldN (st1 nw) k8 (t2 n pl nw ns (σ, κ9)).1) (nw := nw) (z := nI 0); omega) | (have := (hpz _ (by omega) (by assumption)).2; omega) | (have := (hpz _ (by omega) hfa.2).2; omega)) (fun c13 => ?_) (fun c13 => ?_)
                                    · skip
                                      refine lv_iconst (v := nI 0) hx hb dX3_pass_797 rfl ?_
                                      have hORn : OR (qU nw ns σ κ9) nw m9 f := by have h8 := hOR; rw [show k = nw by omega] at h8; exact h8
                                      have hO1 := hORn.1
                                      refine lv_istore (lv' := [(4, .int (nI 0)), (3, .int (nI m9)), (2, .int (nI 0)), (0, .ref (a 1 0))]) hx hb dX3_pass_798 hl (by decide) rfl (fun ls hl => ?_)
                                      have L800_14 : ∀ (fuel : Nat) (i : Nat) (x9 : Int32), (m9 - i) < fuel → (i ≤ m9) → (gT n pl nw m9 (qU nw ns σ κ9) f i (qQ n pl nw ns σ κ9 f i)) → ∀ (G : Heap) (locs : List Loc), kP D (MS n nw) a (eL cI cZ cW cO X a n nw ns ((qQ n pl nw ns σ κ9 f i).1) (thE (qU nw ns σ κ9) (va_up (qV nw ns σ κ9 η) 3 R) (qQ n pl nw ns σ κ9 f i).2) T) G → va_S A H G locs → ∀ (ls : Array Slot), lv_has ls 10 [(4, .int (nI i)), (3, .int (nI m9)), (2, .int x9), (0, .ref (a 1 0))] → W p l e ({ frames := 2, cells := 0, slots := 0, locals := 51 } : Room) s m args below meth c G locs 0 0 Q (F0 m 800 ls []) := by
                                        intro fuel
                                        induction fuel with
                                        | zero =>
                                          intro i x9 hfuel
                                          exact absurd hfuel (Nat.not_lt_zero _)
                                        | succ fuel ih800 =>
                                          intro i x9 hfuel800 hi hg G locs hP hS ls hl
                                          refine lv_iload hx hb dX3_pass_800 (lv_at hl 0 rfl) ?_
                                          refine lv_iload_n hx hb dX3_pass_802 rfl (lv_at hl 1 rfl) ?_
                                          refine li_ge (tgt := 855) hx hb dX3_pass_803 (by decide) (by first | omega | (have := nb_le (σ := foldN (bo1 nw) k (bdF (windOf σ) nw σ)) (nw := nw) (w := k); omega) | (have := wa_le (σ := foldN (st1 nw) k8 (t2 n pl nw ns (σ, κ9)).1) (nw := nw) (z := nI 0); omega) | (have := (hpz _ (by omega) (by assumption)).2; omega) | (have := (hpz _ (by omega) hfa.2).2; omega)) (by first | omega | (have := nb_le (σ := foldN (bo1 nw) k (bdF (windOf σ) nw σ)) (nw := nw) (w := k); omega) | (have := wa_le (σ := foldN (st1 nw) k8 (t2 n pl nw ns (σ, κ9)).1) (nw := nw) (z := nI 0); omega) | (have := (hpz _ (by omega) (by assumption)).2; omega) | (have := (hpz _ (by omega) hfa.2).2; omega)) (fun c15 => ?_) (fun c15 => ?_)
                                          · skip
                                            refine lv_aload_n hx hb dX3_pass_855 rfl (lv_at hl 3 rfl) ?_
                                            refine lk_gf3 hx hb hX3 hown hK hP 1 0 (show 0 < 10 by decide) rfl 3 (by decide) f23 rfl dX3_pass_856 ?_
                                            refine lv_astore (lv' := [(4, .ref (a 1 4)), (3, .int (nI m9)), (2, .int x9), (0, .ref (a 1 0))]) hx hb dX3_pass_859 hl (by decide) rfl (fun ls hl => ?_)
                                            refine lv_aload hx hb dX3_pass_861 (lv_at hl 0 rfl) ?_
                                            refine lk_alen hx hb hK hP 1 4 (show 4 < 10 by decide) 2 rfl rfl dX3_pass_863 ?_
                                            refine lv_istore (lv' := [(5, .int (nI nw)), (4, .ref (a 1 4)), (3, .int (nI m9)), (2, .int x9), (0, .ref (a 1 0))]) hx hb dX3_pass_864 hl (by decide) rfl (fun ls hl => ?_)
                                            refine lv_iconst (v := nI 0) hx hb dX3_pass_866 rfl ?_
                                            refine lv_istore (lv' := [(6, .int (nI 0)), (5, .int (nI nw)), (4, .ref (a 1 4)), (3, .int (nI m9)), (2, .int x9), (0, .ref (a 1 0))]) hx hb dX3_pass_867 hl (by decide) rfl (fun ls hl => ?_)
                                            have L869_16 : ∀ (fuel : Nat) (k8 : Nat), (nw - k8) < fuel → (k8 ≤ nw) → ∀ (G : Heap) (locs : List Loc), kP D (MS n nw) a (eL cI cZ cW cO X a n nw ns (foldN (st1 nw) k8 (t2 n pl nw ns (σ, κ9)).1) (thE (qU nw ns σ κ9) (va_up (qV nw ns σ κ9 η) 3 R) (qQ n pl nw ns σ κ9 f i).2) T) G → va_S A H G locs → ∀ (ls : Array Slot), lv_has ls 10 [(6, .int (nI k8)), (5, .int (nI nw)), (4, .ref (a 1 4)), (3, .int (nI m9)), (2, .int x9), (0, .ref (a 1 0))] → W p l e ({ frames := 2, cells := 0, slots := 0, locals := 51 } : Room) s m args below meth c G locs 0 0 Q (F0 m 869 ls []) := by
                                              intro fuel
                                              induction fuel with
                                              | zero =>
                                                intro k8 hfuel
                                                exact absurd hfuel (Nat.not_lt_zero _)
                                              | succ fuel ih869 =>
                                                intro k8 hfuel869 hk8 G locs hP hS ls hl
                                                refine lv_iload hx hb dX3_pass_869 (lv_at hl 0 rfl) ?_
                                                refine lv_iload hx hb dX3_pass_871 (lv_at hl 1 rfl) ?_
                                                refine li_ge (tgt := 921) hx hb dX3_pass_873 (by decide) (by first | omega | (have := nb_le (σ := foldN (bo1 nw) k (bdF (windOf σ) nw σ)) (nw := nw) (w := k); omega) | (have := wa_le (σ := foldN (st1 nw) k8 (t2 n pl nw ns (σ, κ9)).1) (nw := nw) (z := nI 0); omega) | (have := (hpz _ (by omega) (by assumption)).2; omega) | (have := (hpz _ (by omega) hfa.2).2; omega)) (by first | omega | (have := nb_le (σ := foldN (bo1 nw) k (bdF (windOf σ) nw σ)) (nw := nw) (w := k); omega) | (have := wa_le (σ := foldN (st1 nw) k8 (t2 n pl nw ns (σ, κ9)).1) (nw := nw) (z := nI 0); omega) | (have := (hpz _ (by omega) (by assumption)).2; omega) | (have := (hpz _ (by omega) hfa.2).2; omega)) (fun c17 => ?_) (fun c17 => ?_)
                                                · skip
                                                  refine lv_aload_n hx hb dX3_pass_921 rfl (lv_at hl 5 rfl) ?_
                                                  refine lv_dup hx hb dX3_pass_922 rfl ?_
                                                  refine lk_gf3 hx hb hX3 hown hK hP 1 0 (show 0 < 10 by decide) rfl 5 (by decide) f52 rfl dX3_pass_923 ?_
                                                  refine lv_iconst (v := nI 1) hx hb dX3_pass_926 rfl ?_
                                                  refine lv_iadd hx hb dX3_pass_927 ?_
                                                  refine lk_pf3 hx hb hX3 hown hK hP hO hS 1 0 (show 0 < 10 by decide) rfl 5 (by decide) f52 rfl rfl rfl (Nat.le_of_ble_eq_true rfl) stS_17 dX3_pass_928 (fun G locs hP hS => ?_)
                                                  refine lv_iload_n hx hb dX3_pass_931 rfl (lv_at hl 4 rfl) ?_
                                                  have hw9 : up2 (foldN (st1 nw) k8 (t2 n pl nw ns (σ, κ9)).1) 17 0 (((foldN (st1 nw) k8 (t2 n pl nw ns (σ, κ9)).1) 17 0) + (nI 1)) = (tsF n pl nw ns (σ, κ9)).1 := by rw [show k8 = nw by omega]; rfl
                                                  have hP : kP D (MS n nw) a (eL cI cZ cW cO X a n nw ns ((tsF n pl nw ns (σ, κ9)).1) (thE (qU nw ns σ κ9) (va_up (qV nw ns σ κ9 η) 3 R) (qQ n pl nw ns σ κ9 f i).2) T) G := Eq.mp (congrArg (fun z9 => kP D (MS n nw) a (eL cI cZ cW cO X a n nw ns z9 (thE (qU nw ns σ κ9) (va_up (qV nw ns σ κ9 η) 3 R) (qQ n pl nw ns σ κ9 f i).2) T) G) hw9) hP
                                                  clear hw9
                                                  exact hEnd 932 ls G locs _ (thE (qU nw ns σ κ9) (va_up (qV nw ns σ κ9 η) 3 R) (qQ n pl nw ns σ κ9 f i).2) dX3_pass_932 hP.w hS
                                                · skip
                                                  refine lv_aload hx hb dX3_pass_876 (lv_at hl 2 rfl) ?_
                                                  refine lv_iload hx hb dX3_pass_878 (lv_at hl 0 rfl) ?_
                                                  refine lk_aldW hx hb hK hP 1 4 (show 4 < 10 by decide) rfl (by omega) (by omega) (rfs_at (by omega)) dX3_pass_880 ?_
                                                  refine lv_astore (lv' := [(7, .ref (a 3 k8)), (6, .int (nI k8)), (5, .int (nI nw)), (4, .ref (a 1 4)), (3, .int (nI m9)), (2, .int x9), (0, .ref (a 1 0))]) hx hb dX3_pass_881 hl (by decide) rfl (fun ls hl => ?_)
                                                  refine lv_aload hx hb dX3_pass_883 (lv_at hl 0 rfl) ?_
                                                  refine lk_gf4 hx hb hX4 hown hK hP 3 k8 (show k8 < nw by omega) rfl 4 (by decide) f74 rfl dX3_pass_885 ?_
                                                  refine lv_if_gt (tgt := 915) hx hb dX3_pass_888 (by decide) (fun c18 => ?_) (fun c18 => ?_)
                                                  · skip
                                                    have hp9 := c18
                                                    refine lv_iinc (v := nI (k8 + 1)) (lv' := [(6, .int (nI (k8 + 1))), (7, .ref (a 3 k8)), (5, .int (nI nw)), (4, .ref (a 1 4)), (3, .int (nI m9)), (2, .int x9), (0, .ref (a 1 0))]) hx hb dX3_pass_915 hl (k := 1) rfl (nI_inc _ _) (by decide) rfl (fun ls hl => ?_)
                                                    refine lv_goto (tgt := 869) hx hb dX3_pass_918 (by decide) ?_
                                                    have hw9 : foldN (st1 nw) k8 (t2 n pl nw ns (σ, κ9)).1 = foldN (st1 nw) (k8 + 1) (t2 n pl nw ns (σ, κ9)).1 := by first | rfl | exact (st1_2 (by omega)).symm | exact (st1_0 (fun z => by rw [z] at hp9; exact absurd hp9 (by decide))).symm | exact (st1_a h09 (by omega)).symm
                                                    have hP : kP D (MS n nw) a (eL cI cZ cW cO X a n nw ns (foldN (st1 nw) (k8 + 1) (t2 n pl nw ns (σ, κ9)).1) (thE (qU nw ns σ κ9) (va_up (qV nw ns σ κ9 η) 3 R) (qQ n pl nw ns σ κ9 f i).2) T) G := Eq.mp (congrArg (fun z9 => kP D (MS n nw) a (eL cI cZ cW cO X a n nw ns z9 (thE (qU nw ns σ κ9) (va_up (qV nw ns σ κ9 η) 3 R) (qQ n pl nw ns σ κ9 f i).2) T) G) hw9) hP
                                                    clear hw9
                                                    have hl9 : lv_has ls 10 [(6, .int (nI (k8 + 1))), (5, .int (nI nw)), (4, .ref (a 1 4)), (3, .int (nI m9)), (2, .int x9), (0, .ref (a 1 0))] := lv_sub hl [0, 2, 3, 4, 5, 6] rfl
                                                    exact ih869 (k8 + 1) (by omega) (by omega) G locs hP hS ls hl9
                                                  · skip
                                                    have h09 := Int32.le_antisymm (Int32.not_lt.mp c18) (st1S_ST (nw := nw) hST2 k8 k8)
                                                    refine lv_aload_n hx hb dX3_pass_891 rfl (lv_at hl 6 rfl) ?_
                                                    refine lv_iconst (v := nI 0) hx hb dX3_pass_892 rfl ?_
                                                    obtain ⟨q9, hq9, -⟩ := wK_at (M := MS n nw) (a := a) (e := eL cI cZ cW cO X a n nw ns (foldN (st1 nw) k8 (t2 n pl nw ns (σ, κ9)).1) (thE (qU nw ns σ κ9) (va_up (qV nw ns σ κ9 η) 3 R) (qQ n pl nw ns σ κ9 f i).2) T) (c := 1) (i := 0) (show 0 < 10 by decide)
                                                    refine roV (As := [.int (nI 0)]) (q0 := q9) (ci := 3) hx hb hml hown hts (c_X3_on l D cI cZ cW cO X a n nw ns (foldN (st1 nw) k8 (t2 n pl nw ns (σ, κ9)).1) (thE (qU nw ns σ κ9) (va_up (qV nw ns σ κ9 η) 3 R) (qQ n pl nw ns σ κ9 f i).2) T G (nI 0) A hO hB) (cwV 1 hts gX3_pass_X3_on rfl rfl rfl (by decide +kernel) ⟨by decide, by decide⟩) hK hE hP.w rfl rfl hq9 rfl hl.1 rfl (Nat.le_of_ble_eq_true rfl) hS dX3_pass_893 ⟨Nat.zero_le _, Nat.zero_le _⟩ (fun locs hS => ?_)
                                                    refine lv_iconst (v := nI 2) hx hb dX3_pass_896 rfl ?_
                                                    refine li_lt (tgt := 903) hx hb dX3_pass_897 (by decide) (by first | omega | (have := nb_le (σ := foldN (bo1 nw) k (bdF (windOf σ) nw σ)) (nw := nw) (w := k); omega) | (have := wa_le (σ := foldN (st1 nw) k8 (t2 n pl nw ns (σ, κ9)).1) (nw := nw) (z := nI 0); omega) | (have := (hpz _ (by omega) (by assumption)).2; omega) | (have := (hpz _ (by omega) hfa.2).2; omega)) (by first | omega | (have := nb_le (σ := foldN (bo1 nw) k (bdF (windOf σ) nw σ)) (nw := nw) (w := k); omega) | (have := wa_le (σ := foldN (st1 nw) k8 (t2 n pl nw ns (σ, κ9)).1) (nw := nw) (z := nI 0); omega) | (have := (hpz _ (by omega) (by assumption)).2; omega) | (have := (hpz _ (by omega) hfa.2).2; omega)) (fun c19 => ?_) (fun c19 => ?_)
                                                    · skip
                                                      refine lv_aload hx hb dX3_pass_903 (lv_at hl 0 rfl) ?_
                                                      refine lv_iconst (v := nI 1) hx hb dX3_pass_905 rfl ?_
                                                      refine lk_pf4 hx hb hX4 hown hK hP hO hS 3 k8 (show k8 < nw by omega) rfl 4 (by decide) f74 rfl rfl rfl (Nat.le_of_ble_eq_true rfl) stS_12 dX3_pass_906 (fun G locs hP hS => ?_)
                                                      refine lv_aload hx hb dX3_pass_909 (lv_at hl 0 rfl) ?_
                                                      refine lv_iconst (v := nI 0) hx hb dX3_pass_911 rfl ?_
                                                      refine lk_pf4 hx hb hX4 hown hK hP hO hS 3 k8 (show k8 < nw by omega) rfl 5 (by decide) f77 rfl rfl rfl (Nat.le_of_ble_eq_true rfl) stS_13 dX3_pass_912 (fun G locs hP hS => ?_)
                                                      refine lv_iinc (v := nI (k8 + 1)) (lv' := [(6, .int (nI (k8 + 1))), (7, .ref (a 3 k8)), (5, .int (nI nw)), (4, .ref (a 1 4)), (3, .int (nI m9)), (2, .int x9), (0, .ref (a 1 0))]) hx hb dX3_pass_915 hl (k := 1) rfl (nI_inc _ _) (by decide) rfl (fun ls hl => ?_)
                                                      refine lv_goto (tgt := 869) hx hb dX3_pass_918 (by decide) ?_
                                                      have hw9 : up2 (up2 (foldN (st1 nw) k8 (t2 n pl nw ns (σ, κ9)).1) 12 k8 (nI 1)) 13 k8 (nI 0) = foldN (st1 nw) (k8 + 1) (t2 n pl nw ns (σ, κ9)).1 := by first | rfl | exact (st1_2 (by omega)).symm | exact (st1_0 (fun z => by rw [z] at hp9; exact absurd hp9 (by decide))).symm | exact (st1_a h09 (by omega)).symm
                                                      have hP : kP D (MS n nw) a (eL cI cZ cW cO X a n nw ns (foldN (st1 nw) (k8 + 1) (t2 n pl nw ns (σ, κ9)).1) (thE (qU nw ns σ κ9) (va_up (qV nw ns σ κ9 η) 3 R) (qQ n pl nw ns σ κ9 f i).2) T) G := Eq.mp (congrArg (fun z9 => kP D (MS n nw) a (eL cI cZ cW cO X a n nw ns z9 (thE (qU nw ns σ κ9) (va_up (qV nw ns σ κ9 η) 3 R) (qQ n pl nw ns σ κ9 f i).2) T) G) hw9) hP
                                                      clear hw9
                                                      have hl9 : lv_has ls 10 [(6, .int (nI (k8 + 1))), (5, .int (nI nw)), (4, .ref (a 1 4)), (3, .int (nI m9)), (2, .int x9), (0, .ref (a 1 0))] := lv_sub hl [0, 2, 3, 4, 5, 6] rfl
                                                      exact ih869 (k8 + 1) (by omega) (by omega) G locs hP hS ls hl9
                                                    · skip
                                                      refine lv_goto (tgt := 915) hx hb dX3_pass_900 (by decide) ?_
                                                      refine lv_iinc (v := nI (k8 + 1)) (lv' := [(6, .int (nI (k8 + 1))), (7, .ref (a 3 k8)), (5, .int (nI nw)), (4, .ref (a 1 4)), (3, .int (nI m9)), (2, .int x9), (0, .ref (a 1 0))]) hx hb dX3_pass_915 hl (k := 1) rfl (nI_inc _ _) (by decide) rfl (fun ls hl => ?_)
                                                      refine lv_goto (tgt := 869) hx hb dX3_pass_918 (by decide) ?_
                                                      have hw9 : foldN (st1 nw) k8 (t2 n pl nw ns (σ, κ9)).1 = foldN (st1 nw) (k8 + 1) (t2 n pl nw ns (σ, κ9)).1 := by first | rfl | exact (st1_2 (by omega)).symm | exact (st1_0 (fun z => by rw [z] at hp9; exact absurd hp9 (by decide))).symm | exact (st1_a h09 (by omega)).symm
                                                      have hP : kP D (MS n nw) a (eL cI cZ cW cO X a n nw ns (foldN (st1 nw) (k8 + 1) (t2 n pl nw ns (σ, κ9)).1) (thE (qU nw ns σ κ9) (va_up (qV nw ns σ κ9 η) 3 R) (qQ n pl nw ns σ κ9 f i).2) T) G := Eq.mp (congrArg (fun z9 => kP D (MS n nw) a (eL cI cZ cW cO X a n nw ns z9 (thE (qU nw ns σ κ9) (va_up (qV nw ns σ κ9 η) 3 R) (qQ n pl nw ns σ κ9 f i).2) T) G) hw9) hP
                                                      clear hw9
                                                      have hl9 : lv_has ls 10 [(6, .int (nI (k8 + 1))), (5, .int (nI nw)), (4, .ref (a 1 4)), (3, .int (nI m9)), (2, .int x9), (0, .ref (a 1 0))] := lv_sub hl [0, 2, 3, 4, 5, 6] rfl
                                                      exact ih869 (k8 + 1) (by omega) (by omega) G locs hP hS ls hl9
                                            have hw9 : (qQ n pl nw ns σ κ9 f i).1 = foldN (st1 nw) 0 (t2 n pl nw ns (σ, κ9)).1 := by rw [show i = m9 by omega]; exact qQ_t2 hORn hPB2 hpl hB.2.1
                                            have hP : kP D (MS n nw) a (eL cI cZ cW cO X a n nw ns (foldN (st1 nw) 0 (t2 n pl nw ns (σ, κ9)).1) (thE (qU nw ns σ κ9) (va_up (qV nw ns σ κ9 η) 3 R) (qQ n pl nw ns σ κ9 f i).2) T) G := Eq.mp (congrArg (fun z9 => kP D (MS n nw) a (eL cI cZ cW cO X a n nw ns z9 (thE (qU nw ns σ κ9) (va_up (qV nw ns σ κ9 η) 3 R) (qQ n pl nw ns σ κ9 f i).2) T) G) hw9) hP
                                            clear hw9
                                            have hl9 : lv_has ls 10 [(6, .int (nI 0)), (5, .int (nI nw)), (4, .ref (a 1 4)), (3, .int (nI m9)), (2, .int x9), (0, .ref (a 1 0))] := lv_sub hl [0, 1, 2, 3, 4, 5] rfl
                                            exact L869_16 ((nw - 0) + 1) 0 (Nat.lt_succ_self _) (by omega) G locs hP hS ls hl9
                                          · skip
                                            refine lv_aload_n hx hb dX3_pass_806 rfl (lv_at hl 3 rfl) ?_
                                            refine lv_aload_n hx hb dX3_pass_807 rfl (lv_at hl 3 rfl) ?_
                                            refine lk_gf3 hx hb hX3 hown hK hP 1 0 (show 0 < 10 by decide) rfl 3 (by decide) f23 rfl dX3_pass_808 ?_
                                            refine lv_aload_n hx hb dX3_pass_811 rfl (lv_at hl 3 rfl) ?_
                                            refine lk_gf3 hx hb hX3 hown hK hP 1 0 (show 0 < 10 by decide) rfl 9 (by decide) f40 rfl dX3_pass_812 ?_
                                            refine lv_iload hx hb dX3_pass_815 (lv_at hl 0 rfl) ?_
                                            refine lk_ild hx hb hK hP 1 9 (show 9 < 10 by decide) rfl (by omega) (by decide) dX3_pass_817 ?_
                                            refine li_topi (show (thE (qU nw ns σ κ9) (va_up (qV nw ns σ κ9 η) 3 R) (qQ n pl nw ns σ κ9 f i).2) 3 i = nI (f i) from hR i (by omega)) ?_
                                            have hfi := (hORn.2.1 i (by omega)).1
                                            refine lk_aldW hx hb hK hP 1 4 (show 4 < 10 by decide) rfl (by omega) (by omega) (rfs_at (by omega)) dX3_pass_818 ?_
                                            obtain ⟨q9, hq9, -⟩ := wK_at (M := MS n nw) (a := a) (e := eL cI cZ cW cO X a n nw ns ((qQ n pl nw ns σ κ9 f i).1) (thE (qU nw ns σ κ9) (va_up (qV nw ns σ κ9 η) 3 R) (qQ n pl nw ns σ κ9 f i).2) T) (c := 1) (i := 0) (show 0 < 10 by decide)
                                            refine muV (As := [.ref (a 3 (f i))]) (q0 := q9) (ci := 3) hx hb hml hown hts (c_X3_go l D cI cZ cW cO X a n nw ns ((qQ n pl nw ns σ κ9 f i).1) (thE (qU nw ns σ κ9) (va_up (qV nw ns σ κ9 η) 3 R) (qQ n pl nw ns σ κ9 f i).2) T G (f i) A hO hB (pl) ((qQ n pl nw ns σ κ9 f i).2) (hpl) ((hORn.2.1 i (by omega)).1) ((thr_rows ((hg.1 1 (by unfold goK; omega)).trans (dkS_row (by omega))) ((hg.1 7 (by unfold goK; omega)).trans (dkS_row (by omega)))).symm) (RF_rows hRF2 ((hg.1 0 (by unfold goK; omega)).trans (dkS_row (by omega))) ((hg.1 2 (by unfold goK; omega)).trans (dkS_row (by omega)))) (hg.2.1) (hn0) (by have h9 := hok.2.1 _ (hORn.2.1 i (by omega)).1; rw [show ((qQ n pl nw ns σ κ9 f i).1) 4 = σ 4 from ((hg.1 4 (by unfold goK; omega)).trans (dkS_row (by omega))).trans (r2 4 (by omega) (by omega) (by omega))]; exact h9) (TH_rows ((hg.1 1 (by unfold goK; omega)).trans (dkS_row (by omega))) ((hg.1 7 (by unfold goK; omega)).trans (dkS_row (by omega))) hg.2.2.1) (hg.2.2.2.1) (hg.2.2.2.2 i (Nat.le_refl i) (by omega))) (cwV 1 hts gX3_pass_X3_go rfl rfl rfl (by decide +kernel) ⟨by decide, by decide⟩) hK hE hP.w rfl rfl hq9 rfl hl.1 rfl (Nat.le_of_ble_eq_true rfl) hS (fun _ h => h) dX3_pass_819 ⟨Nat.zero_le _, Nat.zero_le _⟩ (fun G locs hP1 _ hk1 hS => ?_)
                                            have hP : kP D (MS n nw) a (eL cI cZ cW cO X a n nw ns ((wl n pl nw (f i) (wkP (f i) ((qQ n pl nw ns σ κ9 f i).1)) (true, (((qQ n pl nw ns σ κ9 f i).1), ((qQ n pl nw ns σ κ9 f i).2)))).2.1) (thE ((qQ n pl nw ns σ κ9 f i).1) (thE (qU nw ns σ κ9) (va_up (qV nw ns σ κ9 η) 3 R) (qQ n pl nw ns σ κ9 f i).2) (wl n pl nw (f i) (wkP (f i) ((qQ n pl nw ns σ κ9 f i).1)) (true, (((qQ n pl nw ns σ κ9 f i).1), ((qQ n pl nw ns σ κ9 f i).2)))).2.2) T) G := kP.of hP1
                                            have hw9 : (wl n pl nw (f i) (wkP (f i) ((qQ n pl nw ns σ κ9 f i).1)) (true, (((qQ n pl nw ns σ κ9 f i).1), ((qQ n pl nw ns σ κ9 f i).2)))).2.1 = (qQ n pl nw ns σ κ9 f (i + 1)).1 := rfl
                                            have hP : kP D (MS n nw) a (eL cI cZ cW cO X a n nw ns ((qQ n pl nw ns σ κ9 f (i + 1)).1) (thE ((qQ n pl nw ns σ κ9 f i).1) (thE (qU nw ns σ κ9) (va_up (qV nw ns σ κ9 η) 3 R) (qQ n pl nw ns σ κ9 f i).2) (wl n pl nw (f i) (wkP (f i) ((qQ n pl nw ns σ κ9 f i).1)) (true, (((qQ n pl nw ns σ κ9 f i).1), ((qQ n pl nw ns σ κ9 f i).2)))).2.2) T) G := Eq.mp (congrArg (fun z9 => kP D (MS n nw) a (eL cI cZ cW cO X a n nw ns z9 (thE ((qQ n pl nw ns σ κ9 f i).1) (thE (qU nw ns σ κ9) (va_up (qV nw ns σ κ9 η) 3 R) (qQ n pl nw ns σ κ9 f i).2) (wl n pl nw (f i) (wkP (f i) ((qQ n pl nw ns σ κ9 f i).1)) (true, (((qQ n pl nw ns σ κ9 f i).1), ((qQ n pl nw ns σ κ9 f i).2)))).2.2) T) G) hw9) hP
                                            clear hw9
                                            have hw9 : thE ((qQ n pl nw ns σ κ9 f i).1) (thE (qU nw ns σ κ9) (va_up (qV nw ns σ κ9 η) 3 R) (qQ n pl nw ns σ κ9 f i).2) (wl n pl nw (f i) (wkP (f i) ((qQ n pl nw ns σ κ9 f i).1)) (true, (((qQ n pl nw ns σ κ9 f i).1), ((qQ n pl nw ns σ κ9 f i).2)))).2.2 = thE (qU nw ns σ κ9) (va_up (qV nw ns σ κ9 η) 3 R) (qQ n pl nw ns σ κ9 f (i + 1)).2 := thE_thE ((hg.1 1 (by unfold goK; omega)).trans (dkS_row (by omega))) ((hg.1 7 (by unfold goK; omega)).trans (dkS_row (by omega)))
                                            have hP : kP D (MS n nw) a (eL cI cZ cW cO X a n nw ns ((qQ n pl nw ns σ κ9 f (i + 1)).1) (thE (qU nw ns σ κ9) (va_up (qV nw ns σ κ9 η) 3 R) (qQ n pl nw ns σ κ9 f (i + 1)).2) T) G := Eq.mp (congrArg (fun z9 => kP D (MS n nw) a (eL cI cZ cW cO X a n nw ns ((qQ n pl nw ns σ κ9 f (i + 1)).1) z9 T) G) hw9) hP
                                            clear hw9
                                            refine lv_iload_n hx hb dX3_pass_822 rfl (lv_at hl 2 rfl) ?_
                                            refine lv_aload_n hx hb dX3_pass_823 rfl (lv_at hl 3 rfl) ?_
                                            refine lk_gf3 hx hb hX3 hown hK hP 1 0 (show 0 < 10 by decide) rfl 3 (by decide) f23 rfl dX3_pass_824 ?_
                                            refine lv_aload_n hx hb dX3_pass_827 rfl (lv_at hl 3 rfl) ?_
                                            refine lk_gf3 hx hb hX3 hown hK hP 1 0 (show 0 < 10 by decide) rfl 9 (by decide) f40 rfl dX3_pass_828 ?_
                                            refine lv_iload hx hb dX3_pass_831 (lv_at hl 0 rfl) ?_
                                            refine lk_ild hx hb hK hP 1 9 (show 9 < 10 by decide) rfl (by omega) (by decide) dX3_pass_833 ?_
                                            refine li_topi (show (thE (qU nw ns σ κ9) (va_up (qV nw ns σ κ9 η) 3 R) (qQ n pl nw ns σ κ9 f (i + 1)).2) 3 i = nI (f i) from hR i (by omega)) ?_
                                            refine lk_aldW hx hb hK hP 1 4 (show 4 < 10 by decide) rfl (by omega) (by omega) (rfs_at (by omega)) dX3_pass_834 ?_
                                            refine lk_gf4 hx hb hX4 hown hK hP 3 (f i) (show f i < nw by omega) rfl 4 (by decide) f74 rfl dX3_pass_835 ?_
                                            refine lv_iconst (v := nI 2) hx hb dX3_pass_838 rfl ?_
                                            refine lv_icmp_ne (tgt := 846) hx hb dX3_pass_839 (by decide) (fun c20 => ?_) (fun c20 => ?_)
                                            · skip
                                              refine lv_iconst (v := nI 0) hx hb dX3_pass_846 rfl ?_
                                              refine lv_iadd hx hb dX3_pass_847 ?_
                                              refine lv_istore_n (lv' := [(2, .int (x9 + (nI 0))), (4, .int (nI i)), (3, .int (nI m9)), (0, .ref (a 1 0))]) hx hb dX3_pass_848 rfl hl (by decide) rfl (fun ls hl => ?_)
                                              refine lv_iinc (v := nI (i + 1)) (lv' := [(4, .int (nI (i + 1))), (2, .int (x9 + (nI 0))), (3, .int (nI m9)), (0, .ref (a 1 0))]) hx hb dX3_pass_849 hl (k := 1) rfl (nI_inc _ _) (by decide) rfl (fun ls hl => ?_)
                                              refine lv_goto (tgt := 800) hx hb dX3_pass_852 (by decide) ?_
                                              have hl9 : lv_has ls 10 [(4, .int (nI (i + 1))), (3, .int (nI m9)), (2, .int (x9 + (nI 0))), (0, .ref (a 1 0))] := lv_sub hl [0, 2, 1, 3] rfl
                                              have hl9 : lv_has ls 10 [(4, .int (nI (i + 1))), (3, .int (nI m9)), (2, .int (x9 + (nI 0))), (0, .ref (a 1 0))] := lv_re hl9 2 rfl (show x9 + (nI 0) = (x9 + (nI 0)) from by simp [c15, c20])
                                              exact ih800 (i + 1) (x9 + (nI 0)) (by omega) (by omega) (gT_s hpl hORn (by omega) hg) G locs hP hS ls hl9
                                            · skip
                                              refine lv_iconst (v := nI 1) hx hb dX3_pass_842 rfl ?_
                                              refine lv_goto (tgt := 847) hx hb dX3_pass_843 (by decide) ?_
                                              refine lv_iadd hx hb dX3_pass_847 ?_
                                              refine lv_istore_n (lv' := [(2, .int (x9 + (nI 1))), (4, .int (nI i)), (3, .int (nI m9)), (0, .ref (a 1 0))]) hx hb dX3_pass_848 rfl hl (by decide) rfl (fun ls hl => ?_)
                                              refine lv_iinc (v := nI (i + 1)) (lv' := [(4, .int (nI (i + 1))), (2, .int (x9 + (nI 1))), (3, .int (nI m9)), (0, .ref (a 1 0))]) hx hb dX3_pass_849 hl (k := 1) rfl (nI_inc _ _) (by decide) rfl (fun ls hl => ?_)
                                              refine lv_goto (tgt := 800) hx hb dX3_pass_852 (by decide) ?_
                                              have hl9 : lv_has ls 10 [(4, .int (nI (i + 1))), (3, .int (nI m9)), (2, .int (x9 + (nI 1))), (0, .ref (a 1 0))] := lv_sub hl [0, 2, 1, 3] rfl
                                              have hl9 : lv_has ls 10 [(4, .int (nI (i + 1))), (3, .int (nI m9)), (2, .int (x9 + (nI 1))), (0, .ref (a 1 0))] := lv_re hl9 2 rfl (show x9 + (nI 1) = (x9 + (nI 1)) from by simp [c15, c20])
                                              exact ih800 (i + 1) (x9 + (nI 1)) (by omega) (by omega) (gT_s hpl hORn (by omega) hg) G locs hP hS ls hl9
                                      have hw9 : dkS (qU nw ns σ κ9) k = (qQ n pl nw ns σ κ9 f 0).1 := by rw [show k = nw by omega]; rfl
                                      have hP : kP D (MS n nw) a (eL cI cZ cW cO X a n nw ns ((qQ n pl nw ns σ κ9 f 0).1) (va_up (qV nw ns σ κ9 η) 3 R) T) G := Eq.mp (congrArg (fun z9 => kP D (MS n nw) a (eL cI cZ cW cO X a n nw ns z9 (va_up (qV nw ns σ κ9 η) 3 R) T) G) hw9) hP
                                      clear hw9
                                      have hw9 : va_up (qV nw ns σ κ9 η) 3 R = thE (qU nw ns σ κ9) (va_up (qV nw ns σ κ9 η) 3 R) (qQ n pl nw ns σ κ9 f 0).2 := (thE_id rfl).symm
                                      have hP : kP D (MS n nw) a (eL cI cZ cW cO X a n nw ns ((qQ n pl nw ns σ κ9 f 0).1) (thE (qU nw ns σ κ9) (va_up (qV nw ns σ κ9 η) 3 R) (qQ n pl nw ns σ κ9 f 0).2) T) G := Eq.mp (congrArg (fun z9 => kP D (MS n nw) a (eL cI cZ cW cO X a n nw ns ((qQ n pl nw ns σ κ9 f 0).1) z9 T) G) hw9) hP
                                      clear hw9
                                      have hl9 : lv_has ls 10 [(4, .int (nI 0)), (3, .int (nI m9)), (2, .int (nI 0)), (0, .ref (a 1 0))] := lv_sub hl [0, 1, 2, 3] rfl
                                      have hl9 : lv_has ls 10 [(4, .int (nI 0)), (3, .int (nI m9)), (2, .int (nI 0)), (0, .ref (a 1 0))] := lv_re hl9 2 rfl (show nI 0 = (nI 0) from by simp [c13])
                                      
                                      exact L800_14 ((m9 - 0) + 1) 0 (nI 0) (Nat.lt_succ_self _) (by omega) (gT_0 hORn hPB2 hAT2 hLT2) G locs hP hS ls hl9
                                    · skip
                                      refine lv_aload_n hx hb dX3_pass_669 rfl (lv_at hl 3 rfl) ?_
                                      refine lk_gf3 hx hb hX3 hown hK hP 1 0 (show 0 < 10 by decide) rfl 3 (by decide) f23 rfl dX3_pass_670 ?_
                                      refine lv_iload hx hb dX3_pass_673 (lv_at hl 0 rfl) ?_
                                      refine lk_aldW hx hb hK hP 1 4 (show 4 < 10 by decide) rfl (by omega) (by omega) (rfs_at (by omega)) dX3_pass_675 ?_
                                      refine lk_gf4 hx hb hX4 hown hK hP 3 k (show k < nw by omega) rfl 4 (by decide) f74 rfl dX3_pass_676 ?_
                                      refine li_topi (show (dkS (qU nw ns σ κ9) k) 12 k = (qU nw ns σ κ9) 12 k from congrFun (dkS_row (by omega)) k) ?_
                                      refine lv_iconst (v := nI 1) hx hb dX3_pass_679 rfl ?_
                                      refine lv_icmp_eq (tgt := 686) hx hb dX3_pass_680 (by decide) (fun c21 => ?_) (fun c21 => ?_)
                                      · skip
                                        have hwk := c21
                                        refine lv_aload_n hx hb dX3_pass_686 rfl (lv_at hl 3 rfl) ?_
                                        refine lk_gf3 hx hb hX3 hown hK hP 1 0 (show 0 < 10 by decide) rfl 3 (by decide) f23 rfl dX3_pass_687 ?_
                                        refine lv_iload hx hb dX3_pass_690 (lv_at hl 0 rfl) ?_
                                        refine lk_aldW hx hb hK hP 1 4 (show 4 < 10 by decide) rfl (by omega) (by omega) (rfs_at (by omega)) dX3_pass_692 ?_
                                        refine lv_dup hx hb dX3_pass_693 rfl ?_
                                        refine lk_gf4 hx hb hX4 hown hK hP 3 k (show k < nw by omega) rfl 6 (by decide) f100 rfl dX3_pass_694 ?_
                                        refine lv_aload_n hx hb dX3_pass_697 rfl (lv_at hl 3 rfl) ?_
                                        refine lk_gf3 hx hb hX3 hown hK hP 1 0 (show 0 < 10 by decide) rfl 3 (by decide) f23 rfl dX3_pass_698 ?_
                                        refine lv_iload hx hb dX3_pass_701 (lv_at hl 0 rfl) ?_
                                        refine lk_aldW hx hb hK hP 1 4 (show 4 < 10 by decide) rfl (by omega) (by omega) (rfs_at (by omega)) dX3_pass_703 ?_
                                        refine lk_gf4 hx hb hX4 hown hK hP 3 k (show k < nw by omega) rfl 3 (by decide) f66 rfl dX3_pass_704 ?_
                                        refine li_topi (show (dkS (qU nw ns σ κ9) k) 11 k = (qU nw ns σ κ9) 11 k from congrFun (dkS_row (by omega)) k) ?_
                                        refine lv_if_eq (tgt := 714) hx hb dX3_pass_707 (by decide) (fun c22 => ?_) (fun c22 => ?_)
                                        · skip
                                          refine lv_iconst (v := nI 1) hx hb dX3_pass_714 rfl ?_
                                          refine lv_iadd hx hb dX3_pass_715 ?_
                                          refine lk_pf4 hx hb hX4 hown hK hP hO hS 3 k (show k < nw by omega) rfl 6 (by decide) f100 rfl rfl rfl (Nat.le_of_ble_eq_true rfl) stS_14 dX3_pass_716 (fun G locs hP hS => ?_)
                                          have hw9 : up2 (dkS (qU nw ns σ κ9) k) 14 k (((dkS (qU nw ns σ κ9) k) 14 k) + (nI 1)) = dkS (qU nw ns σ κ9) (k + 1) := by first | exact (dk_a hwk (by assumption)).symm | (rw [dk_1 (by assumption)]; exact up2_id (Int32.add_zero _).symm)
                                          have hP : kP D (MS n nw) a (eL cI cZ cW cO X a n nw ns (dkS (qU nw ns σ κ9) (k + 1)) (va_up (qV nw ns σ κ9 η) 3 R) T) G := Eq.mp (congrArg (fun z9 => kP D (MS n nw) a (eL cI cZ cW cO X a n nw ns z9 (va_up (qV nw ns σ κ9 η) 3 R) T) G) hw9) hP
                                          clear hw9
                                          refine lv_iload_n hx hb dX3_pass_719 rfl (lv_at hl 1 rfl) ?_
                                          refine lv_istore (lv' := [(5, .int (nI m9)), (4, .int (nI k)), (3, .int (nI m9)), (2, .int (nI 0)), (0, .ref (a 1 0))]) hx hb dX3_pass_720 hl (by decide) rfl (fun ls hl => ?_)
                                          have L722_23 : ∀ (fuel : Nat) (at0 : Nat) (R9 : Nat → Int32), at0 < fuel → (at0 ≤ m9) → (RW R9 f m9 at0) → (∀ i, at0 ≤ i → i < m9 → pz (qU nw ns σ κ9) (f i) < pz (qU nw ns σ κ9) k) → ∀ (G : Heap) (locs : List Loc), kP D (MS n nw) a (eL cI cZ cW cO X a n nw ns (dkS (qU nw ns σ κ9) (k + 1)) (va_up (qV nw ns σ κ9 η) 3 R9) T) G → va_S A H G locs → ∀ (ls : Array Slot), lv_has ls 10 [(5, .int (nI at0)), (4, .int (nI k)), (3, .int (nI m9)), (2, .int (nI 0)), (0, .ref (a 1 0))] → W p l e ({ frames := 2, cells := 0, slots := 0, locals := 51 } : Room) s m args below meth c G locs 0 0 Q (F0 m 722 ls []) := by
                                            intro fuel
                                            induction fuel with
                                            | zero =>
                                              intro at0 R9 hfuel
                                              exact absurd hfuel (Nat.not_lt_zero _)
                                            | succ fuel ih722 =>
                                              intro at0 R9 hfuel722 ha hRW hlt G locs hP hS ls hl
                                              refine lv_iload hx hb dX3_pass_722 (lv_at hl 0 rfl) ?_
                                              refine li_le0 (tgt := 779) hx hb dX3_pass_724 (by decide) (by first | omega | (have := nb_le (σ := foldN (bo1 nw) k (bdF (windOf σ) nw σ)) (nw := nw) (w := k); omega) | (have := wa_le (σ := foldN (st1 nw) k8 (t2 n pl nw ns (σ, κ9)).1) (nw := nw) (z := nI 0); omega) | (have := (hpz _ (by omega) (by assumption)).2; omega) | (have := (hpz _ (by omega) hfa.2).2; omega)) (fun c24 => ?_) (fun c24 => ?_)
                                              · skip
                                                refine lv_aload_n hx hb dX3_pass_779 rfl (lv_at hl 4 rfl) ?_
                                                refine lk_gf3 hx hb hX3 hown hK hP 1 0 (show 0 < 10 by decide) rfl 9 (by decide) f40 rfl dX3_pass_780 ?_
                                                refine lv_iload hx hb dX3_pass_783 (lv_at hl 0 rfl) ?_
                                                refine lv_iload hx hb dX3_pass_785 (lv_at hl 1 rfl) ?_
                                                refine lk_ist hx hb hK hP hO hS 1 9 (show 9 < 10 by decide) rfl (by omega) (by decide) stE_3 dX3_pass_787 (fun G locs hP hS => ?_)
                                                refine lv_iinc (v := nI (m9 + 1)) (lv' := [(3, .int (nI (m9 + 1))), (5, .int (nI at0)), (4, .int (nI k)), (2, .int (nI 0)), (0, .ref (a 1 0))]) hx hb dX3_pass_788 hl (k := 2) rfl (nI_inc _ _) (by decide) rfl (fun ls hl => ?_)
                                                refine lv_iinc (v := nI (k + 1)) (lv' := [(4, .int (nI (k + 1))), (3, .int (nI (m9 + 1))), (5, .int (nI at0)), (2, .int (nI 0)), (0, .ref (a 1 0))]) hx hb dX3_pass_791 hl (k := 2) rfl (nI_inc _ _) (by decide) rfl (fun ls hl => ?_)
                                                refine lv_goto (tgt := 659) hx hb dX3_pass_794 (by decide) ?_
                                                have hw9 : up2 (va_up (qV nw ns σ κ9 η) 3 R9) 3 at0 (nI k) = va_up (qV nw ns σ κ9 η) 3 (upd R9 (at0) (nI k)) := vu_up2
                                                have hP : kP D (MS n nw) a (eL cI cZ cW cO X a n nw ns (dkS (qU nw ns σ κ9) (k + 1)) (va_up (qV nw ns σ κ9 η) 3 (upd R9 (at0) (nI k))) T) G := Eq.mp (congrArg (fun z9 => kP D (MS n nw) a (eL cI cZ cW cO X a n nw ns (dkS (qU nw ns σ κ9) (k + 1)) z9 T) G) hw9) hP
                                                clear hw9
                                                have hl9 : lv_has ls 10 [(4, .int (nI (k + 1))), (3, .int (nI (m9 + 1))), (2, .int (nI 0)), (0, .ref (a 1 0))] := lv_sub hl [0, 1, 3, 4] rfl
                                                exact ih659 (k + 1) (m9 + 1) (upd R9 (at0) (nI k)) (insF f (at0) k) (by omega) (by omega) (OR_ins hOR hwk (by omega) hlt (by first | exact Or.inl (by omega) | exact Or.inr (by rw [Nat.add_sub_cancel]; assumption))) (RW_e hRW (by omega)) G locs hP hS ls hl9
                                              · skip
                                                obtain ⟨a0, rfl⟩ : ∃ z, at0 = z + 1 := ⟨at0 - 1, by omega⟩
                                                have hfa := hOR.2.1 a0 (by omega)
                                                refine lv_aload_n hx hb dX3_pass_727 rfl (lv_at hl 4 rfl) ?_
                                                refine lk_gf3 hx hb hX3 hown hK hP 1 0 (show 0 < 10 by decide) rfl 3 (by decide) f23 rfl dX3_pass_728 ?_
                                                refine lv_aload_n hx hb dX3_pass_731 rfl (lv_at hl 4 rfl) ?_
                                                refine lk_gf3 hx hb hX3 hown hK hP 1 0 (show 0 < 10 by decide) rfl 9 (by decide) f40 rfl dX3_pass_732 ?_
                                                refine lv_iload hx hb dX3_pass_735 (lv_at hl 0 rfl) ?_
                                                refine lv_iconst (v := nI 1) hx hb dX3_pass_737 rfl ?_
                                                refine lv_isub hx hb dX3_pass_738 ?_
                                                refine li_topi (show (nI (a0 + 1)) - (nI 1) = nI a0 from by rw [pk_sub (by omega), Nat.add_sub_cancel]) ?_
                                                refine lk_ild hx hb hK hP 1 9 (show 9 < 10 by decide) rfl (by omega) (by decide) dX3_pass_739 ?_
                                                refine li_topi (show (va_up (qV nw ns σ κ9 η) 3 R9) 3 a0 = nI (f a0) from hRW.1 a0 (by omega)) ?_
                                                refine lk_aldW hx hb hK hP 1 4 (show 4 < 10 by decide) rfl (by omega) (by omega) (rfs_at (by omega)) dX3_pass_740 ?_
                                                refine lk_gf4 hx hb hX4 hown hK hP 3 (f a0) (show f a0 < nw by omega) rfl 5 (by decide) f77 rfl dX3_pass_741 ?_
                                                refine li_topi (show (dkS (qU nw ns σ κ9) (k + 1)) 13 (f a0) = nI (pz (qU nw ns σ κ9) (f a0)) from by rw [dkS_row (by omega)]; exact (hpz _ (by omega) hfa.2).1) ?_
                                                refine lv_aload_n hx hb dX3_pass_744 rfl (lv_at hl 4 rfl) ?_
                                                refine lk_gf3 hx hb hX3 hown hK hP 1 0 (show 0 < 10 by decide) rfl 3 (by decide) f23 rfl dX3_pass_745 ?_
                                                refine lv_iload hx hb dX3_pass_748 (lv_at hl 1 rfl) ?_
                                                refine lk_aldW hx hb hK hP 1 4 (show 4 < 10 by decide) rfl (by omega) (by omega) (rfs_at (by omega)) dX3_pass_750 ?_
                                                refine lk_gf4 hx hb hX4 hown hK hP 3 k (show k < nw by omega) rfl 5 (by decide) f77 rfl dX3_pass_751 ?_
                                                refine li_topi (show (dkS (qU nw ns σ κ9) (k + 1)) 13 k = nI (pz (qU nw ns σ κ9) k) from by rw [dkS_row (by omega)]; exact (hpz _ (by omega) hwk).1) ?_
                                                refine li_ge (tgt := 779) hx hb dX3_pass_754 (by decide) (by first | omega | (have := nb_le (σ := foldN (bo1 nw) k (bdF (windOf σ) nw σ)) (nw := nw) (w := k); omega) | (have := wa_le (σ := foldN (st1 nw) k8 (t2 n pl nw ns (σ, κ9)).1) (nw := nw) (z := nI 0); omega) | (have := (hpz _ (by omega) (by assumption)).2; omega) | (have := (hpz _ (by omega) hfa.2).2; omega)) (by first | omega | (have := nb_le (σ := foldN (bo1 nw) k (bdF (windOf σ) nw σ)) (nw := nw) (w := k); omega) | (have := wa_le (σ := foldN (st1 nw) k8 (t2 n pl nw ns (σ, κ9)).1) (nw := nw) (z := nI 0); omega) | (have := (hpz _ (by omega) (by assumption)).2; omega) | (have := (hpz _ (by omega) hfa.2).2; omega)) (fun c25 => ?_) (fun c25 => ?_)
                                                · skip
                                                  refine lv_aload_n hx hb dX3_pass_779 rfl (lv_at hl 4 rfl) ?_
                                                  refine lk_gf3 hx hb hX3 hown hK hP 1 0 (show 0 < 10 by decide) rfl 9 (by decide) f40 rfl dX3_pass_780 ?_
                                                  refine lv_iload hx hb dX3_pass_783 (lv_at hl 0 rfl) ?_
                                                  refine lv_iload hx hb dX3_pass_785 (lv_at hl 1 rfl) ?_
                                                  refine lk_ist hx hb hK hP hO hS 1 9 (show 9 < 10 by decide) rfl (by omega) (by decide) stE_3 dX3_pass_787 (fun G locs hP hS => ?_)
                                                  refine lv_iinc (v := nI (m9 + 1)) (lv' := [(3, .int (nI (m9 + 1))), (5, .int (nI (a0 + 1))), (4, .int (nI k)), (2, .int (nI 0)), (0, .ref (a 1 0))]) hx hb dX3_pass_788 hl (k := 2) rfl (nI_inc _ _) (by decide) rfl (fun ls hl => ?_)
                                                  refine lv_iinc (v := nI (k + 1)) (lv' := [(4, .int (nI (k + 1))), (3, .int (nI (m9 + 1))), (5, .int (nI (a0 + 1))), (2, .int (nI 0)), (0, .ref (a 1 0))]) hx hb dX3_pass_791 hl (k := 2) rfl (nI_inc _ _) (by decide) rfl (fun ls hl => ?_)
                                                  refine lv_goto (tgt := 659) hx hb dX3_pass_794 (by decide) ?_
                                                  have hw9 : up2 (va_up (qV nw ns σ κ9 η) 3 R9) 3 (a0 + 1) (nI k) = va_up (qV nw ns σ κ9 η) 3 (upd R9 (a0 + 1) (nI k)) := vu_up2
                                                  have hP : kP D (MS n nw) a (eL cI cZ cW cO X a n nw ns (dkS (qU nw ns σ κ9) (k + 1)) (va_up (qV nw ns σ κ9 η) 3 (upd R9 (a0 + 1) (nI k))) T) G := Eq.mp (congrArg (fun z9 => kP D (MS n nw) a (eL cI cZ cW cO X a n nw ns (dkS (qU nw ns σ κ9) (k + 1)) z9 T) G) hw9) hP
                                                  clear hw9
                                                  have hl9 : lv_has ls 10 [(4, .int (nI (k + 1))), (3, .int (nI (m9 + 1))), (2, .int (nI 0)), (0, .ref (a 1 0))] := lv_sub hl [0, 1, 3, 4] rfl
                                                  exact ih659 (k + 1) (m9 + 1) (upd R9 (a0 + 1) (nI k)) (insF f (a0 + 1) k) (by omega) (by omega) (OR_ins hOR hwk (by omega) hlt (by first | exact Or.inl (by omega) | exact Or.inr (by rw [Nat.add_sub_cancel]; assumption))) (RW_e hRW (by omega)) G locs hP hS ls hl9
                                                · skip
                                                  refine lv_aload_n hx hb dX3_pass_757 rfl (lv_at hl 4 rfl) ?_
                                                  refine lk_gf3 hx hb hX3 hown hK hP 1 0 (show 0 < 10 by decide) rfl 9 (by decide) f40 rfl dX3_pass_758 ?_
                                                  refine lv_iload hx hb dX3_pass_761 (lv_at hl 0 rfl) ?_
                                                  refine lv_aload_n hx hb dX3_pass_763 rfl (lv_at hl 4 rfl) ?_
                                                  refine lk_gf3 hx hb hX3 hown hK hP 1 0 (show 0 < 10 by decide) rfl 9 (by decide) f40 rfl dX3_pass_764 ?_
                                                  refine lv_iload hx hb dX3_pass_767 (lv_at hl 0 rfl) ?_
                                                  refine lv_iconst (v := nI 1) hx hb dX3_pass_769 rfl ?_
                                                  refine lv_isub hx hb dX3_pass_770 ?_
                                                  refine li_topi (show (nI (a0 + 1)) - (nI 1) = nI a0 from by rw [pk_sub (by omega), Nat.add_sub_cancel]) ?_
                                                  refine lk_ild hx hb hK hP 1 9 (show 9 < 10 by decide) rfl (by omega) (by decide) dX3_pass_771 ?_
                                                  refine li_topi (show (va_up (qV nw ns σ κ9 η) 3 R9) 3 a0 = R9 a0 from rfl) ?_
                                                  refine lk_ist hx hb hK hP hO hS 1 9 (show 9 < 10 by decide) rfl (by omega) (by decide) stE_3 dX3_pass_772 (fun G locs hP hS => ?_)
                                                  refine lv_iinc (v := nI a0) (lv' := [(5, .int (nI a0)), (4, .int (nI k)), (3, .int (nI m9)), (2, .int (nI 0)), (0, .ref (a 1 0))]) hx hb dX3_pass_773 hl (k := 0) rfl (nI_dec1 _) (by decide) rfl (fun ls hl => ?_)
                                                  refine lv_goto (tgt := 722) hx hb dX3_pass_776 (by decide) ?_
                                                  have hw9 : up2 (va_up (qV nw ns σ κ9 η) 3 R9) 3 (a0 + 1) (R9 a0) = va_up (qV nw ns σ κ9 η) 3 (upd R9 (a0 + 1) (R9 a0)) := vu_up2
                                                  have hP : kP D (MS n nw) a (eL cI cZ cW cO X a n nw ns (dkS (qU nw ns σ κ9) (k + 1)) (va_up (qV nw ns σ κ9 η) 3 (upd R9 (a0 + 1) (R9 a0))) T) G := Eq.mp (congrArg (fun z9 => kP D (MS n nw) a (eL cI cZ cW cO X a n nw ns (dkS (qU nw ns σ κ9) (k + 1)) z9 T) G) hw9) hP
                                                  clear hw9
                                                  have hl9 : lv_has ls 10 [(5, .int (nI a0)), (4, .int (nI k)), (3, .int (nI m9)), (2, .int (nI 0)), (0, .ref (a 1 0))] := lv_sub hl [0, 1, 2, 3, 4] rfl
                                                  exact ih722 a0 (upd R9 (a0 + 1) (R9 a0)) (by omega) (by omega) (RW_s hRW) (fun i h1 h2 => by by_cases q : i = a0; (rw [q]; assumption); exact hlt i (by omega) h2) G locs hP hS ls hl9
                                          have hl9 : lv_has ls 10 [(5, .int (nI m9)), (4, .int (nI k)), (3, .int (nI m9)), (2, .int (nI 0)), (0, .ref (a 1 0))] := lv_sub hl [0, 1, 2, 3, 4] rfl
                                          exact L722_23 (m9 + 1) m9 R (Nat.lt_succ_self _) (by omega) (RW_0 hR) (fun i h1 h2 => absurd h2 (by omega)) G locs hP hS ls hl9
                                        · skip
                                          refine lv_iconst (v := nI 0) hx hb dX3_pass_710 rfl ?_
                                          refine lv_goto (tgt := 715) hx hb dX3_pass_711 (by decide) ?_
                                          refine lv_iadd hx hb dX3_pass_715 ?_
                                          refine lk_pf4 hx hb hX4 hown hK hP hO hS 3 k (show k < nw by omega) rfl 6 (by decide) f100 rfl rfl rfl (Nat.le_of_ble_eq_true rfl) stS_14 dX3_pass_716 (fun G locs hP hS => ?_)
                                          have hw9 : up2 (dkS (qU nw ns σ κ9) k) 14 k (((dkS (qU nw ns σ κ9) k) 14 k) + (nI 0)) = dkS (qU nw ns σ κ9) (k + 1) := by first | exact (dk_a hwk (by assumption)).symm | (rw [dk_1 (by assumption)]; exact up2_id (Int32.add_zero _).symm)
                                          have hP : kP D (MS n nw) a (eL cI cZ cW cO X a n nw ns (dkS (qU nw ns σ κ9) (k + 1)) (va_up (qV nw ns σ κ9 η) 3 R) T) G := Eq.mp (congrArg (fun z9 => kP D (MS n nw) a (eL cI cZ cW cO X a n nw ns z9 (va_up (qV nw ns σ κ9 η) 3 R) T) G) hw9) hP
                                          clear hw9
                                          refine lv_iload_n hx hb dX3_pass_719 rfl (lv_at hl 1 rfl) ?_
                                          refine lv_istore (lv' := [(5, .int (nI m9)), (4, .int (nI k)), (3, .int (nI m9)), (2, .int (nI 0)), (0, .ref (a 1 0))]) hx hb dX3_pass_720 hl (by decide) rfl (fun ls hl => ?_)
                                          have L722_26 : ∀ (fuel : Nat) (at0 : Nat) (R9 : Nat → Int32), at0 < fuel → (at0 ≤ m9) → (RW R9 f m9 at0) → (∀ i, at0 ≤ i → i < m9 → pz (qU nw ns σ κ9) (f i) < pz (qU nw ns σ κ9) k) → ∀ (G : Heap) (locs : List Loc), kP D (MS n nw) a (eL cI cZ cW cO X a n nw ns (dkS (qU nw ns σ κ9) (k + 1)) (va_up (qV nw ns σ κ9 η) 3 R9) T) G → va_S A H G locs → ∀ (ls : Array Slot), lv_has ls 10 [(5, .int (nI at0)), (4, .int (nI k)), (3, .int (nI m9)), (2, .int (nI 0)), (0, .ref (a 1 0))] → W p l e ({ frames := 2, cells := 0, slots := 0, locals := 51 } : Room) s m args below meth c G locs 0 0 Q (F0 m 722 ls []) := by
                                            intro fuel
                                            induction fuel with
                                            | zero =>
                                              intro at0 R9 hfuel
                                              exact absurd hfuel (Nat.not_lt_zero _)
                                            | succ fuel ih722 =>
                                              intro at0 R9 hfuel722 ha hRW hlt G locs hP hS ls hl
                                              refine lv_iload hx hb dX3_pass_722 (lv_at hl 0 rfl) ?_
                                              refine li_le0 (tgt := 779) hx hb dX3_pass_724 (by decide) (by first | omega | (have := nb_le (σ := foldN (bo1 nw) k (bdF (windOf σ) nw σ)) (nw := nw) (w := k); omega) | (have := wa_le (σ := foldN (st1 nw) k8 (t2 n pl nw ns (σ, κ9)).1) (nw := nw) (z := nI 0); omega) | (have := (hpz _ (by omega) (by assumption)).2; omega) | (have := (hpz _ (by omega) hfa.2).2; omega)) (fun c27 => ?_) (fun c27 => ?_)
                                              · skip
                                                refine lv_aload_n hx hb dX3_pass_779 rfl (lv_at hl 4 rfl) ?_
                                                refine lk_gf3 hx hb hX3 hown hK hP 1 0 (show 0 < 10 by decide) rfl 9 (by decide) f40 rfl dX3_pass_780 ?_
                                                refine lv_iload hx hb dX3_pass_783 (lv_at hl 0 rfl) ?_
                                                refine lv_iload hx hb dX3_pass_785 (lv_at hl 1 rfl) ?_
                                                refine lk_ist hx hb hK hP hO hS 1 9 (show 9 < 10 by decide) rfl (by omega) (by decide) stE_3 dX3_pass_787 (fun G locs hP hS => ?_)
                                                refine lv_iinc (v := nI (m9 + 1)) (lv' := [(3, .int (nI (m9 + 1))), (5, .int (nI at0)), (4, .int (nI k)), (2, .int (nI 0)), (0, .ref (a 1 0))]) hx hb dX3_pass_788 hl (k := 2) rfl (nI_inc _ _) (by decide) rfl (fun ls hl => ?_)
                                                refine lv_iinc (v := nI (k + 1)) (lv' := [(4, .int (nI (k + 1))), (3, .int (nI (m9 + 1))), (5, .int (nI at0)), (2, .int (nI 0)), (0, .ref (a 1 0))]) hx hb dX3_pass_791 hl (k := 2) rfl (nI_inc _ _) (by decide) rfl (fun ls hl => ?_)
                                                refine lv_goto (tgt := 659) hx hb dX3_pass_794 (by decide) ?_
                                                have hw9 : up2 (va_up (qV nw ns σ κ9 η) 3 R9) 3 at0 (nI k) = va_up (qV nw ns σ κ9 η) 3 (upd R9 (at0) (nI k)) := vu_up2
                                                have hP : kP D (MS n nw) a (eL cI cZ cW cO X a n nw ns (dkS (qU nw ns σ κ9) (k + 1)) (va_up (qV nw ns σ κ9 η) 3 (upd R9 (at0) (nI k))) T) G := Eq.mp (congrArg (fun z9 => kP D (MS n nw) a (eL cI cZ cW cO X a n nw ns (dkS (qU nw ns σ κ9) (k + 1)) z9 T) G) hw9) hP
                                                clear hw9
                                                have hl9 : lv_has ls 10 [(4, .int (nI (k + 1))), (3, .int (nI (m9 + 1))), (2, .int (nI 0)), (0, .ref (a 1 0))] := lv_sub hl [0, 1, 3, 4] rfl
                                                exact ih659 (k + 1) (m9 + 1) (upd R9 (at0) (nI k)) (insF f (at0) k) (by omega) (by omega) (OR_ins hOR hwk (by omega) hlt (by first | exact Or.inl (by omega) | exact Or.inr (by rw [Nat.add_sub_cancel]; assumption))) (RW_e hRW (by omega)) G locs hP hS ls hl9
                                              · skip
                                                obtain ⟨a0, rfl⟩ : ∃ z, at0 = z + 1 := ⟨at0 - 1, by omega⟩
                                                have hfa := hOR.2.1 a0 (by omega)
                                                refine lv_aload_n hx hb dX3_pass_727 rfl (lv_at hl 4 rfl) ?_
                                                refine lk_gf3 hx hb hX3 hown hK hP 1 0 (show 0 < 10 by decide) rfl 3 (by decide) f23 rfl dX3_pass_728 ?_
                                                refine lv_aload_n hx hb dX3_pass_731 rfl (lv_at hl 4 rfl) ?_
                                                refine lk_gf3 hx hb hX3 hown hK hP 1 0 (show 0 < 10 by decide) rfl 9 (by decide) f40 rfl dX3_pass_732 ?_
                                                refine lv_iload hx hb dX3_pass_735 (lv_at hl 0 rfl) ?_
                                                refine lv_iconst (v := nI 1) hx hb dX3_pass_737 rfl ?_
                                                refine lv_isub hx hb dX3_pass_738 ?_
                                                refine li_topi (show (nI (a0 + 1)) - (nI 1) = nI a0 from by rw [pk_sub (by omega), Nat.add_sub_cancel]) ?_
                                                refine lk_ild hx hb hK hP 1 9 (show 9 < 10 by decide) rfl (by omega) (by decide) dX3_pass_739 ?_
                                                refine li_topi (show (va_up (qV nw ns σ κ9 η) 3 R9) 3 a0 = nI (f a0) from hRW.1 a0 (by omega)) ?_
                                                refine lk_aldW hx hb hK hP 1 4 (show 4 < 10 by decide) rfl (by omega) (by omega) (rfs_at (by omega)) dX3_pass_740 ?_
                                                refine lk_gf4 hx hb hX4 hown hK hP 3 (f a0) (show f a0 < nw by omega) rfl 5 (by decide) f77 rfl dX3_pass_741 ?_
                                                refine li_topi (show (dkS (qU nw ns σ κ9) (k + 1)) 13 (f a0) = nI (pz (qU nw ns σ κ9) (f a0)) from by rw [dkS_row (by omega)]; exact (hpz _ (by omega) hfa.2).1) ?_
                                                refine lv_aload_n hx hb dX3_pass_744 rfl (lv_at hl 4 rfl) ?_
                                                refine lk_gf3 hx hb hX3 hown hK hP 1 0 (show 0 < 10 by decide) rfl 3 (by decide) f23 rfl dX3_pass_745 ?_
                                                refine lv_iload hx hb dX3_pass_748 (lv_at hl 1 rfl) ?_
                                                refine lk_aldW hx hb hK hP 1 4 (show 4 < 10 by decide) rfl (by omega) (by omega) (rfs_at (by omega)) dX3_pass_750 ?_
                                                refine lk_gf4 hx hb hX4 hown hK hP 3 k (show k < nw by omega) rfl 5 (by decide) f77 rfl dX3_pass_751 ?_
                                                refine li_topi (show (dkS (qU nw ns σ κ9) (k + 1)) 13 k = nI (pz (qU nw ns σ κ9) k) from by rw [dkS_row (by omega)]; exact (hpz _ (by omega) hwk).1) ?_
                                                refine li_ge (tgt := 779) hx hb dX3_pass_754 (by decide) (by first | omega | (have := nb_le (σ := foldN (bo1 nw) k (bdF (windOf σ) nw σ)) (nw := nw) (w := k); omega) | (have := wa_le (σ := foldN (st1 nw) k8 (t2 n pl nw ns (σ, κ9)).1) (nw := nw) (z := nI 0); omega) | (have := (hpz _ (by omega) (by assumption)).2; omega) | (have := (hpz _ (by omega) hfa.2).2; omega)) (by first | omega | (have := nb_le (σ := foldN (bo1 nw) k (bdF (windOf σ) nw σ)) (nw := nw) (w := k); omega) | (have := wa_le (σ := foldN (st1 nw) k8 (t2 n pl nw ns (σ, κ9)).1) (nw := nw) (z := nI 0); omega) | (have := (hpz _ (by omega) (by assumption)).2; omega) | (have := (hpz _ (by omega) hfa.2).2; omega)) (fun c28 => ?_) (fun c28 => ?_)
                                                · skip
                                                  refine lv_aload_n hx hb dX3_pass_779 rfl (lv_at hl 4 rfl) ?_
                                                  refine lk_gf3 hx hb hX3 hown hK hP 1 0 (show 0 < 10 by decide) rfl 9 (by decide) f40 rfl dX3_pass_780 ?_
                                                  refine lv_iload hx hb dX3_pass_783 (lv_at hl 0 rfl) ?_
                                                  refine lv_iload hx hb dX3_pass_785 (lv_at hl 1 rfl) ?_
                                                  refine lk_ist hx hb hK hP hO hS 1 9 (show 9 < 10 by decide) rfl (by omega) (by decide) stE_3 dX3_pass_787 (fun G locs hP hS => ?_)
                                                  refine lv_iinc (v := nI (m9 + 1)) (lv' := [(3, .int (nI (m9 + 1))), (5, .int (nI (a0 + 1))), (4, .int (nI k)), (2, .int (nI 0)), (0, .ref (a 1 0))]) hx hb dX3_pass_788 hl (k := 2) rfl (nI_inc _ _) (by decide) rfl (fun ls hl => ?_)
                                                  refine lv_iinc (v := nI (k + 1)) (lv' := [(4, .int (nI (k + 1))), (3, .int (nI (m9 + 1))), (5, .int (nI (a0 + 1))), (2, .int (nI 0)), (0, .ref (a 1 0))]) hx hb dX3_pass_791 hl (k := 2) rfl (nI_inc _ _) (by decide) rfl (fun ls hl => ?_)
                                                  refine lv_goto (tgt := 659) hx hb dX3_pass_794 (by decide) ?_
                                                  have hw9 : up2 (va_up (qV nw ns σ κ9 η) 3 R9) 3 (a0 + 1) (nI k) = va_up (qV nw ns σ κ9 η) 3 (upd R9 (a0 + 1) (nI k)) := vu_up2
                                                  have hP : kP D (MS n nw) a (eL cI cZ cW cO X a n nw ns (dkS (qU nw ns σ κ9) (k + 1)) (va_up (qV nw ns σ κ9 η) 3 (upd R9 (a0 + 1) (nI k))) T) G := Eq.mp (congrArg (fun z9 => kP D (MS n nw) a (eL cI cZ cW cO X a n nw ns (dkS (qU nw ns σ κ9) (k + 1)) z9 T) G) hw9) hP
                                                  clear hw9
                                                  have hl9 : lv_has ls 10 [(4, .int (nI (k + 1))), (3, .int (nI (m9 + 1))), (2, .int (nI 0)), (0, .ref (a 1 0))] := lv_sub hl [0, 1, 3, 4] rfl
                                                  exact ih659 (k + 1) (m9 + 1) (upd R9 (a0 + 1) (nI k)) (insF f (a0 + 1) k) (by omega) (by omega) (OR_ins hOR hwk (by omega) hlt (by first | exact Or.inl (by omega) | exact Or.inr (by rw [Nat.add_sub_cancel]; assumption))) (RW_e hRW (by omega)) G locs hP hS ls hl9
                                                · skip
                                                  refine lv_aload_n hx hb dX3_pass_757 rfl (lv_at hl 4 rfl) ?_
                                                  refine lk_gf3 hx hb hX3 hown hK hP 1 0 (show 0 < 10 by decide) rfl 9 (by decide) f40 rfl dX3_pass_758 ?_
                                                  refine lv_iload hx hb dX3_pass_761 (lv_at hl 0 rfl) ?_
                                                  refine lv_aload_n hx hb dX3_pass_763 rfl (lv_at hl 4 rfl) ?_
                                                  refine lk_gf3 hx hb hX3 hown hK hP 1 0 (show 0 < 10 by decide) rfl 9 (by decide) f40 rfl dX3_pass_764 ?_
                                                  refine lv_iload hx hb dX3_pass_767 (lv_at hl 0 rfl) ?_
                                                  refine lv_iconst (v := nI 1) hx hb dX3_pass_769 rfl ?_
                                                  refine lv_isub hx hb dX3_pass_770 ?_
                                                  refine li_topi (show (nI (a0 + 1)) - (nI 1) = nI a0 from by rw [pk_sub (by omega), Nat.add_sub_cancel]) ?_
                                                  refine lk_ild hx hb hK hP 1 9 (show 9 < 10 by decide) rfl (by omega) (by decide) dX3_pass_771 ?_
                                                  refine li_topi (show (va_up (qV nw ns σ κ9 η) 3 R9) 3 a0 = R9 a0 from rfl) ?_
                                                  refine lk_ist hx hb hK hP hO hS 1 9 (show 9 < 10 by decide) rfl (by omega) (by decide) stE_3 dX3_pass_772 (fun G locs hP hS => ?_)
                                                  refine lv_iinc (v := nI a0) (lv' := [(5, .int (nI a0)), (4, .int (nI k)), (3, .int (nI m9)), (2, .int (nI 0)), (0, .ref (a 1 0))]) hx hb dX3_pass_773 hl (k := 0) rfl (nI_dec1 _) (by decide) rfl (fun ls hl => ?_)
                                                  refine lv_goto (tgt := 722) hx hb dX3_pass_776 (by decide) ?_
                                                  have hw9 : up2 (va_up (qV nw ns σ κ9 η) 3 R9) 3 (a0 + 1) (R9 a0) = va_up (qV nw ns σ κ9 η) 3 (upd R9 (a0 + 1) (R9 a0)) := vu_up2
                                                  have hP : kP D (MS n nw) a (eL cI cZ cW cO X a n nw ns (dkS (qU nw ns σ κ9) (k + 1)) (va_up (qV nw ns σ κ9 η) 3 (upd R9 (a0 + 1) (R9 a0))) T) G := Eq.mp (congrArg (fun z9 => kP D (MS n nw) a (eL cI cZ cW cO X a n nw ns (dkS (qU nw ns σ κ9) (k + 1)) z9 T) G) hw9) hP
                                                  clear hw9
                                                  have hl9 : lv_has ls 10 [(5, .int (nI a0)), (4, .int (nI k)), (3, .int (nI m9)), (2, .int (nI 0)), (0, .ref (a 1 0))] := lv_sub hl [0, 1, 2, 3, 4] rfl
                                                  exact ih722 a0 (upd R9 (a0 + 1) (R9 a0)) (by omega) (by omega) (RW_s hRW) (fun i h1 h2 => by by_cases q : i = a0; (rw [q]; assumption); exact hlt i (by omega) h2) G locs hP hS ls hl9
                                          have hl9 : lv_has ls 10 [(5, .int (nI m9)), (4, .int (nI k)), (3, .int (nI m9)), (2, .int (nI 0)), (0, .ref (a 1 0))] := lv_sub hl [0, 1, 2, 3, 4] rfl
                                          exact L722_26 (m9 + 1) m9 R (Nat.lt_succ_self _) (by omega) (RW_0 hR) (fun i h1 h2 => absurd h2 (by omega)) G locs hP hS ls hl9
                                      · skip
                                        refine lv_goto (tgt := 791) hx hb dX3_pass_683 (by decide) ?_
                                        refine lv_iinc (v := nI (k + 1)) (lv' := [(4, .int (nI (k + 1))), (3, .int (nI m9)), (2, .int (nI 0)), (0, .ref (a 1 0))]) hx hb dX3_pass_791 hl (k := 0) rfl (nI_inc _ _) (by decide) rfl (fun ls hl => ?_)
                                        refine lv_goto (tgt := 659) hx hb dX3_pass_794 (by decide) ?_
                                        have hw9 : dkS (qU nw ns σ κ9) k = dkS (qU nw ns σ κ9) (k + 1) := (dk_0 (by assumption)).symm
                                        have hP : kP D (MS n nw) a (eL cI cZ cW cO X a n nw ns (dkS (qU nw ns σ κ9) (k + 1)) (va_up (qV nw ns σ κ9 η) 3 R) T) G := Eq.mp (congrArg (fun z9 => kP D (MS n nw) a (eL cI cZ cW cO X a n nw ns z9 (va_up (qV nw ns σ κ9 η) 3 R) T) G) hw9) hP
                                        clear hw9
                                        have hl9 : lv_has ls 10 [(4, .int (nI (k + 1))), (3, .int (nI m9)), (2, .int (nI 0)), (0, .ref (a 1 0))] := lv_sub hl [0, 1, 2, 3] rfl
                                        exact ih659 (k + 1) m9 R f (by omega) (by omega) (OR_skip hOR (by assumption)) (hR) G locs hP hS ls hl9
                                have hw9 : (qU nw ns σ κ9) = dkS (qU nw ns σ κ9) 0 := rfl
                                have hP : kP D (MS n nw) a (eL cI cZ cW cO X a n nw ns (dkS (qU nw ns σ κ9) 0) (qV nw ns σ κ9 η) T) G := Eq.mp (congrArg (fun z9 => kP D (MS n nw) a (eL cI cZ cW cO X a n nw ns z9 (qV nw ns σ κ9 η) T) G) hw9) hP
                                clear hw9
                                have hw9 : (qV nw ns σ κ9 η) = va_up (qV nw ns σ κ9 η) 3 ((qV nw ns σ κ9 η) 3) := (va_up_id rfl).symm
                                have hP : kP D (MS n nw) a (eL cI cZ cW cO X a n nw ns (dkS (qU nw ns σ κ9) 0) (va_up (qV nw ns σ κ9 η) 3 ((qV nw ns σ κ9 η) 3)) T) G := Eq.mp (congrArg (fun z9 => kP D (MS n nw) a (eL cI cZ cW cO X a n nw ns (dkS (qU nw ns σ κ9) 0) z9 T) G) hw9) hP
                                clear hw9
                                have hl9 : lv_has ls 10 [(4, .int (nI 0)), (3, .int (nI 0)), (2, .int (nI 0)), (0, .ref (a 1 0))] := lv_sub hl [0, 1, 2, 3] rfl
                                exact L659_12 ((nw - 0) + 1) 0 0 ((qV nw ns σ κ9 η) 3) (fun i => i) (Nat.lt_succ_self _) (by omega) (OR_0) (fun i h => absurd h (Nat.not_lt_zero _)) G locs hP hS ls hl9
                              · skip
                                refine lv_aload_n hx hb dX3_pass_641 rfl (lv_at hl 2 rfl) ?_
                                refine lk_gf3 hx hb hX3 hown hK hP 1 0 (show 0 < 10 by decide) rfl 8 (by decide) f37 rfl dX3_pass_642 ?_
                                refine lv_iload_n hx hb dX3_pass_645 rfl (lv_at hl 0 rfl) ?_
                                refine lv_iconst (v := nI 0) hx hb dX3_pass_646 rfl ?_
                                refine lk_ist hx hb hK hP hO hS 1 8 (show 8 < 10 by decide) rfl (by omega) (by decide) stE_2 dX3_pass_647 (fun G locs hP hS => ?_)
                                refine lv_iinc (v := nI (k + 1)) (lv' := [(3, .int (nI (k + 1))), (2, .int (nI 0)), (0, .ref (a 1 0))]) hx hb dX3_pass_648 hl (k := 0) rfl (nI_inc _ _) (by decide) rfl (fun ls hl => ?_)
                                refine lv_goto (tgt := 635) hx hb dX3_pass_651 (by decide) ?_
                                have hw9 : up2 (thZ (qL nw ns σ κ9 η) k) 2 k (nI 0) = thZ (qL nw ns σ κ9 η) (k + 1) := thZ_s
                                have hP : kP D (MS n nw) a (eL cI cZ cW cO X a n nw ns (qU nw ns σ κ9) (thZ (qL nw ns σ κ9 η) (k + 1)) T) G := Eq.mp (congrArg (fun z9 => kP D (MS n nw) a (eL cI cZ cW cO X a n nw ns (qU nw ns σ κ9) z9 T) G) hw9) hP
                                clear hw9
                                have hl9 : lv_has ls 10 [(3, .int (nI (k + 1))), (2, .int (nI 0)), (0, .ref (a 1 0))] := lv_sub hl [0, 1, 2] rfl
                                exact ih635 (k + 1) (by omega) (by omega) G locs hP hS ls hl9
                          have hw9 : (qL nw ns σ κ9 η) = thZ (qL nw ns σ κ9 η) 0 := thZ_0.symm
                          have hP : kP D (MS n nw) a (eL cI cZ cW cO X a n nw ns (qU nw ns σ κ9) (thZ (qL nw ns σ κ9 η) 0) T) G := Eq.mp (congrArg (fun z9 => kP D (MS n nw) a (eL cI cZ cW cO X a n nw ns (qU nw ns σ κ9) z9 T) G) hw9) hP
                          clear hw9
                          have hl9 : lv_has ls 10 [(3, .int (nI 0)), (2, .int (nI 0)), (0, .ref (a 1 0))] := lv_sub hl [0, 1, 2] rfl
                          exact L635_10 ((10 - 0) + 1) 0 (Nat.lt_succ_self _) (by omega) G locs hP hS ls hl9
                        refine lv_iconst (v := nI 0) hx hb dX3_pass_561 rfl ?_
                        refine lv_istore_n (lv' := [(2, .int (nI 0)), (0, .ref (a 1 0))]) hx hb dX3_pass_562 rfl hl (by decide) rfl (fun ls hl => ?_)
                        have L563_29 : ∀ (fuel : Nat) (k : Nat), (nw - k) < fuel → (k ≤ nw) → ∀ (G : Heap) (locs : List Loc), kP D (MS n nw) a (eL cI cZ cW cO X a n nw ns (sgK (qS nw σ κ9) (qM nw ns σ κ9 η) ns k 0) (qL nw ns σ κ9 η) T) G → va_S A H G locs → ∀ (ls : Array Slot), lv_has ls 10 [(2, .int (nI k)), (0, .ref (a 1 0))] → W p l e ({ frames := 2, cells := 0, slots := 0, locals := 51 } : Room) s m args below meth c G locs 0 0 Q (F0 m 563 ls []) := by
                          intro fuel
                          induction fuel with
                          | zero =>
                            intro k hfuel
                            exact absurd hfuel (Nat.not_lt_zero _)
                          | succ fuel ih563 =>
                            intro k hfuel563 hk G locs hP hS ls hl
                            refine lv_iload_n hx hb dX3_pass_563 rfl (lv_at hl 0 rfl) ?_
                            refine lv_aload_n hx hb dX3_pass_564 rfl (lv_at hl 1 rfl) ?_
                            refine lk_gf3 hx hb hX3 hown hK hP 1 0 (show 0 < 10 by decide) rfl 3 (by decide) f23 rfl dX3_pass_565 ?_
                            refine lk_alen hx hb hK hP 1 4 (show 4 < 10 by decide) 2 rfl rfl dX3_pass_568 ?_
                            refine li_ge (tgt := 631) hx hb dX3_pass_569 (by decide) (by first | omega | (have := nb_le (σ := foldN (bo1 nw) k (bdF (windOf σ) nw σ)) (nw := nw) (w := k); omega) | (have := wa_le (σ := foldN (st1 nw) k8 (t2 n pl nw ns (σ, κ9)).1) (nw := nw) (z := nI 0); omega) | (have := (hpz _ (by omega) (by assumption)).2; omega) | (have := (hpz _ (by omega) hfa.2).2; omega)) (by first | omega | (have := nb_le (σ := foldN (bo1 nw) k (bdF (windOf σ) nw σ)) (nw := nw) (w := k); omega) | (have := wa_le (σ := foldN (st1 nw) k8 (t2 n pl nw ns (σ, κ9)).1) (nw := nw) (z := nI 0); omega) | (have := (hpz _ (by omega) (by assumption)).2; omega) | (have := (hpz _ (by omega) hfa.2).2; omega)) (fun c30 => ?_) (fun c30 => ?_)
                            · skip
                              have hw9 : sgK (qS nw σ κ9) (qM nw ns σ κ9 η) ns k 0 = (qU nw ns σ κ9) := by rw [show k = nw by omega]; exact qU_eq hSV1 hz1 hns6
                              have hP : kP D (MS n nw) a (eL cI cZ cW cO X a n nw ns (qU nw ns σ κ9) (qL nw ns σ κ9 η) T) G := Eq.mp (congrArg (fun z9 => kP D (MS n nw) a (eL cI cZ cW cO X a n nw ns z9 (qL nw ns σ κ9 η) T) G) hw9) hP
                              clear hw9
                              have hl9 : lv_has ls 10 [(0, .ref (a 1 0))] := lv_sub hl [1] rfl
                              exact K631_9 (0 + 1)  (Nat.lt_succ_self _)  G locs hP hS ls hl9
                            · skip
                              refine lv_iconst (v := nI 0) hx hb dX3_pass_572 rfl ?_
                              refine lv_istore_n (lv' := [(3, .int (nI 0)), (2, .int (nI k)), (0, .ref (a 1 0))]) hx hb dX3_pass_573 rfl hl (by decide) rfl (fun ls hl => ?_)
                              have L574_31 : ∀ (fuel : Nat) (sx : Nat), (ns - sx) < fuel → (sx ≤ ns) → ∀ (G : Heap) (locs : List Loc), kP D (MS n nw) a (eL cI cZ cW cO X a n nw ns (sgK (qS nw σ κ9) (qM nw ns σ κ9 η) ns k sx) (qL nw ns σ κ9 η) T) G → va_S A H G locs → ∀ (ls : Array Slot), lv_has ls 10 [(3, .int (nI sx)), (2, .int (nI k)), (0, .ref (a 1 0))] → W p l e ({ frames := 2, cells := 0, slots := 0, locals := 51 } : Room) s m args below meth c G locs 0 0 Q (F0 m 574 ls []) := by
                                intro fuel
                                induction fuel with
                                | zero =>
                                  intro sx hfuel
                                  exact absurd hfuel (Nat.not_lt_zero _)
                                | succ fuel ih574 =>
                                  intro sx hfuel574 hsx G locs hP hS ls hl
                                  refine lv_iload_n hx hb dX3_pass_574 rfl (lv_at hl 0 rfl) ?_
                                  refine lv_aload_n hx hb dX3_pass_575 rfl (lv_at hl 2 rfl) ?_
                                  refine lk_gf3 hx hb hX3 hown hK hP 1 0 (show 0 < 10 by decide) rfl 4 (by decide) f27 rfl dX3_pass_576 ?_
                                  refine lk_alen hx hb hK hP 1 5 (show 5 < 10 by decide) 0 rfl rfl dX3_pass_579 ?_
                                  refine li_ge (tgt := 625) hx hb dX3_pass_580 (by decide) (by first | omega | (have := nb_le (σ := foldN (bo1 nw) k (bdF (windOf σ) nw σ)) (nw := nw) (w := k); omega) | (have := wa_le (σ := foldN (st1 nw) k8 (t2 n pl nw ns (σ, κ9)).1) (nw := nw) (z := nI 0); omega) | (have := (hpz _ (by omega) (by assumption)).2; omega) | (have := (hpz _ (by omega) hfa.2).2; omega)) (by first | omega | (have := nb_le (σ := foldN (bo1 nw) k (bdF (windOf σ) nw σ)) (nw := nw) (w := k); omega) | (have := wa_le (σ := foldN (st1 nw) k8 (t2 n pl nw ns (σ, κ9)).1) (nw := nw) (z := nI 0); omega) | (have := (hpz _ (by omega) (by assumption)).2; omega) | (have := (hpz _ (by omega) hfa.2).2; omega)) (fun c32 => ?_) (fun c32 => ?_)
                                  · skip
                                    refine lv_iinc (v := nI (k + 1)) (lv' := [(2, .int (nI (k + 1))), (3, .int (nI sx)), (0, .ref (a 1 0))]) hx hb dX3_pass_625 hl (k := 1) rfl (nI_inc _ _) (by decide) rfl (fun ls hl => ?_)
                                    refine lv_goto (tgt := 563) hx hb dX3_pass_628 (by decide) ?_
                                    have hw9 : sgK (qS nw σ κ9) (qM nw ns σ κ9 η) ns k sx = sgK (qS nw σ κ9) (qM nw ns σ κ9 η) ns (k + 1) 0 := by rw [show sx = ns by omega]; exact sgK_n
                                    have hP : kP D (MS n nw) a (eL cI cZ cW cO X a n nw ns (sgK (qS nw σ κ9) (qM nw ns σ κ9 η) ns (k + 1) 0) (qL nw ns σ κ9 η) T) G := Eq.mp (congrArg (fun z9 => kP D (MS n nw) a (eL cI cZ cW cO X a n nw ns z9 (qL nw ns σ κ9 η) T) G) hw9) hP
                                    clear hw9
                                    have hl9 : lv_has ls 10 [(2, .int (nI (k + 1))), (0, .ref (a 1 0))] := lv_sub hl [0, 2] rfl
                                    exact ih563 (k + 1) (by omega) (by omega) G locs hP hS ls hl9
                                  · skip
                                    refine lv_aload_n hx hb dX3_pass_583 rfl (lv_at hl 2 rfl) ?_
                                    refine lk_gf3 hx hb hX3 hown hK hP 1 0 (show 0 < 10 by decide) rfl 7 (by decide) f34 rfl dX3_pass_584 ?_
                                    refine lv_bipush (v := nI 6) hx hb dX3_pass_587 rfl ?_
                                    refine lv_iload_n hx hb dX3_pass_589 rfl (lv_at hl 1 rfl) ?_
                                    refine lv_imul hx hb dX3_pass_590 ?_
                                    refine li_topi (pk_mul _ _) ?_
                                    refine lv_iload_n hx hb dX3_pass_591 rfl (lv_at hl 0 rfl) ?_
                                    refine lv_iadd hx hb dX3_pass_592 ?_
                                    refine li_topi (nI_add _ _) ?_
                                    refine lk_ild hx hb hK hP 1 7 (show 7 < 10 by decide) rfl (by omega) (by decide) dX3_pass_593 ?_
                                    refine li_topi (show (qL nw ns σ κ9 η) 0 (6 * k + sx) = (qM nw ns σ κ9 η) (6 * k + sx) from rfl) ?_
                                    refine lv_if_le (tgt := 619) hx hb dX3_pass_594 (by decide) (fun c33 => ?_) (fun c33 => ?_)
                                    · skip
                                      refine lv_iinc (v := nI (sx + 1)) (lv' := [(3, .int (nI (sx + 1))), (2, .int (nI k)), (0, .ref (a 1 0))]) hx hb dX3_pass_619 hl (k := 0) rfl (nI_inc _ _) (by decide) rfl (fun ls hl => ?_)
                                      refine lv_goto (tgt := 574) hx hb dX3_pass_622 (by decide) ?_
                                      have hw9 : sgK (qS nw σ κ9) (qM nw ns σ κ9 η) ns k sx = sgK (qS nw σ κ9) (qM nw ns σ κ9 η) ns k (sx + 1) := by first | exact sgK_f (by omega) (by assumption) | exact sgK_s (by omega) (by assumption)
                                      have hP : kP D (MS n nw) a (eL cI cZ cW cO X a n nw ns (sgK (qS nw σ κ9) (qM nw ns σ κ9 η) ns k (sx + 1)) (qL nw ns σ κ9 η) T) G := Eq.mp (congrArg (fun z9 => kP D (MS n nw) a (eL cI cZ cW cO X a n nw ns z9 (qL nw ns σ κ9 η) T) G) hw9) hP
                                      clear hw9
                                      have hl9 : lv_has ls 10 [(3, .int (nI (sx + 1))), (2, .int (nI k)), (0, .ref (a 1 0))] := lv_sub hl [0, 1, 2] rfl
                                      exact ih574 (sx + 1) (by omega) (by omega) G locs hP hS ls hl9
                                    · skip
                                      refine lv_aload_n hx hb dX3_pass_597 rfl (lv_at hl 2 rfl) ?_
                                      refine lk_gf3 hx hb hX3 hown hK hP 1 0 (show 0 < 10 by decide) rfl 3 (by decide) f23 rfl dX3_pass_598 ?_
                                      refine lv_iload_n hx hb dX3_pass_601 rfl (lv_at hl 1 rfl) ?_
                                      refine lk_aldW hx hb hK hP 1 4 (show 4 < 10 by decide) rfl (by omega) (by omega) (rfs_at (by omega)) dX3_pass_602 ?_
                                      refine lk_gf4 hx hb hX4 hown hK hP 3 k (show k < nw by omega) rfl 8 (by decide) f97 rfl dX3_pass_603 ?_
                                      refine lv_iload_n hx hb dX3_pass_606 rfl (lv_at hl 0 rfl) ?_
                                      refine lv_aload_n hx hb dX3_pass_607 rfl (lv_at hl 2 rfl) ?_
                                      refine lk_gf3 hx hb hX3 hown hK hP 1 0 (show 0 < 10 by decide) rfl 7 (by decide) f34 rfl dX3_pass_608 ?_
                                      refine lv_bipush (v := nI 6) hx hb dX3_pass_611 rfl ?_
                                      refine lv_iload_n hx hb dX3_pass_613 rfl (lv_at hl 1 rfl) ?_
                                      refine lv_imul hx hb dX3_pass_614 ?_
                                      refine li_topi (pk_mul _ _) ?_
                                      refine lv_iload_n hx hb dX3_pass_615 rfl (lv_at hl 0 rfl) ?_
                                      refine lv_iadd hx hb dX3_pass_616 ?_
                                      refine li_topi (nI_add _ _) ?_
                                      refine lk_ild hx hb hK hP 1 7 (show 7 < 10 by decide) rfl (by omega) (by decide) dX3_pass_617 ?_
                                      refine li_topi (show (qL nw ns σ κ9 η) 0 (6 * k + sx) = (qM nw ns σ κ9 η) (6 * k + sx) from rfl) ?_
                                      refine lk_ist hx hb hK hP hO hS 4 k (show k < nw by omega) rfl (by omega) (by decide) (stS_16 (by omega)) dX3_pass_618 (fun G locs hP hS => ?_)
                                      refine lv_iinc (v := nI (sx + 1)) (lv' := [(3, .int (nI (sx + 1))), (2, .int (nI k)), (0, .ref (a 1 0))]) hx hb dX3_pass_619 hl (k := 0) rfl (nI_inc _ _) (by decide) rfl (fun ls hl => ?_)
                                      refine lv_goto (tgt := 574) hx hb dX3_pass_622 (by decide) ?_
                                      have hw9 : up2 (sgK (qS nw σ κ9) (qM nw ns σ κ9 η) ns k sx) 16 (6 * k + sx) ((qM nw ns σ κ9 η) (6 * k + sx)) = sgK (qS nw σ κ9) (qM nw ns σ κ9 η) ns k (sx + 1) := by first | exact sgK_f (by omega) (by assumption) | exact sgK_s (by omega) (by assumption)
                                      have hP : kP D (MS n nw) a (eL cI cZ cW cO X a n nw ns (sgK (qS nw σ κ9) (qM nw ns σ κ9 η) ns k (sx + 1)) (qL nw ns σ κ9 η) T) G := Eq.mp (congrArg (fun z9 => kP D (MS n nw) a (eL cI cZ cW cO X a n nw ns z9 (qL nw ns σ κ9 η) T) G) hw9) hP
                                      clear hw9
                                      have hl9 : lv_has ls 10 [(3, .int (nI (sx + 1))), (2, .int (nI k)), (0, .ref (a 1 0))] := lv_sub hl [0, 1, 2] rfl
                                      exact ih574 (sx + 1) (by omega) (by omega) G locs hP hS ls hl9
                              have hl9 : lv_has ls 10 [(3, .int (nI 0)), (2, .int (nI k)), (0, .ref (a 1 0))] := lv_sub hl [0, 1, 2] rfl
                              exact L574_31 ((ns - 0) + 1) 0 (Nat.lt_succ_self _) (by omega) G locs hP hS ls hl9
                        have hw9 : (qS nw σ κ9) = sgK (qS nw σ κ9) (qM nw ns σ κ9 η) ns 0 0 := sgK_0.symm
                        have hP : kP D (MS n nw) a (eL cI cZ cW cO X a n nw ns (sgK (qS nw σ κ9) (qM nw ns σ κ9 η) ns 0 0) (lnE (qS nw σ κ9) nw ns (qE nw σ η) k 0) T) G := Eq.mp (congrArg (fun z9 => kP D (MS n nw) a (eL cI cZ cW cO X a n nw ns z9 (lnE (qS nw σ κ9) nw ns (qE nw σ η) k 0) T) G) hw9) hP
                        clear hw9
                        have hw9 : lnE (qS nw σ κ9) nw ns (qE nw σ η) k 0 = (qL nw ns σ κ9 η) := by rw [show k = nw by omega]; rfl
                        have hP : kP D (MS n nw) a (eL cI cZ cW cO X a n nw ns (sgK (qS nw σ κ9) (qM nw ns σ κ9 η) ns 0 0) (qL nw ns σ κ9 η) T) G := Eq.mp (congrArg (fun z9 => kP D (MS n nw) a (eL cI cZ cW cO X a n nw ns (sgK (qS nw σ κ9) (qM nw ns σ κ9 η) ns 0 0) z9 T) G) hw9) hP
                        clear hw9
                        have hl9 : lv_has ls 10 [(2, .int (nI 0)), (0, .ref (a 1 0))] := lv_sub hl [0, 1] rfl
                        exact L563_29 ((nw - 0) + 1) 0 (Nat.lt_succ_self _) (by omega) G locs hP hS ls hl9
                      · skip
                        refine lv_aload_n hx hb dX3_pass_325 rfl (lv_at hl 1 rfl) ?_
                        refine lk_gf3 hx hb hX3 hown hK hP 1 0 (show 0 < 10 by decide) rfl 3 (by decide) f23 rfl dX3_pass_326 ?_
                        refine lv_iload_n hx hb dX3_pass_329 rfl (lv_at hl 0 rfl) ?_
                        refine lk_aldW hx hb hK hP 1 4 (show 4 < 10 by decide) rfl (by omega) (by omega) (rfs_at (by omega)) dX3_pass_330 ?_
                        refine lv_astore_n (lv' := [(3, .ref (a 3 k)), (2, .int (nI k)), (0, .ref (a 1 0))]) hx hb dX3_pass_331 rfl hl (by decide) rfl (fun ls hl => ?_)
                        refine lv_iconst (v := nI 0) hx hb dX3_pass_332 rfl ?_
                        refine lv_istore (lv' := [(4, .int (nI 0)), (3, .ref (a 3 k)), (2, .int (nI k)), (0, .ref (a 1 0))]) hx hb dX3_pass_333 hl (by decide) rfl (fun ls hl => ?_)
                        have L335_34 : ∀ (fuel : Nat) (sx : Nat), (ns - sx) < fuel → (sx ≤ ns) → ∀ (G : Heap) (locs : List Loc), kP D (MS n nw) a (eL cI cZ cW cO X a n nw ns (qS nw σ κ9) (lnE (qS nw σ κ9) nw ns (qE nw σ η) k sx) T) G → va_S A H G locs → ∀ (ls : Array Slot), lv_has ls 10 [(4, .int (nI sx)), (3, .ref (a 3 k)), (2, .int (nI k)), (0, .ref (a 1 0))] → W p l e ({ frames := 2, cells := 0, slots := 0, locals := 51 } : Room) s m args below meth c G locs 0 0 Q (F0 m 335 ls []) := by
                          intro fuel
                          induction fuel with
                          | zero =>
                            intro sx hfuel
                            exact absurd hfuel (Nat.not_lt_zero _)
                          | succ fuel ih335 =>
                            intro sx hfuel335 hsx G locs hP hS ls hl
                            refine lv_iload hx hb dX3_pass_335 (lv_at hl 0 rfl) ?_
                            refine lv_aload_n hx hb dX3_pass_337 rfl (lv_at hl 3 rfl) ?_
                            refine lk_gf3 hx hb hX3 hown hK hP 1 0 (show 0 < 10 by decide) rfl 4 (by decide) f27 rfl dX3_pass_338 ?_
                            refine lk_alen hx hb hK hP 1 5 (show 5 < 10 by decide) 0 rfl rfl dX3_pass_341 ?_
                            refine li_ge (tgt := 555) hx hb dX3_pass_342 (by decide) (by first | omega | (have := nb_le (σ := foldN (bo1 nw) k (bdF (windOf σ) nw σ)) (nw := nw) (w := k); omega) | (have := wa_le (σ := foldN (st1 nw) k8 (t2 n pl nw ns (σ, κ9)).1) (nw := nw) (z := nI 0); omega) | (have := (hpz _ (by omega) (by assumption)).2; omega) | (have := (hpz _ (by omega) hfa.2).2; omega)) (by first | omega | (have := nb_le (σ := foldN (bo1 nw) k (bdF (windOf σ) nw σ)) (nw := nw) (w := k); omega) | (have := wa_le (σ := foldN (st1 nw) k8 (t2 n pl nw ns (σ, κ9)).1) (nw := nw) (z := nI 0); omega) | (have := (hpz _ (by omega) (by assumption)).2; omega) | (have := (hpz _ (by omega) hfa.2).2; omega)) (fun c35 => ?_) (fun c35 => ?_)
                            · skip
                              refine lv_iinc (v := nI (k + 1)) (lv' := [(2, .int (nI (k + 1))), (4, .int (nI sx)), (3, .ref (a 3 k)), (0, .ref (a 1 0))]) hx hb dX3_pass_555 hl (k := 2) rfl (nI_inc _ _) (by decide) rfl (fun ls hl => ?_)
                              refine lv_goto (tgt := 316) hx hb dX3_pass_558 (by decide) ?_
                              have hw9 : lnE (qS nw σ κ9) nw ns (qE nw σ η) k sx = lnE (qS nw σ κ9) nw ns (qE nw σ η) (k + 1) 0 := by rw [show sx = ns by omega]; exact lnE_n
                              have hP : kP D (MS n nw) a (eL cI cZ cW cO X a n nw ns (qS nw σ κ9) (lnE (qS nw σ κ9) nw ns (qE nw σ η) (k + 1) 0) T) G := Eq.mp (congrArg (fun z9 => kP D (MS n nw) a (eL cI cZ cW cO X a n nw ns (qS nw σ κ9) z9 T) G) hw9) hP
                              clear hw9
                              have hl9 : lv_has ls 10 [(2, .int (nI (k + 1))), (0, .ref (a 1 0))] := lv_sub hl [0, 3] rfl
                              exact ih316 (k + 1) (by omega) (by omega) G locs hP hS ls hl9
                            · skip
                              refine lv_aload_n hx hb dX3_pass_345 rfl (lv_at hl 3 rfl) ?_
                              refine lk_gf3 hx hb hX3 hown hK hP 1 0 (show 0 < 10 by decide) rfl 7 (by decide) f34 rfl dX3_pass_346 ?_
                              refine lv_bipush (v := nI 6) hx hb dX3_pass_349 rfl ?_
                              refine lv_iload_n hx hb dX3_pass_351 rfl (lv_at hl 2 rfl) ?_
                              refine lv_imul hx hb dX3_pass_352 ?_
                              refine li_topi (pk_mul _ _) ?_
                              refine lv_iload hx hb dX3_pass_353 (lv_at hl 0 rfl) ?_
                              refine lv_iadd hx hb dX3_pass_355 ?_
                              refine li_topi (nI_add _ _) ?_
                              refine lv_iconst (v := nI 0) hx hb dX3_pass_356 rfl ?_
                              refine lk_ist hx hb hK hP hO hS 1 7 (show 7 < 10 by decide) rfl (by omega) (by decide) stE_0 dX3_pass_357 (fun G locs hP hS => ?_)
                              refine lv_aload_n hx hb dX3_pass_358 rfl (lv_at hl 1 rfl) ?_
                              refine lk_gf4 hx hb hX4 hown hK hP 3 k (show k < nw by omega) rfl 4 (by decide) f74 rfl dX3_pass_359 ?_
                              refine lv_iconst (v := nI 1) hx hb dX3_pass_362 rfl ?_
                              refine lv_icmp_ne (tgt := 549) hx hb dX3_pass_363 (by decide) (fun c36 => ?_) (fun c36 => ?_)
                              · skip
                                refine lv_iinc (v := nI (sx + 1)) (lv' := [(4, .int (nI (sx + 1))), (3, .ref (a 3 k)), (2, .int (nI k)), (0, .ref (a 1 0))]) hx hb dX3_pass_549 hl (k := 0) rfl (nI_inc _ _) (by decide) rfl (fun ls hl => ?_)
                                refine lv_goto (tgt := 335) hx hb dX3_pass_552 (by decide) ?_
                                have hw9 : up2 (lnE (qS nw σ κ9) nw ns (qE nw σ η) k sx) 0 (6 * k + sx) (nI 0) = lnE (qS nw σ κ9) nw ns (qE nw σ η) k (sx + 1) := by first | exact lnE_s (by omega) (lv9_0 (by assumption)).symm | exact lnE_s (by omega) (lv9_1 (by assumption)).symm | exact lnE_s (by omega) (by rw [lv9_a (by assumption) hu, lrn_0 hlf]) | exact lnE_s (by omega) (by rw [lv9_a (by assumption) hu, lrn_q hlf hlo]) | (rw [up2_up2]; first | exact lnE_s (by omega) (by rw [lv9_a (by assumption) hu, lrn_c hz1 hlf hlo (by assumption) (by assumption)]) | exact lnE_s (by omega) (by rw [lv9_a (by assumption) hu, lrn_n hz1 hlf hlo (by first | exact Or.inl (by assumption) | exact Or.inr (by assumption))]))
                                have hP : kP D (MS n nw) a (eL cI cZ cW cO X a n nw ns (qS nw σ κ9) (lnE (qS nw σ κ9) nw ns (qE nw σ η) k (sx + 1)) T) G := Eq.mp (congrArg (fun z9 => kP D (MS n nw) a (eL cI cZ cW cO X a n nw ns (qS nw σ κ9) z9 T) G) hw9) hP
                                clear hw9
                                have hl9 : lv_has ls 10 [(4, .int (nI (sx + 1))), (3, .ref (a 3 k)), (2, .int (nI k)), (0, .ref (a 1 0))] := lv_sub hl [0, 1, 2, 3] rfl
                                exact ih335 (sx + 1) (by omega) (by omega) G locs hP hS ls hl9
                              · skip
                                refine lv_aload_n hx hb dX3_pass_366 rfl (lv_at hl 1 rfl) ?_
                                refine lk_gf4 hx hb hX4 hown hK hP 3 k (show k < nw by omega) rfl 8 (by decide) f97 rfl dX3_pass_367 ?_
                                refine lv_iload hx hb dX3_pass_370 (lv_at hl 0 rfl) ?_
                                refine lk_ild hx hb hK hP 4 k (show k < nw by omega) rfl (by omega) (by decide) dX3_pass_372 ?_
                                refine li_topi (x' := (qS nw σ κ9) 16 (6 * k + sx)) (kn6_at (by omega)) ?_
                                refine lv_if_le (tgt := 379) hx hb dX3_pass_373 (by decide) (fun c37 => ?_) (fun c37 => ?_)
                                · skip
                                  have hu := Int32.le_antisymm c37 (hSV1.1 _)
                                  refine lv_null hx hb dX3_pass_379 ?_
                                  refine lv_astoreN (lv' := [(5, .null), (4, .int (nI sx)), (3, .ref (a 3 k)), (2, .int (nI k)), (0, .ref (a 1 0))]) hx hb dX3_pass_380 hl (by decide) rfl (fun ls hl => ?_)
                                  refine lv_aload_n hx hb dX3_pass_382 rfl (lv_at hl 4 rfl) ?_
                                  refine lk_gf3 hx hb hX3 hown hK hP 1 0 (show 0 < 10 by decide) rfl 3 (by decide) f23 rfl dX3_pass_383 ?_
                                  refine lv_astore (lv' := [(6, .ref (a 1 4)), (5, .null), (4, .int (nI sx)), (3, .ref (a 3 k)), (2, .int (nI k)), (0, .ref (a 1 0))]) hx hb dX3_pass_386 hl (by decide) rfl (fun ls hl => ?_)
                                  refine lv_aload hx hb dX3_pass_388 (lv_at hl 0 rfl) ?_
                                  refine lk_alen hx hb hK hP 1 4 (show 4 < 10 by decide) 2 rfl rfl dX3_pass_390 ?_
                                  refine lv_istore (lv' := [(7, .int (nI nw)), (6, .ref (a 1 4)), (5, .null), (4, .int (nI sx)), (3, .ref (a 3 k)), (2, .int (nI k)), (0, .ref (a 1 0))]) hx hb dX3_pass_391 hl (by decide) rfl (fun ls hl => ?_)
                                  refine lv_iconst (v := nI 0) hx hb dX3_pass_393 rfl ?_
                                  refine lv_istore (lv' := [(8, .int (nI 0)), (7, .int (nI nw)), (6, .ref (a 1 4)), (5, .null), (4, .int (nI sx)), (3, .ref (a 3 k)), (2, .int (nI k)), (0, .ref (a 1 0))]) hx hb dX3_pass_394 hl (by decide) rfl (fun ls hl => ?_)
                                  have L396_38 : ∀ (fuel : Nat) (o9 : Nat), (nw - o9) < fuel → (o9 ≤ nw) → ∀ (G : Heap) (locs : List Loc), kP D (MS n nw) a (eL cI cZ cW cO X a n nw ns (qS nw σ κ9) (up2 (lnE (qS nw σ κ9) nw ns (qE nw σ η) k sx) 0 (6 * k + sx) (nI 0)) T) G → va_S A H G locs → ∀ (ls : Array Slot), lv_has ls 10 [(8, .int (nI o9)), (7, .int (nI nw)), (6, .ref (a 1 4)), (5, va_rf ((lfo (qS nw σ κ9) k sx o9).map (a 3))), (4, .int (nI sx)), (3, .ref (a 3 k)), (2, .int (nI k)), (0, .ref (a 1 0))] → W p l e ({ frames := 2, cells := 0, slots := 0, locals := 51 } : Room) s m args below meth c G locs 0 0 Q (F0 m 396 ls []) := by
                                    intro fuel
                                    induction fuel with
                                    | zero =>
                                      intro o9 hfuel
                                      exact absurd hfuel (Nat.not_lt_zero _)
                                    | succ fuel ih396 =>
                                      intro o9 hfuel396 ho G locs hP hS ls hl
                                      refine lv_iload hx hb dX3_pass_396 (lv_at hl 0 rfl) ?_
                                      refine lv_iload hx hb dX3_pass_398 (lv_at hl 1 rfl) ?_
                                      refine li_ge (tgt := 458) hx hb dX3_pass_400 (by decide) (by first | omega | (have := nb_le (σ := foldN (bo1 nw) k (bdF (windOf σ) nw σ)) (nw := nw) (w := k); omega) | (have := wa_le (σ := foldN (st1 nw) k8 (t2 n pl nw ns (σ, κ9)).1) (nw := nw) (z := nI 0); omega) | (have := (hpz _ (by omega) (by assumption)).2; omega) | (have := (hpz _ (by omega) hfa.2).2; omega)) (by first | omega | (have := nb_le (σ := foldN (bo1 nw) k (bdF (windOf σ) nw σ)) (nw := nw) (w := k); omega) | (have := wa_le (σ := foldN (st1 nw) k8 (t2 n pl nw ns (σ, κ9)).1) (nw := nw) (z := nI 0); omega) | (have := (hpz _ (by omega) (by assumption)).2; omega) | (have := (hpz _ (by omega) hfa.2).2; omega)) (fun c39 => ?_) (fun c39 => ?_)
                                      · skip
                                        have ho9 : o9 = nw := by omega
                                        cases hlf : lfo (qS nw σ κ9) k sx o9 with
                                        | none =>
                                          rw [hlf] at hl
                                          have hl : lv_has ls 10 [(8, .int (nI o9)), (7, .int (nI nw)), (6, .ref (a 1 4)), (5, .null), (4, .int (nI sx)), (3, .ref (a 3 k)), (2, .int (nI k)), (0, .ref (a 1 0))] := hl
                                          rw [ho9] at hlf
                                          refine lv_aloadN hx hb dX3_pass_458 (lv_at hl 3 rfl) ?_
                                          refine lv_ifnonnullN hx hb dX3_pass_460 ?_
                                          refine lv_goto (tgt := 549) hx hb dX3_pass_463 (by decide) ?_
                                          refine lv_iinc (v := nI (sx + 1)) (lv' := [(4, .int (nI (sx + 1))), (8, .int (nI o9)), (7, .int (nI nw)), (6, .ref (a 1 4)), (5, .null), (3, .ref (a 3 k)), (2, .int (nI k)), (0, .ref (a 1 0))]) hx hb dX3_pass_549 hl (k := 4) rfl (nI_inc _ _) (by decide) rfl (fun ls hl => ?_)
                                          refine lv_goto (tgt := 335) hx hb dX3_pass_552 (by decide) ?_
                                          have hw9 : up2 (lnE (qS nw σ κ9) nw ns (qE nw σ η) k sx) 0 (6 * k + sx) (nI 0) = lnE (qS nw σ κ9) nw ns (qE nw σ η) k (sx + 1) := by first | exact lnE_s (by omega) (lv9_0 (by assumption)).symm | exact lnE_s (by omega) (lv9_1 (by assumption)).symm | exact lnE_s (by omega) (by rw [lv9_a (by assumption) hu, lrn_0 hlf]) | exact lnE_s (by omega) (by rw [lv9_a (by assumption) hu, lrn_q hlf hlo]) | (rw [up2_up2]; first | exact lnE_s (by omega) (by rw [lv9_a (by assumption) hu, lrn_c hz1 hlf hlo (by assumption) (by assumption)]) | exact lnE_s (by omega) (by rw [lv9_a (by assumption) hu, lrn_n hz1 hlf hlo (by first | exact Or.inl (by assumption) | exact Or.inr (by assumption))]))
                                          have hP : kP D (MS n nw) a (eL cI cZ cW cO X a n nw ns (qS nw σ κ9) (lnE (qS nw σ κ9) nw ns (qE nw σ η) k (sx + 1)) T) G := Eq.mp (congrArg (fun z9 => kP D (MS n nw) a (eL cI cZ cW cO X a n nw ns (qS nw σ κ9) z9 T) G) hw9) hP
                                          clear hw9
                                          have hl9 : lv_has ls 10 [(4, .int (nI (sx + 1))), (3, .ref (a 3 k)), (2, .int (nI k)), (0, .ref (a 1 0))] := lv_sub hl [0, 5, 6, 7] rfl
                                          exact ih335 (sx + 1) (by omega) (by omega) G locs hP hS ls hl9
                                        | some j =>
                                          rw [hlf] at hl
                                          have hl : lv_has ls 10 [(8, .int (nI o9)), (7, .int (nI nw)), (6, .ref (a 1 4)), (5, .ref (a 3 j)), (4, .int (nI sx)), (3, .ref (a 3 k)), (2, .int (nI k)), (0, .ref (a 1 0))] := hl
                                          have hj9 : j < o9 := lfo_lt hlf
                                          rw [ho9] at hlf
                                          refine lv_aload hx hb dX3_pass_458 (lv_at hl 3 rfl) ?_
                                          refine lv_ifnonnull (tgt := 466) hx hb dX3_pass_460 (by decide) ?_
                                          refine lv_aload hx hb dX3_pass_466 (lv_at hl 3 rfl) ?_
                                          refine lk_gf4 hx hb hX4 hown hK hP 3 j (show j < nw by omega) rfl 2 (by decide) f63 rfl dX3_pass_468 ?_
                                          refine lv_aload_n hx hb dX3_pass_471 rfl (lv_at hl 5 rfl) ?_
                                          refine lk_gf4 hx hb hX4 hown hK hP 3 k (show k < nw by omega) rfl 3 (by decide) f66 rfl dX3_pass_472 ?_
                                          refine lv_if_eq (tgt := 482) hx hb dX3_pass_475 (by decide) (fun c40 => ?_) (fun c40 => ?_)
                                          · skip
                                            refine lv_iconst (v := nI 3) hx hb dX3_pass_482 rfl ?_
                                            refine lv_iadd hx hb dX3_pass_483 ?_
                                            refine lv_istore (lv' := [(6, .int (((qS nw σ κ9) 5 j) + (nI 3))), (8, .int (nI o9)), (7, .int (nI nw)), (5, .ref (a 3 j)), (4, .int (nI sx)), (3, .ref (a 3 k)), (2, .int (nI k)), (0, .ref (a 1 0))]) hx hb dX3_pass_484 hl (by decide) rfl (fun ls hl => ?_)
                                            refine lv_iload hx hb dX3_pass_486 (lv_at hl 0 rfl) ?_
                                            refine lv_aload_n hx hb dX3_pass_488 rfl (lv_at hl 7 rfl) ?_
                                            refine lk_gf3 hx hb hX3 hown hK hP 1 0 (show 0 < 10 by decide) rfl 4 (by decide) f27 rfl dX3_pass_489 ?_
                                            refine lv_iload hx hb dX3_pass_492 (lv_at hl 4 rfl) ?_
                                            refine lk_ild hx hb hK hP 1 5 (show 5 < 10 by decide) rfl (by omega) (by omega) dX3_pass_494 ?_
                                            refine lv_icmp_lt (tgt := 549) hx hb dX3_pass_495 (by decide) (fun c41 => ?_) (fun c41 => ?_)
                                            · skip
                                              have hlo : ((qS nw σ κ9) 5 j + (if (qS nw σ κ9) 11 k = 0 then nI 3 else nI 0) < (qS nw σ κ9) 6 sx) := by rw [if_pos (by assumption)]; exact c41
                                              refine lv_iinc (v := nI (sx + 1)) (lv' := [(4, .int (nI (sx + 1))), (6, .int (((qS nw σ κ9) 5 j) + (nI 3))), (8, .int (nI o9)), (7, .int (nI nw)), (5, .ref (a 3 j)), (3, .ref (a 3 k)), (2, .int (nI k)), (0, .ref (a 1 0))]) hx hb dX3_pass_549 hl (k := 4) rfl (nI_inc _ _) (by decide) rfl (fun ls hl => ?_)
                                              refine lv_goto (tgt := 335) hx hb dX3_pass_552 (by decide) ?_
                                              have hw9 : up2 (lnE (qS nw σ κ9) nw ns (qE nw σ η) k sx) 0 (6 * k + sx) (nI 0) = lnE (qS nw σ κ9) nw ns (qE nw σ η) k (sx + 1) := by first | exact lnE_s (by omega) (lv9_0 (by assumption)).symm | exact lnE_s (by omega) (lv9_1 (by assumption)).symm | exact lnE_s (by omega) (by rw [lv9_a (by assumption) hu, lrn_0 hlf]) | exact lnE_s (by omega) (by rw [lv9_a (by assumption) hu, lrn_q hlf hlo]) | (rw [up2_up2]; first | exact lnE_s (by omega) (by rw [lv9_a (by assumption) hu, lrn_c hz1 hlf hlo (by assumption) (by assumption)]) | exact lnE_s (by omega) (by rw [lv9_a (by assumption) hu, lrn_n hz1 hlf hlo (by first | exact Or.inl (by assumption) | exact Or.inr (by assumption))]))
                                              have hP : kP D (MS n nw) a (eL cI cZ cW cO X a n nw ns (qS nw σ κ9) (lnE (qS nw σ κ9) nw ns (qE nw σ η) k (sx + 1)) T) G := Eq.mp (congrArg (fun z9 => kP D (MS n nw) a (eL cI cZ cW cO X a n nw ns (qS nw σ κ9) z9 T) G) hw9) hP
                                              clear hw9
                                              have hl9 : lv_has ls 10 [(4, .int (nI (sx + 1))), (3, .ref (a 3 k)), (2, .int (nI k)), (0, .ref (a 1 0))] := lv_sub hl [0, 5, 6, 7] rfl
                                              exact ih335 (sx + 1) (by omega) (by omega) G locs hP hS ls hl9
                                            · skip
                                              have hlo : ¬ ((qS nw σ κ9) 5 j + (if (qS nw σ κ9) 11 k = 0 then nI 3 else nI 0) < (qS nw σ κ9) 6 sx) := by rw [if_pos (by assumption)]; exact c41
                                              refine lv_aload_n hx hb dX3_pass_498 rfl (lv_at hl 7 rfl) ?_
                                              refine lk_gf3 hx hb hX3 hown hK hP 1 0 (show 0 < 10 by decide) rfl 7 (by decide) f34 rfl dX3_pass_499 ?_
                                              refine lv_bipush (v := nI 6) hx hb dX3_pass_502 rfl ?_
                                              refine lv_iload_n hx hb dX3_pass_504 rfl (lv_at hl 6 rfl) ?_
                                              refine lv_imul hx hb dX3_pass_505 ?_
                                              refine li_topi (pk_mul _ _) ?_
                                              refine lv_iload hx hb dX3_pass_506 (lv_at hl 4 rfl) ?_
                                              refine lv_iadd hx hb dX3_pass_508 ?_
                                              refine li_topi (nI_add _ _) ?_
                                              refine lv_aload_n hx hb dX3_pass_509 rfl (lv_at hl 5 rfl) ?_
                                              refine lk_gf4 hx hb hX4 hown hK hP 3 k (show k < nw by omega) rfl 3 (by decide) f66 rfl dX3_pass_510 ?_
                                              refine lv_if_eq (tgt := 540) hx hb dX3_pass_513 (by decide) (fun c42 => ?_) (fun c42 => ?_)
                                              · skip
                                                refine lv_aload hx hb dX3_pass_540 (lv_at hl 3 rfl) ?_
                                                refine lk_gf4 hx hb hX4 hown hK hP 3 j (show j < nw by omega) rfl 8 (by decide) f97 rfl dX3_pass_542 ?_
                                                refine lv_iload hx hb dX3_pass_545 (lv_at hl 4 rfl) ?_
                                                refine lk_ild hx hb hK hP 4 j (show j < nw by omega) rfl (by omega) (by decide) dX3_pass_547 ?_
                                                refine li_topi (x' := (qS nw σ κ9) 16 (6 * j + sx)) (kn6_at (by omega)) ?_
                                                refine lk_ist hx hb hK hP hO hS 1 7 (show 7 < 10 by decide) rfl (by omega) (by decide) stE_0 dX3_pass_548 (fun G locs hP hS => ?_)
                                                refine lv_iinc (v := nI (sx + 1)) (lv' := [(4, .int (nI (sx + 1))), (6, .int (((qS nw σ κ9) 5 j) + (nI 3))), (8, .int (nI o9)), (7, .int (nI nw)), (5, .ref (a 3 j)), (3, .ref (a 3 k)), (2, .int (nI k)), (0, .ref (a 1 0))]) hx hb dX3_pass_549 hl (k := 4) rfl (nI_inc _ _) (by decide) rfl (fun ls hl => ?_)
                                                refine lv_goto (tgt := 335) hx hb dX3_pass_552 (by decide) ?_
                                                have hw9 : up2 (up2 (lnE (qS nw σ κ9) nw ns (qE nw σ η) k sx) 0 (6 * k + sx) (nI 0)) 0 (6 * k + sx) ((qS nw σ κ9) 16 (6 * j + sx)) = lnE (qS nw σ κ9) nw ns (qE nw σ η) k (sx + 1) := by first | exact lnE_s (by omega) (lv9_0 (by assumption)).symm | exact lnE_s (by omega) (lv9_1 (by assumption)).symm | exact lnE_s (by omega) (by rw [lv9_a (by assumption) hu, lrn_0 hlf]) | exact lnE_s (by omega) (by rw [lv9_a (by assumption) hu, lrn_q hlf hlo]) | (rw [up2_up2]; first | exact lnE_s (by omega) (by rw [lv9_a (by assumption) hu, lrn_c hz1 hlf hlo (by assumption) (by assumption)]) | exact lnE_s (by omega) (by rw [lv9_a (by assumption) hu, lrn_n hz1 hlf hlo (by first | exact Or.inl (by assumption) | exact Or.inr (by assumption))]))
                                                have hP : kP D (MS n nw) a (eL cI cZ cW cO X a n nw ns (qS nw σ κ9) (lnE (qS nw σ κ9) nw ns (qE nw σ η) k (sx + 1)) T) G := Eq.mp (congrArg (fun z9 => kP D (MS n nw) a (eL cI cZ cW cO X a n nw ns (qS nw σ κ9) z9 T) G) hw9) hP
                                                clear hw9
                                                have hl9 : lv_has ls 10 [(4, .int (nI (sx + 1))), (3, .ref (a 3 k)), (2, .int (nI k)), (0, .ref (a 1 0))] := lv_sub hl [0, 5, 6, 7] rfl
                                                exact ih335 (sx + 1) (by omega) (by omega) G locs hP hS ls hl9
                                              · skip
                                                refine lv_aload hx hb dX3_pass_516 (lv_at hl 3 rfl) ?_
                                                refine lk_gf4 hx hb hX4 hown hK hP 3 j (show j < nw by omega) rfl 3 (by decide) f66 rfl dX3_pass_518 ?_
                                                refine lv_if_eq (tgt := 540) hx hb dX3_pass_521 (by decide) (fun c43 => ?_) (fun c43 => ?_)
                                                · skip
                                                  refine lv_aload hx hb dX3_pass_540 (lv_at hl 3 rfl) ?_
                                                  refine lk_gf4 hx hb hX4 hown hK hP 3 j (show j < nw by omega) rfl 8 (by decide) f97 rfl dX3_pass_542 ?_
                                                  refine lv_iload hx hb dX3_pass_545 (lv_at hl 4 rfl) ?_
                                                  refine lk_ild hx hb hK hP 4 j (show j < nw by omega) rfl (by omega) (by decide) dX3_pass_547 ?_
                                                  refine li_topi (x' := (qS nw σ κ9) 16 (6 * j + sx)) (kn6_at (by omega)) ?_
                                                  refine lk_ist hx hb hK hP hO hS 1 7 (show 7 < 10 by decide) rfl (by omega) (by decide) stE_0 dX3_pass_548 (fun G locs hP hS => ?_)
                                                  refine lv_iinc (v := nI (sx + 1)) (lv' := [(4, .int (nI (sx + 1))), (6, .int (((qS nw σ κ9) 5 j) + (nI 3))), (8, .int (nI o9)), (7, .int (nI nw)), (5, .ref (a 3 j)), (3, .ref (a 3 k)), (2, .int (nI k)), (0, .ref (a 1 0))]) hx hb dX3_pass_549 hl (k := 4) rfl (nI_inc _ _) (by decide) rfl (fun ls hl => ?_)
                                                  refine lv_goto (tgt := 335) hx hb dX3_pass_552 (by decide) ?_
                                                  have hw9 : up2 (up2 (lnE (qS nw σ κ9) nw ns (qE nw σ η) k sx) 0 (6 * k + sx) (nI 0)) 0 (6 * k + sx) ((qS nw σ κ9) 16 (6 * j + sx)) = lnE (qS nw σ κ9) nw ns (qE nw σ η) k (sx + 1) := by first | exact lnE_s (by omega) (lv9_0 (by assumption)).symm | exact lnE_s (by omega) (lv9_1 (by assumption)).symm | exact lnE_s (by omega) (by rw [lv9_a (by assumption) hu, lrn_0 hlf]) | exact lnE_s (by omega) (by rw [lv9_a (by assumption) hu, lrn_q hlf hlo]) | (rw [up2_up2]; first | exact lnE_s (by omega) (by rw [lv9_a (by assumption) hu, lrn_c hz1 hlf hlo (by assumption) (by assumption)]) | exact lnE_s (by omega) (by rw [lv9_a (by assumption) hu, lrn_n hz1 hlf hlo (by first | exact Or.inl (by assumption) | exact Or.inr (by assumption))]))
                                                  have hP : kP D (MS n nw) a (eL cI cZ cW cO X a n nw ns (qS nw σ κ9) (lnE (qS nw σ κ9) nw ns (qE nw σ η) k (sx + 1)) T) G := Eq.mp (congrArg (fun z9 => kP D (MS n nw) a (eL cI cZ cW cO X a n nw ns (qS nw σ κ9) z9 T) G) hw9) hP
                                                  clear hw9
                                                  have hl9 : lv_has ls 10 [(4, .int (nI (sx + 1))), (3, .ref (a 3 k)), (2, .int (nI k)), (0, .ref (a 1 0))] := lv_sub hl [0, 5, 6, 7] rfl
                                                  exact ih335 (sx + 1) (by omega) (by omega) G locs hP hS ls hl9
                                                · skip
                                                  refine lv_aload hx hb dX3_pass_524 (lv_at hl 3 rfl) ?_
                                                  refine lk_gf4 hx hb hX4 hown hK hP 3 j (show j < nw by omega) rfl 8 (by decide) f97 rfl dX3_pass_526 ?_
                                                  refine lv_iload hx hb dX3_pass_529 (lv_at hl 4 rfl) ?_
                                                  refine lk_ild hx hb hK hP 4 j (show j < nw by omega) rfl (by omega) (by decide) dX3_pass_531 ?_
                                                  refine li_topi (x' := (qS nw σ κ9) 16 (6 * j + sx)) (kn6_at (by omega)) ?_
                                                  refine lv_bipush (v := nI 99) hx hb dX3_pass_532 rfl ?_
                                                  refine lv_irem hx hb dX3_pass_534 (by decide) ?_
                                                  refine li_topi (show ((qS nw σ κ9) 16 (6 * j + sx)) - ((qS nw σ κ9) 16 (6 * j + sx)) / (nI 99) * (nI 99) = rem99 ((qS nw σ κ9) 16 (6 * j + sx)) from rfl) ?_
                                                  refine lv_iconst (v := nI 1) hx hb dX3_pass_535 rfl ?_
                                                  refine lv_iadd hx hb dX3_pass_536 ?_
                                                  refine lv_goto (tgt := 548) hx hb dX3_pass_537 (by decide) ?_
                                                  refine lk_ist hx hb hK hP hO hS 1 7 (show 7 < 10 by decide) rfl (by omega) (by decide) stE_0 dX3_pass_548 (fun G locs hP hS => ?_)
                                                  refine lv_iinc (v := nI (sx + 1)) (lv' := [(4, .int (nI (sx + 1))), (6, .int (((qS nw σ κ9) 5 j) + (nI 3))), (8, .int (nI o9)), (7, .int (nI nw)), (5, .ref (a 3 j)), (3, .ref (a 3 k)), (2, .int (nI k)), (0, .ref (a 1 0))]) hx hb dX3_pass_549 hl (k := 4) rfl (nI_inc _ _) (by decide) rfl (fun ls hl => ?_)
                                                  refine lv_goto (tgt := 335) hx hb dX3_pass_552 (by decide) ?_
                                                  have hw9 : up2 (up2 (lnE (qS nw σ κ9) nw ns (qE nw σ η) k sx) 0 (6 * k + sx) (nI 0)) 0 (6 * k + sx) ((rem99 ((qS nw σ κ9) 16 (6 * j + sx))) + (nI 1)) = lnE (qS nw σ κ9) nw ns (qE nw σ η) k (sx + 1) := by first | exact lnE_s (by omega) (lv9_0 (by assumption)).symm | exact lnE_s (by omega) (lv9_1 (by assumption)).symm | exact lnE_s (by omega) (by rw [lv9_a (by assumption) hu, lrn_0 hlf]) | exact lnE_s (by omega) (by rw [lv9_a (by assumption) hu, lrn_q hlf hlo]) | (rw [up2_up2]; first | exact lnE_s (by omega) (by rw [lv9_a (by assumption) hu, lrn_c hz1 hlf hlo (by assumption) (by assumption)]) | exact lnE_s (by omega) (by rw [lv9_a (by assumption) hu, lrn_n hz1 hlf hlo (by first | exact Or.inl (by assumption) | exact Or.inr (by assumption))]))
                                                  have hP : kP D (MS n nw) a (eL cI cZ cW cO X a n nw ns (qS nw σ κ9) (lnE (qS nw σ κ9) nw ns (qE nw σ η) k (sx + 1)) T) G := Eq.mp (congrArg (fun z9 => kP D (MS n nw) a (eL cI cZ cW cO X a n nw ns (qS nw σ κ9) z9 T) G) hw9) hP
                                                  clear hw9
                                                  have hl9 : lv_has ls 10 [(4, .int (nI (sx + 1))), (3, .ref (a 3 k)), (2, .int (nI k)), (0, .ref (a 1 0))] := lv_sub hl [0, 5, 6, 7] rfl
                                                  exact ih335 (sx + 1) (by omega) (by omega) G locs hP hS ls hl9
                                          · skip
                                            refine lv_iconst (v := nI 0) hx hb dX3_pass_478 rfl ?_
                                            refine lv_goto (tgt := 483) hx hb dX3_pass_479 (by decide) ?_
                                            refine lv_iadd hx hb dX3_pass_483 ?_
                                            refine lv_istore (lv' := [(6, .int (((qS nw σ κ9) 5 j) + (nI 0))), (8, .int (nI o9)), (7, .int (nI nw)), (5, .ref (a 3 j)), (4, .int (nI sx)), (3, .ref (a 3 k)), (2, .int (nI k)), (0, .ref (a 1 0))]) hx hb dX3_pass_484 hl (by decide) rfl (fun ls hl => ?_)
                                            refine lv_iload hx hb dX3_pass_486 (lv_at hl 0 rfl) ?_
                                            refine lv_aload_n hx hb dX3_pass_488 rfl (lv_at hl 7 rfl) ?_
                                            refine lk_gf3 hx hb hX3 hown hK hP 1 0 (show 0 < 10 by decide) rfl 4 (by decide) f27 rfl dX3_pass_489 ?_
                                            refine lv_iload hx hb dX3_pass_492 (lv_at hl 4 rfl) ?_
                                            refine lk_ild hx hb hK hP 1 5 (show 5 < 10 by decide) rfl (by omega) (by omega) dX3_pass_494 ?_
                                            refine lv_icmp_lt (tgt := 549) hx hb dX3_pass_495 (by decide) (fun c44 => ?_) (fun c44 => ?_)
                                            · skip
                                              have hlo : ((qS nw σ κ9) 5 j + (if (qS nw σ κ9) 11 k = 0 then nI 3 else nI 0) < (qS nw σ κ9) 6 sx) := by rw [if_neg (by assumption)]; exact c44
                                              refine lv_iinc (v := nI (sx + 1)) (lv' := [(4, .int (nI (sx + 1))), (6, .int (((qS nw σ κ9) 5 j) + (nI 0))), (8, .int (nI o9)), (7, .int (nI nw)), (5, .ref (a 3 j)), (3, .ref (a 3 k)), (2, .int (nI k)), (0, .ref (a 1 0))]) hx hb dX3_pass_549 hl (k := 4) rfl (nI_inc _ _) (by decide) rfl (fun ls hl => ?_)
                                              refine lv_goto (tgt := 335) hx hb dX3_pass_552 (by decide) ?_
                                              have hw9 : up2 (lnE (qS nw σ κ9) nw ns (qE nw σ η) k sx) 0 (6 * k + sx) (nI 0) = lnE (qS nw σ κ9) nw ns (qE nw σ η) k (sx + 1) := by first | exact lnE_s (by omega) (lv9_0 (by assumption)).symm | exact lnE_s (by omega) (lv9_1 (by assumption)).symm | exact lnE_s (by omega) (by rw [lv9_a (by assumption) hu, lrn_0 hlf]) | exact lnE_s (by omega) (by rw [lv9_a (by assumption) hu, lrn_q hlf hlo]) | (rw [up2_up2]; first | exact lnE_s (by omega) (by rw [lv9_a (by assumption) hu, lrn_c hz1 hlf hlo (by assumption) (by assumption)]) | exact lnE_s (by omega) (by rw [lv9_a (by assumption) hu, lrn_n hz1 hlf hlo (by first | exact Or.inl (by assumption) | exact Or.inr (by assumption))]))
                                              have hP : kP D (MS n nw) a (eL cI cZ cW cO X a n nw ns (qS nw σ κ9) (lnE (qS nw σ κ9) nw ns (qE nw σ η) k (sx + 1)) T) G := Eq.mp (congrArg (fun z9 => kP D (MS n nw) a (eL cI cZ cW cO X a n nw ns (qS nw σ κ9) z9 T) G) hw9) hP
                                              clear hw9
                                              have hl9 : lv_has ls 10 [(4, .int (nI (sx + 1))), (3, .ref (a 3 k)), (2, .int (nI k)), (0, .ref (a 1 0))] := lv_sub hl [0, 5, 6, 7] rfl
                                              exact ih335 (sx + 1) (by omega) (by omega) G locs hP hS ls hl9
                                            · skip
                                              have hlo : ¬ ((qS nw σ κ9) 5 j + (if (qS nw σ κ9) 11 k = 0 then nI 3 else nI 0) < (qS nw σ κ9) 6 sx) := by rw [if_neg (by assumption)]; exact c44
                                              refine lv_aload_n hx hb dX3_pass_498 rfl (lv_at hl 7 rfl) ?_
                                              refine lk_gf3 hx hb hX3 hown hK hP 1 0 (show 0 < 10 by decide) rfl 7 (by decide) f34 rfl dX3_pass_499 ?_
                                              refine lv_bipush (v := nI 6) hx hb dX3_pass_502 rfl ?_
                                              refine lv_iload_n hx hb dX3_pass_504 rfl (lv_at hl 6 rfl) ?_
                                              refine lv_imul hx hb dX3_pass_505 ?_
                                              refine li_topi (pk_mul _ _) ?_
                                              refine lv_iload hx hb dX3_pass_506 (lv_at hl 4 rfl) ?_
                                              refine lv_iadd hx hb dX3_pass_508 ?_
                                              refine li_topi (nI_add _ _) ?_
                                              refine lv_aload_n hx hb dX3_pass_509 rfl (lv_at hl 5 rfl) ?_
                                              refine lk_gf4 hx hb hX4 hown hK hP 3 k (show k < nw by omega) rfl 3 (by decide) f66 rfl dX3_pass_510 ?_
                                              refine lv_if_eq (tgt := 540) hx hb dX3_pass_513 (by decide) (fun c45 => ?_) (fun c45 => ?_)
                                              · skip
                                                refine lv_aload hx hb dX3_pass_540 (lv_at hl 3 rfl) ?_
                                                refine lk_gf4 hx hb hX4 hown hK hP 3 j (show j < nw by omega) rfl 8 (by decide) f97 rfl dX3_pass_542 ?_
                                                refine lv_iload hx hb dX3_pass_545 (lv_at hl 4 rfl) ?_
                                                refine lk_ild hx hb hK hP 4 j (show j < nw by omega) rfl (by omega) (by decide) dX3_pass_547 ?_
                                                refine li_topi (x' := (qS nw σ κ9) 16 (6 * j + sx)) (kn6_at (by omega)) ?_
                                                refine lk_ist hx hb hK hP hO hS 1 7 (show 7 < 10 by decide) rfl (by omega) (by decide) stE_0 dX3_pass_548 (fun G locs hP hS => ?_)
                                                refine lv_iinc (v := nI (sx + 1)) (lv' := [(4, .int (nI (sx + 1))), (6, .int (((qS nw σ κ9) 5 j) + (nI 0))), (8, .int (nI o9)), (7, .int (nI nw)), (5, .ref (a 3 j)), (3, .ref (a 3 k)), (2, .int (nI k)), (0, .ref (a 1 0))]) hx hb dX3_pass_549 hl (k := 4) rfl (nI_inc _ _) (by decide) rfl (fun ls hl => ?_)
                                                refine lv_goto (tgt := 335) hx hb dX3_pass_552 (by decide) ?_
                                                have hw9 : up2 (up2 (lnE (qS nw σ κ9) nw ns (qE nw σ η) k sx) 0 (6 * k + sx) (nI 0)) 0 (6 * k + sx) ((qS nw σ κ9) 16 (6 * j + sx)) = lnE (qS nw σ κ9) nw ns (qE nw σ η) k (sx + 1) := by first | exact lnE_s (by omega) (lv9_0 (by assumption)).symm | exact lnE_s (by omega) (lv9_1 (by assumption)).symm | exact lnE_s (by omega) (by rw [lv9_a (by assumption) hu, lrn_0 hlf]) | exact lnE_s (by omega) (by rw [lv9_a (by assumption) hu, lrn_q hlf hlo]) | (rw [up2_up2]; first | exact lnE_s (by omega) (by rw [lv9_a (by assumption) hu, lrn_c hz1 hlf hlo (by assumption) (by assumption)]) | exact lnE_s (by omega) (by rw [lv9_a (by assumption) hu, lrn_n hz1 hlf hlo (by first | exact Or.inl (by assumption) | exact Or.inr (by assumption))]))
                                                have hP : kP D (MS n nw) a (eL cI cZ cW cO X a n nw ns (qS nw σ κ9) (lnE (qS nw σ κ9) nw ns (qE nw σ η) k (sx + 1)) T) G := Eq.mp (congrArg (fun z9 => kP D (MS n nw) a (eL cI cZ cW cO X a n nw ns (qS nw σ κ9) z9 T) G) hw9) hP
                                                clear hw9
                                                have hl9 : lv_has ls 10 [(4, .int (nI (sx + 1))), (3, .ref (a 3 k)), (2, .int (nI k)), (0, .ref (a 1 0))] := lv_sub hl [0, 5, 6, 7] rfl
                                                exact ih335 (sx + 1) (by omega) (by omega) G locs hP hS ls hl9
                                              · skip
                                                refine lv_aload hx hb dX3_pass_516 (lv_at hl 3 rfl) ?_
                                                refine lk_gf4 hx hb hX4 hown hK hP 3 j (show j < nw by omega) rfl 3 (by decide) f66 rfl dX3_pass_518 ?_
                                                refine lv_if_eq (tgt := 540) hx hb dX3_pass_521 (by decide) (fun c46 => ?_) (fun c46 => ?_)
                                                · skip
                                                  refine lv_aload hx hb dX3_pass_540 (lv_at hl 3 rfl) ?_
                                                  refine lk_gf4 hx hb hX4 hown hK hP 3 j (show j < nw by omega) rfl 8 (by decide) f97 rfl dX3_pass_542 ?_
                                                  refine lv_iload hx hb dX3_pass_545 (lv_at hl 4 rfl) ?_
                                                  refine lk_ild hx hb hK hP 4 j (show j < nw by omega) rfl (by omega) (by decide) dX3_pass_547 ?_
                                                  refine li_topi (x' := (qS nw σ κ9) 16 (6 * j + sx)) (kn6_at (by omega)) ?_
                                                  refine lk_ist hx hb hK hP hO hS 1 7 (show 7 < 10 by decide) rfl (by omega) (by decide) stE_0 dX3_pass_548 (fun G locs hP hS => ?_)
                                                  refine lv_iinc (v := nI (sx + 1)) (lv' := [(4, .int (nI (sx + 1))), (6, .int (((qS nw σ κ9) 5 j) + (nI 0))), (8, .int (nI o9)), (7, .int (nI nw)), (5, .ref (a 3 j)), (3, .ref (a 3 k)), (2, .int (nI k)), (0, .ref (a 1 0))]) hx hb dX3_pass_549 hl (k := 4) rfl (nI_inc _ _) (by decide) rfl (fun ls hl => ?_)
                                                  refine lv_goto (tgt := 335) hx hb dX3_pass_552 (by decide) ?_
                                                  have hw9 : up2 (up2 (lnE (qS nw σ κ9) nw ns (qE nw σ η) k sx) 0 (6 * k + sx) (nI 0)) 0 (6 * k + sx) ((qS nw σ κ9) 16 (6 * j + sx)) = lnE (qS nw σ κ9) nw ns (qE nw σ η) k (sx + 1) := by first | exact lnE_s (by omega) (lv9_0 (by assumption)).symm | exact lnE_s (by omega) (lv9_1 (by assumption)).symm | exact lnE_s (by omega) (by rw [lv9_a (by assumption) hu, lrn_0 hlf]) | exact lnE_s (by omega) (by rw [lv9_a (by assumption) hu, lrn_q hlf hlo]) | (rw [up2_up2]; first | exact lnE_s (by omega) (by rw [lv9_a (by assumption) hu, lrn_c hz1 hlf hlo (by assumption) (by assumption)]) | exact lnE_s (by omega) (by rw [lv9_a (by assumption) hu, lrn_n hz1 hlf hlo (by first | exact Or.inl (by assumption) | exact Or.inr (by assumption))]))
                                                  have hP : kP D (MS n nw) a (eL cI cZ cW cO X a n nw ns (qS nw σ κ9) (lnE (qS nw σ κ9) nw ns (qE nw σ η) k (sx + 1)) T) G := Eq.mp (congrArg (fun z9 => kP D (MS n nw) a (eL cI cZ cW cO X a n nw ns (qS nw σ κ9) z9 T) G) hw9) hP
                                                  clear hw9
                                                  have hl9 : lv_has ls 10 [(4, .int (nI (sx + 1))), (3, .ref (a 3 k)), (2, .int (nI k)), (0, .ref (a 1 0))] := lv_sub hl [0, 5, 6, 7] rfl
                                                  exact ih335 (sx + 1) (by omega) (by omega) G locs hP hS ls hl9
                                                · skip
                                                  refine lv_aload hx hb dX3_pass_524 (lv_at hl 3 rfl) ?_
                                                  refine lk_gf4 hx hb hX4 hown hK hP 3 j (show j < nw by omega) rfl 8 (by decide) f97 rfl dX3_pass_526 ?_
                                                  refine lv_iload hx hb dX3_pass_529 (lv_at hl 4 rfl) ?_
                                                  refine lk_ild hx hb hK hP 4 j (show j < nw by omega) rfl (by omega) (by decide) dX3_pass_531 ?_
                                                  refine li_topi (x' := (qS nw σ κ9) 16 (6 * j + sx)) (kn6_at (by omega)) ?_
                                                  refine lv_bipush (v := nI 99) hx hb dX3_pass_532 rfl ?_
                                                  refine lv_irem hx hb dX3_pass_534 (by decide) ?_
                                                  refine li_topi (show ((qS nw σ κ9) 16 (6 * j + sx)) - ((qS nw σ κ9) 16 (6 * j + sx)) / (nI 99) * (nI 99) = rem99 ((qS nw σ κ9) 16 (6 * j + sx)) from rfl) ?_
                                                  refine lv_iconst (v := nI 1) hx hb dX3_pass_535 rfl ?_
                                                  refine lv_iadd hx hb dX3_pass_536 ?_
                                                  refine lv_goto (tgt := 548) hx hb dX3_pass_537 (by decide) ?_
                                                  refine lk_ist hx hb hK hP hO hS 1 7 (show 7 < 10 by decide) rfl (by omega) (by decide) stE_0 dX3_pass_548 (fun G locs hP hS => ?_)
                                                  refine lv_iinc (v := nI (sx + 1)) (lv' := [(4, .int (nI (sx + 1))), (6, .int (((qS nw σ κ9) 5 j) + (nI 0))), (8, .int (nI o9)), (7, .int (nI nw)), (5, .ref (a 3 j)), (3, .ref (a 3 k)), (2, .int (nI k)), (0, .ref (a 1 0))]) hx hb dX3_pass_549 hl (k := 4) rfl (nI_inc _ _) (by decide) rfl (fun ls hl => ?_)
                                                  refine lv_goto (tgt := 335) hx hb dX3_pass_552 (by decide) ?_
                                                  have hw9 : up2 (up2 (lnE (qS nw σ κ9) nw ns (qE nw σ η) k sx) 0 (6 * k + sx) (nI 0)) 0 (6 * k + sx) ((rem99 ((qS nw σ κ9) 16 (6 * j + sx))) + (nI 1)) = lnE (qS nw σ κ9) nw ns (qE nw σ η) k (sx + 1) := by first | exact lnE_s (by omega) (lv9_0 (by assumption)).symm | exact lnE_s (by omega) (lv9_1 (by assumption)).symm | exact lnE_s (by omega) (by rw [lv9_a (by assumption) hu, lrn_0 hlf]) | exact lnE_s (by omega) (by rw [lv9_a (by assumption) hu, lrn_q hlf hlo]) | (rw [up2_up2]; first | exact lnE_s (by omega) (by rw [lv9_a (by assumption) hu, lrn_c hz1 hlf hlo (by assumption) (by assumption)]) | exact lnE_s (by omega) (by rw [lv9_a (by assumption) hu, lrn_n hz1 hlf hlo (by first | exact Or.inl (by assumption) | exact Or.inr (by assumption))]))
                                                  have hP : kP D (MS n nw) a (eL cI cZ cW cO X a n nw ns (qS nw σ κ9) (lnE (qS nw σ κ9) nw ns (qE nw σ η) k (sx + 1)) T) G := Eq.mp (congrArg (fun z9 => kP D (MS n nw) a (eL cI cZ cW cO X a n nw ns (qS nw σ κ9) z9 T) G) hw9) hP
                                                  clear hw9
                                                  have hl9 : lv_has ls 10 [(4, .int (nI (sx + 1))), (3, .ref (a 3 k)), (2, .int (nI k)), (0, .ref (a 1 0))] := lv_sub hl [0, 5, 6, 7] rfl
                                                  exact ih335 (sx + 1) (by omega) (by omega) G locs hP hS ls hl9
                                      · skip
                                        refine lv_aload hx hb dX3_pass_403 (lv_at hl 2 rfl) ?_
                                        refine lv_iload hx hb dX3_pass_405 (lv_at hl 0 rfl) ?_
                                        refine lk_aldW hx hb hK hP 1 4 (show 4 < 10 by decide) rfl (by omega) (by omega) (rfs_at (by omega)) dX3_pass_407 ?_
                                        refine lv_astore (lv' := [(9, .ref (a 3 o9)), (8, .int (nI o9)), (7, .int (nI nw)), (6, .ref (a 1 4)), (5, va_rf ((lfo (qS nw σ κ9) k sx o9).map (a 3))), (4, .int (nI sx)), (3, .ref (a 3 k)), (2, .int (nI k)), (0, .ref (a 1 0))]) hx hb dX3_pass_408 hl (by decide) rfl (fun ls hl => ?_)
                                        refine lv_aload_n hx hb dX3_pass_410 rfl (lv_at hl 6 rfl) ?_
                                        refine lv_aload hx hb dX3_pass_411 (lv_at hl 0 rfl) ?_
                                        obtain ⟨q9, hq9, -⟩ := wK_at (M := MS n nw) (a := a) (e := eL cI cZ cW cO X a n nw ns (qS nw σ κ9) (up2 (lnE (qS nw σ κ9) nw ns (qE nw σ η) k sx) 0 (6 * k + sx) (nI 0)) T) (c := 3) (i := k) (show k < nw by omega)
                                        refine roV (As := [.ref (a 3 o9)]) (q0 := q9) (ci := 4) hx hb hml hown hts (c_X4_isBeside l D cI cZ cW cO X a n nw ns (qS nw σ κ9) (up2 (lnE (qS nw σ κ9) nw ns (qE nw σ η) k sx) 0 (6 * k + sx) (nI 0)) T G k o9 A hO hB (by omega) (by omega)) (cwV 1 hts gX3_pass_X4_isBeside rfl rfl rfl (by decide +kernel) ⟨by decide, by decide⟩) hK hE hP.w rfl rfl hq9 rfl hl.1 rfl (Nat.le_of_ble_eq_true rfl) hS dX3_pass_413 ⟨Nat.zero_le _, Nat.zero_le _⟩ (fun locs hS => ?_)
                                        refine li_zeq (tgt := 452) hx hb dX3_pass_416 (by decide) (fun c47 => ?_) (fun c47 => ?_)
                                        · skip
                                          refine lv_iinc (v := nI (o9 + 1)) (lv' := [(8, .int (nI (o9 + 1))), (9, .ref (a 3 o9)), (7, .int (nI nw)), (6, .ref (a 1 4)), (5, va_rf ((lfo (qS nw σ κ9) k sx o9).map (a 3))), (4, .int (nI sx)), (3, .ref (a 3 k)), (2, .int (nI k)), (0, .ref (a 1 0))]) hx hb dX3_pass_452 hl (k := 1) rfl (nI_inc _ _) (by decide) rfl (fun ls hl => ?_)
                                          refine lv_goto (tgt := 396) hx hb dX3_pass_455 (by decide) ?_
                                          have hl9 : lv_has ls 10 [(8, .int (nI (o9 + 1))), (7, .int (nI nw)), (6, .ref (a 1 4)), (5, va_rf ((lfo (qS nw σ κ9) k sx o9).map (a 3))), (4, .int (nI sx)), (3, .ref (a 3 k)), (2, .int (nI k)), (0, .ref (a 1 0))] := lv_sub hl [0, 2, 3, 4, 5, 6, 7, 8] rfl
                                          have hl9 : lv_has ls 10 [(8, .int (nI (o9 + 1))), (7, .int (nI nw)), (6, .ref (a 1 4)), (5, va_rf ((lfo (qS nw σ κ9) k sx (o9 + 1)).map (a 3))), (4, .int (nI sx)), (3, .ref (a 3 k)), (2, .int (nI k)), (0, .ref (a 1 0))] := lv_reg hl9 (i := 3) rfl (show (va_rf ((lfo (qS nw σ κ9) k sx o9).map (a 3)) : Value) = va_rf ((lfo (qS nw σ κ9) k sx (o9 + 1)).map (a 3)) from by first | (rw [lfo_0 (by assumption)]; done) | (rw [lfo_1 (by assumption)]; done) | (rw [lfo_n (by assumption) (by assumption) hlf]; rfl) | (rw [lfo_k (by assumption) (by assumption) hlf (by assumption)]; rfl) | (rw [lfo_j hlf (by assumption)]; rfl))
                                          exact ih396 (o9 + 1) (by omega) (by omega) G locs hP hS ls hl9
                                        · skip
                                          refine lv_aload hx hb dX3_pass_419 (lv_at hl 0 rfl) ?_
                                          refine lk_gf4 hx hb hX4 hown hK hP 3 o9 (show o9 < nw by omega) rfl 8 (by decide) f97 rfl dX3_pass_421 ?_
                                          refine lv_iload hx hb dX3_pass_424 (lv_at hl 5 rfl) ?_
                                          refine lk_ild hx hb hK hP 4 o9 (show o9 < nw by omega) rfl (by omega) (by decide) dX3_pass_426 ?_
                                          refine li_topi (x' := (qS nw σ κ9) 16 (6 * o9 + sx)) (kn6_at (by omega)) ?_
                                          refine lv_if_le (tgt := 452) hx hb dX3_pass_427 (by decide) (fun c48 => ?_) (fun c48 => ?_)
                                          · skip
                                            refine lv_iinc (v := nI (o9 + 1)) (lv' := [(8, .int (nI (o9 + 1))), (9, .ref (a 3 o9)), (7, .int (nI nw)), (6, .ref (a 1 4)), (5, va_rf ((lfo (qS nw σ κ9) k sx o9).map (a 3))), (4, .int (nI sx)), (3, .ref (a 3 k)), (2, .int (nI k)), (0, .ref (a 1 0))]) hx hb dX3_pass_452 hl (k := 1) rfl (nI_inc _ _) (by decide) rfl (fun ls hl => ?_)
                                            refine lv_goto (tgt := 396) hx hb dX3_pass_455 (by decide) ?_
                                            have hl9 : lv_has ls 10 [(8, .int (nI (o9 + 1))), (7, .int (nI nw)), (6, .ref (a 1 4)), (5, va_rf ((lfo (qS nw σ κ9) k sx o9).map (a 3))), (4, .int (nI sx)), (3, .ref (a 3 k)), (2, .int (nI k)), (0, .ref (a 1 0))] := lv_sub hl [0, 2, 3, 4, 5, 6, 7, 8] rfl
                                            have hl9 : lv_has ls 10 [(8, .int (nI (o9 + 1))), (7, .int (nI nw)), (6, .ref (a 1 4)), (5, va_rf ((lfo (qS nw σ κ9) k sx (o9 + 1)).map (a 3))), (4, .int (nI sx)), (3, .ref (a 3 k)), (2, .int (nI k)), (0, .ref (a 1 0))] := lv_reg hl9 (i := 3) rfl (show (va_rf ((lfo (qS nw σ κ9) k sx o9).map (a 3)) : Value) = va_rf ((lfo (qS nw σ κ9) k sx (o9 + 1)).map (a 3)) from by first | (rw [lfo_0 (by assumption)]; done) | (rw [lfo_1 (by assumption)]; done) | (rw [lfo_n (by assumption) (by assumption) hlf]; rfl) | (rw [lfo_k (by assumption) (by assumption) hlf (by assumption)]; rfl) | (rw [lfo_j hlf (by assumption)]; rfl))
                                            exact ih396 (o9 + 1) (by omega) (by omega) G locs hP hS ls hl9
                                          · skip
                                            cases hlf : lfo (qS nw σ κ9) k sx o9 with
                                            | none =>
                                              rw [hlf] at hl
                                              have hl : lv_has ls 10 [(9, .ref (a 3 o9)), (8, .int (nI o9)), (7, .int (nI nw)), (6, .ref (a 1 4)), (5, .null), (4, .int (nI sx)), (3, .ref (a 3 k)), (2, .int (nI k)), (0, .ref (a 1 0))] := hl
                                              refine lv_aloadN hx hb dX3_pass_430 (lv_at hl 4 rfl) ?_
                                              refine lv_ifnullN (tgt := 448) hx hb dX3_pass_432 (by decide) ?_
                                              refine lv_aload hx hb dX3_pass_448 (lv_at hl 0 rfl) ?_
                                              refine lv_astore (lv' := [(5, .ref (a 3 o9)), (9, .ref (a 3 o9)), (8, .int (nI o9)), (7, .int (nI nw)), (6, .ref (a 1 4)), (4, .int (nI sx)), (3, .ref (a 3 k)), (2, .int (nI k)), (0, .ref (a 1 0))]) hx hb dX3_pass_450 hl (by decide) rfl (fun ls hl => ?_)
                                              refine lv_iinc (v := nI (o9 + 1)) (lv' := [(8, .int (nI (o9 + 1))), (5, .ref (a 3 o9)), (9, .ref (a 3 o9)), (7, .int (nI nw)), (6, .ref (a 1 4)), (4, .int (nI sx)), (3, .ref (a 3 k)), (2, .int (nI k)), (0, .ref (a 1 0))]) hx hb dX3_pass_452 hl (k := 2) rfl (nI_inc _ _) (by decide) rfl (fun ls hl => ?_)
                                              refine lv_goto (tgt := 396) hx hb dX3_pass_455 (by decide) ?_
                                              have hl9 : lv_has ls 10 [(8, .int (nI (o9 + 1))), (7, .int (nI nw)), (6, .ref (a 1 4)), (5, .ref (a 3 o9)), (4, .int (nI sx)), (3, .ref (a 3 k)), (2, .int (nI k)), (0, .ref (a 1 0))] := lv_sub hl [0, 3, 4, 1, 5, 6, 7, 8] rfl
                                              have hl9 : lv_has ls 10 [(8, .int (nI (o9 + 1))), (7, .int (nI nw)), (6, .ref (a 1 4)), (5, va_rf ((lfo (qS nw σ κ9) k sx (o9 + 1)).map (a 3))), (4, .int (nI sx)), (3, .ref (a 3 k)), (2, .int (nI k)), (0, .ref (a 1 0))] := lv_reg hl9 (i := 3) rfl (show (.ref (a 3 o9) : Value) = va_rf ((lfo (qS nw σ κ9) k sx (o9 + 1)).map (a 3)) from by first | (rw [lfo_0 (by assumption)]; done) | (rw [lfo_1 (by assumption)]; done) | (rw [lfo_n (by assumption) (by assumption) hlf]; rfl) | (rw [lfo_k (by assumption) (by assumption) hlf (by assumption)]; rfl) | (rw [lfo_j hlf (by assumption)]; rfl))
                                              exact ih396 (o9 + 1) (by omega) (by omega) G locs hP hS ls hl9
                                            | some j =>
                                              rw [hlf] at hl
                                              have hl : lv_has ls 10 [(9, .ref (a 3 o9)), (8, .int (nI o9)), (7, .int (nI nw)), (6, .ref (a 1 4)), (5, .ref (a 3 j)), (4, .int (nI sx)), (3, .ref (a 3 k)), (2, .int (nI k)), (0, .ref (a 1 0))] := hl
                                              have hj9 : j < o9 := lfo_lt hlf
                                              refine lv_aload hx hb dX3_pass_430 (lv_at hl 4 rfl) ?_
                                              refine lv_ifnull hx hb dX3_pass_432 ?_
                                              refine lv_aload hx hb dX3_pass_435 (lv_at hl 0 rfl) ?_
                                              refine lk_gf4 hx hb hX4 hown hK hP 3 o9 (show o9 < nw by omega) rfl 2 (by decide) f63 rfl dX3_pass_437 ?_
                                              refine lv_aload hx hb dX3_pass_440 (lv_at hl 4 rfl) ?_
                                              refine lk_gf4 hx hb hX4 hown hK hP 3 j (show j < nw by omega) rfl 2 (by decide) f63 rfl dX3_pass_442 ?_
                                              refine lv_icmp_le (tgt := 452) hx hb dX3_pass_445 (by decide) (fun c49 => ?_) (fun c49 => ?_)
                                              · skip
                                                refine lv_iinc (v := nI (o9 + 1)) (lv' := [(8, .int (nI (o9 + 1))), (9, .ref (a 3 o9)), (7, .int (nI nw)), (6, .ref (a 1 4)), (5, .ref (a 3 j)), (4, .int (nI sx)), (3, .ref (a 3 k)), (2, .int (nI k)), (0, .ref (a 1 0))]) hx hb dX3_pass_452 hl (k := 1) rfl (nI_inc _ _) (by decide) rfl (fun ls hl => ?_)
                                                refine lv_goto (tgt := 396) hx hb dX3_pass_455 (by decide) ?_
                                                have hl9 : lv_has ls 10 [(8, .int (nI (o9 + 1))), (7, .int (nI nw)), (6, .ref (a 1 4)), (5, .ref (a 3 j)), (4, .int (nI sx)), (3, .ref (a 3 k)), (2, .int (nI k)), (0, .ref (a 1 0))] := lv_sub hl [0, 2, 3, 4, 5, 6, 7, 8] rfl
                                                have hl9 : lv_has ls 10 [(8, .int (nI (o9 + 1))), (7, .int (nI nw)), (6, .ref (a 1 4)), (5, va_rf ((lfo (qS nw σ κ9) k sx (o9 + 1)).map (a 3))), (4, .int (nI sx)), (3, .ref (a 3 k)), (2, .int (nI k)), (0, .ref (a 1 0))] := lv_reg hl9 (i := 3) rfl (show (.ref (a 3 j) : Value) = va_rf ((lfo (qS nw σ κ9) k sx (o9 + 1)).map (a 3)) from by first | (rw [lfo_0 (by assumption)]; done) | (rw [lfo_1 (by assumption)]; done) | (rw [lfo_n (by assumption) (by assumption) hlf]; rfl) | (rw [lfo_k (by assumption) (by assumption) hlf (by assumption)]; rfl) | (rw [lfo_j hlf (by assumption)]; rfl))
                                                exact ih396 (o9 + 1) (by omega) (by omega) G locs hP hS ls hl9
                                              · skip
                                                refine lv_aload hx hb dX3_pass_448 (lv_at hl 0 rfl) ?_
                                                refine lv_astore (lv' := [(5, .ref (a 3 o9)), (9, .ref (a 3 o9)), (8, .int (nI o9)), (7, .int (nI nw)), (6, .ref (a 1 4)), (4, .int (nI sx)), (3, .ref (a 3 k)), (2, .int (nI k)), (0, .ref (a 1 0))]) hx hb dX3_pass_450 hl (by decide) rfl (fun ls hl => ?_)
                                                refine lv_iinc (v := nI (o9 + 1)) (lv' := [(8, .int (nI (o9 + 1))), (5, .ref (a 3 o9)), (9, .ref (a 3 o9)), (7, .int (nI nw)), (6, .ref (a 1 4)), (4, .int (nI sx)), (3, .ref (a 3 k)), (2, .int (nI k)), (0, .ref (a 1 0))]) hx hb dX3_pass_452 hl (k := 2) rfl (nI_inc _ _) (by decide) rfl (fun ls hl => ?_)
                                                refine lv_goto (tgt := 396) hx hb dX3_pass_455 (by decide) ?_
                                                have hl9 : lv_has ls 10 [(8, .int (nI (o9 + 1))), (7, .int (nI nw)), (6, .ref (a 1 4)), (5, .ref (a 3 o9)), (4, .int (nI sx)), (3, .ref (a 3 k)), (2, .int (nI k)), (0, .ref (a 1 0))] := lv_sub hl [0, 3, 4, 1, 5, 6, 7, 8] rfl
                                                have hl9 : lv_has ls 10 [(8, .int (nI (o9 + 1))), (7, .int (nI nw)), (6, .ref (a 1 4)), (5, va_rf ((lfo (qS nw σ κ9) k sx (o9 + 1)).map (a 3))), (4, .int (nI sx)), (3, .ref (a 3 k)), (2, .int (nI k)), (0, .ref (a 1 0))] := lv_reg hl9 (i := 3) rfl (show (.ref (a 3 o9) : Value) = va_rf ((lfo (qS nw σ κ9) k sx (o9 + 1)).map (a 3)) from by first | (rw [lfo_0 (by assumption)]; done) | (rw [lfo_1 (by assumption)]; done) | (rw [lfo_n (by assumption) (by assumption) hlf]; rfl) | (rw [lfo_k (by assumption) (by assumption) hlf (by assumption)]; rfl) | (rw [lfo_j hlf (by assumption)]; rfl))
                                                exact ih396 (o9 + 1) (by omega) (by omega) G locs hP hS ls hl9
                                  have hl9 : lv_has ls 10 [(8, .int (nI 0)), (7, .int (nI nw)), (6, .ref (a 1 4)), (5, .null), (4, .int (nI sx)), (3, .ref (a 3 k)), (2, .int (nI k)), (0, .ref (a 1 0))] := lv_sub hl [0, 1, 2, 3, 4, 5, 6, 7] rfl
                                  have hl9 : lv_has ls 10 [(8, .int (nI 0)), (7, .int (nI nw)), (6, .ref (a 1 4)), (5, va_rf ((lfo (qS nw σ κ9) k sx 0).map (a 3))), (4, .int (nI sx)), (3, .ref (a 3 k)), (2, .int (nI k)), (0, .ref (a 1 0))] := lv_reg hl9 (i := 3) rfl (show (.null : Value) = va_rf ((lfo (qS nw σ κ9) k sx 0).map (a 3)) from rfl)
                                  exact L396_38 ((nw - 0) + 1) 0 (Nat.lt_succ_self _) (by omega) G locs hP hS ls hl9
                                · skip
                                  have hnu : ¬ (qS nw σ κ9) 16 (6 * k + sx) = 0 := fun z => c37 (by rw [z]; decide)
                                  refine lv_goto (tgt := 549) hx hb dX3_pass_376 (by decide) ?_
                                  refine lv_iinc (v := nI (sx + 1)) (lv' := [(4, .int (nI (sx + 1))), (3, .ref (a 3 k)), (2, .int (nI k)), (0, .ref (a 1 0))]) hx hb dX3_pass_549 hl (k := 0) rfl (nI_inc _ _) (by decide) rfl (fun ls hl => ?_)
                                  refine lv_goto (tgt := 335) hx hb dX3_pass_552 (by decide) ?_
                                  have hw9 : up2 (lnE (qS nw σ κ9) nw ns (qE nw σ η) k sx) 0 (6 * k + sx) (nI 0) = lnE (qS nw σ κ9) nw ns (qE nw σ η) k (sx + 1) := by first | exact lnE_s (by omega) (lv9_0 (by assumption)).symm | exact lnE_s (by omega) (lv9_1 (by assumption)).symm | exact lnE_s (by omega) (by rw [lv9_a (by assumption) hu, lrn_0 hlf]) | exact lnE_s (by omega) (by rw [lv9_a (by assumption) hu, lrn_q hlf hlo]) | (rw [up2_up2]; first | exact lnE_s (by omega) (by rw [lv9_a (by assumption) hu, lrn_c hz1 hlf hlo (by assumption) (by assumption)]) | exact lnE_s (by omega) (by rw [lv9_a (by assumption) hu, lrn_n hz1 hlf hlo (by first | exact Or.inl (by assumption) | exact Or.inr (by assumption))]))
                                  have hP : kP D (MS n nw) a (eL cI cZ cW cO X a n nw ns (qS nw σ κ9) (lnE (qS nw σ κ9) nw ns (qE nw σ η) k (sx + 1)) T) G := Eq.mp (congrArg (fun z9 => kP D (MS n nw) a (eL cI cZ cW cO X a n nw ns (qS nw σ κ9) z9 T) G) hw9) hP
                                  clear hw9
                                  have hl9 : lv_has ls 10 [(4, .int (nI (sx + 1))), (3, .ref (a 3 k)), (2, .int (nI k)), (0, .ref (a 1 0))] := lv_sub hl [0, 1, 2, 3] rfl
                                  exact ih335 (sx + 1) (by omega) (by omega) G locs hP hS ls hl9
                        have hl9 : lv_has ls 10 [(4, .int (nI 0)), (3, .ref (a 3 k)), (2, .int (nI k)), (0, .ref (a 1 0))] := lv_sub hl [0, 1, 2, 3] rfl
                        exact L335_34 ((ns - 0) + 1) 0 (Nat.lt_succ_self _) (by omega) G locs hP hS ls hl9
                  have hw9 : (qE nw σ η) = lnE (qS nw σ κ9) nw ns (qE nw σ η) 0 0 := lnE_0.symm
                  have hP : kP D (MS n nw) a (eL cI cZ cW cO X a n nw ns (qS nw σ κ9) (lnE (qS nw σ κ9) nw ns (qE nw σ η) 0 0) T) G := Eq.mp (congrArg (fun z9 => kP D (MS n nw) a (eL cI cZ cW cO X a n nw ns (qS nw σ κ9) z9 T) G) hw9) hP
                  clear hw9
                  have hl9 : lv_has ls 10 [(2, .int (nI 0)), (0, .ref (a 1 0))] := lv_sub hl [0, 1] rfl
                  exact L316_7 ((nw - 0) + 1) 0 (Nat.lt_succ_self _) (by omega) G locs hP hS ls hl9
                refine lv_iconst (v := nI 0) hx hb dX3_pass_277 rfl ?_
                refine lv_istore_n (lv' := [(2, .int (nI 0)), (0, .ref (a 1 0))]) hx hb dX3_pass_278 rfl hl (by decide) rfl (fun ls hl => ?_)
                have L279_50 : ∀ (fuel : Nat) (k : Nat), (nw - k) < fuel → (k ≤ nw) → ∀ (G : Heap) (locs : List Loc), kP D (MS n nw) a (eL cI cZ cW cO X a n nw ns (foldN (lg1 (qT nw σ) nw) k (qT nw σ)) (qE nw σ η) T) G → va_S A H G locs → ∀ (ls : Array Slot), lv_has ls 10 [(2, .int (nI k)), (0, .ref (a 1 0))] → W p l e ({ frames := 2, cells := 0, slots := 0, locals := 51 } : Room) s m args below meth c G locs 0 0 Q (F0 m 279 ls []) := by
                  intro fuel
                  induction fuel with
                  | zero =>
                    intro k hfuel
                    exact absurd hfuel (Nat.not_lt_zero _)
                  | succ fuel ih279 =>
                    intro k hfuel279 hk G locs hP hS ls hl
                    refine lv_iload_n hx hb dX3_pass_279 rfl (lv_at hl 0 rfl) ?_
                    refine lv_aload_n hx hb dX3_pass_280 rfl (lv_at hl 1 rfl) ?_
                    refine lk_gf3 hx hb hX3 hown hK hP 1 0 (show 0 < 10 by decide) rfl 3 (by decide) f23 rfl dX3_pass_281 ?_
                    refine lk_alen hx hb hK hP 1 4 (show 4 < 10 by decide) 2 rfl rfl dX3_pass_284 ?_
                    refine li_ge (tgt := 314) hx hb dX3_pass_285 (by decide) (by first | omega | (have := nb_le (σ := foldN (bo1 nw) k (bdF (windOf σ) nw σ)) (nw := nw) (w := k); omega) | (have := wa_le (σ := foldN (st1 nw) k8 (t2 n pl nw ns (σ, κ9)).1) (nw := nw) (z := nI 0); omega) | (have := (hpz _ (by omega) (by assumption)).2; omega) | (have := (hpz _ (by omega) hfa.2).2; omega)) (by first | omega | (have := nb_le (σ := foldN (bo1 nw) k (bdF (windOf σ) nw σ)) (nw := nw) (w := k); omega) | (have := wa_le (σ := foldN (st1 nw) k8 (t2 n pl nw ns (σ, κ9)).1) (nw := nw) (z := nI 0); omega) | (have := (hpz _ (by omega) (by assumption)).2; omega) | (have := (hpz _ (by omega) hfa.2).2; omega)) (fun c51 => ?_) (fun c51 => ?_)
                    · skip
                      have hw9 : foldN (lg1 (qT nw σ) nw) k (qT nw σ) = (qS nw σ κ9) := by rw [show k = nw by omega]; exact qS_lit hz0 hw0
                      have hP : kP D (MS n nw) a (eL cI cZ cW cO X a n nw ns (qS nw σ κ9) (qE nw σ η) T) G := Eq.mp (congrArg (fun z9 => kP D (MS n nw) a (eL cI cZ cW cO X a n nw ns z9 (qE nw σ η) T) G) hw9) hP
                      clear hw9
                      have hl9 : lv_has ls 10 [(0, .ref (a 1 0))] := lv_sub hl [1] rfl
                      exact K314_6 (0 + 1)  (Nat.lt_succ_self _)  G locs hP hS ls hl9
                    · skip
                      refine lv_aload_n hx hb dX3_pass_288 rfl (lv_at hl 1 rfl) ?_
                      refine lk_gf3 hx hb hX3 hown hK hP 1 0 (show 0 < 10 by decide) rfl 3 (by decide) f23 rfl dX3_pass_289 ?_
                      refine lv_iload_n hx hb dX3_pass_292 rfl (lv_at hl 0 rfl) ?_
                      refine lk_aldW hx hb hK hP 1 4 (show 4 < 10 by decide) rfl (by omega) (by omega) (rfs_at (by omega)) dX3_pass_293 ?_
                      refine lv_dup hx hb dX3_pass_294 rfl ?_
                      refine lk_gf4 hx hb hX4 hown hK hP 3 k (show k < nw by omega) rfl 3 (by decide) f66 rfl dX3_pass_295 ?_
                      refine lv_aload_n hx hb dX3_pass_298 rfl (lv_at hl 1 rfl) ?_
                      refine lk_gf3 hx hb hX3 hown hK hP 1 0 (show 0 < 10 by decide) rfl 6 (by decide) f30 rfl dX3_pass_299 ?_
                      refine lv_iload_n hx hb dX3_pass_302 rfl (lv_at hl 0 rfl) ?_
                      refine lk_zld hx hb hK hP 1 6 (show 6 < 10 by decide) rfl (by omega) (by decide) dX3_pass_303 ?_
                      refine li_topi (show (qE nw σ η) 1 k = zI (lt9 (qT nw σ) nw k) from lgE_at (by omega)) ?_
                      refine lv_ior hx hb dX3_pass_304 ?_
                      refine li_topi (show ((foldN (lg1 (qT nw σ) nw) k (qT nw σ)) 11 k) ||| (zI (lt9 (qT nw σ) nw k)) = vlt (lt9 (qT nw σ) nw k) (foldN (lg1 (qT nw σ) nw) k (qT nw σ) 11 k) from or_vlt (lgS_bz hz0 k k)) ?_
                      refine lk_pf4 hx hb hX4 hown hK hP hO hS 3 k (show k < nw by omega) rfl 3 (by decide) f66 rfl (nf_01 (vlt_01 (lgS_bz hz0 k k))).1 (nf_01 (vlt_01 (lgS_bz hz0 k k))).2 (Nat.le_of_ble_eq_true rfl) stS_11 dX3_pass_305 (fun G locs hP hS => ?_)
                      refine lv_iinc (v := nI (k + 1)) (lv' := [(2, .int (nI (k + 1))), (0, .ref (a 1 0))]) hx hb dX3_pass_308 hl (k := 0) rfl (nI_inc _ _) (by decide) rfl (fun ls hl => ?_)
                      refine lv_goto (tgt := 279) hx hb dX3_pass_311 (by decide) ?_
                      have hw9 : up2 (foldN (lg1 (qT nw σ) nw) k (qT nw σ)) 11 k (vlt (lt9 (qT nw σ) nw k) (foldN (lg1 (qT nw σ) nw) k (qT nw σ) 11 k)) = foldN (lg1 (qT nw σ) nw) (k + 1) (qT nw σ) := lg_vlt
                      have hP : kP D (MS n nw) a (eL cI cZ cW cO X a n nw ns (foldN (lg1 (qT nw σ) nw) (k + 1) (qT nw σ)) (qE nw σ η) T) G := Eq.mp (congrArg (fun z9 => kP D (MS n nw) a (eL cI cZ cW cO X a n nw ns z9 (qE nw σ η) T) G) hw9) hP
                      clear hw9
                      have hl9 : lv_has ls 10 [(2, .int (nI (k + 1))), (0, .ref (a 1 0))] := lv_sub hl [0, 1] rfl
                      exact ih279 (k + 1) (by omega) (by omega) G locs hP hS ls hl9
                have hw9 : (qT nw σ) = foldN (lg1 (qT nw σ) nw) 0 (qT nw σ) := rfl
                have hP : kP D (MS n nw) a (eL cI cZ cW cO X a n nw ns (foldN (lg1 (qT nw σ) nw) 0 (qT nw σ)) (lgE (qT nw σ) nw η k) T) G := Eq.mp (congrArg (fun z9 => kP D (MS n nw) a (eL cI cZ cW cO X a n nw ns z9 (lgE (qT nw σ) nw η k) T) G) hw9) hP
                clear hw9
                have hw9 : lgE (qT nw σ) nw η k = (qE nw σ η) := by rw [show k = nw by omega]; rfl
                have hP : kP D (MS n nw) a (eL cI cZ cW cO X a n nw ns (foldN (lg1 (qT nw σ) nw) 0 (qT nw σ)) (qE nw σ η) T) G := Eq.mp (congrArg (fun z9 => kP D (MS n nw) a (eL cI cZ cW cO X a n nw ns (foldN (lg1 (qT nw σ) nw) 0 (qT nw σ)) z9 T) G) hw9) hP
                clear hw9
                have hl9 : lv_has ls 10 [(2, .int (nI 0)), (0, .ref (a 1 0))] := lv_sub hl [0, 1] rfl
                exact L279_50 ((nw - 0) + 1) 0 (Nat.lt_succ_self _) (by omega) G locs hP hS ls hl9
              · skip
                refine lv_aload_n hx hb dX3_pass_185 rfl (lv_at hl 1 rfl) ?_
                refine lk_gf3 hx hb hX3 hown hK hP 1 0 (show 0 < 10 by decide) rfl 6 (by decide) f30 rfl dX3_pass_186 ?_
                refine lv_iload_n hx hb dX3_pass_189 rfl (lv_at hl 0 rfl) ?_
                refine lv_iconst (v := nI 0) hx hb dX3_pass_190 rfl ?_
                refine lk_zst hx hb hK hP hO hS 1 6 (show 6 < 10 by decide) rfl (by omega) (by decide) (rfl) stE_1 dX3_pass_191 (fun G locs hP hS => ?_)
                refine lv_aload_n hx hb dX3_pass_192 rfl (lv_at hl 1 rfl) ?_
                refine lk_gf3 hx hb hX3 hown hK hP 1 0 (show 0 < 10 by decide) rfl 3 (by decide) f23 rfl dX3_pass_193 ?_
                refine lv_astore_n (lv' := [(3, .ref (a 1 4)), (2, .int (nI k)), (0, .ref (a 1 0))]) hx hb dX3_pass_196 rfl hl (by decide) rfl (fun ls hl => ?_)
                refine lv_aload_n hx hb dX3_pass_197 rfl (lv_at hl 0 rfl) ?_
                refine lk_alen hx hb hK hP 1 4 (show 4 < 10 by decide) 2 rfl rfl dX3_pass_198 ?_
                refine lv_istore (lv' := [(4, .int (nI nw)), (3, .ref (a 1 4)), (2, .int (nI k)), (0, .ref (a 1 0))]) hx hb dX3_pass_199 hl (by decide) rfl (fun ls hl => ?_)
                refine lv_iconst (v := nI 0) hx hb dX3_pass_201 rfl ?_
                refine lv_istore (lv' := [(5, .int (nI 0)), (4, .int (nI nw)), (3, .ref (a 1 4)), (2, .int (nI k)), (0, .ref (a 1 0))]) hx hb dX3_pass_202 hl (by decide) rfl (fun ls hl => ?_)
                have L204_52 : ∀ (fuel : Nat) (o9 : Nat), (nw - o9) < fuel → (o9 ≤ nw) → ∀ (G : Heap) (locs : List Loc), kP D (MS n nw) a (eL cI cZ cW cO X a n nw ns (qT nw σ) (up2 (lgE (qT nw σ) nw η k) 1 k (zI (anyN (ltP (qT nw σ) k) o9))) T) G → va_S A H G locs → ∀ (ls : Array Slot), lv_has ls 10 [(5, .int (nI o9)), (4, .int (nI nw)), (3, .ref (a 1 4)), (2, .int (nI k)), (0, .ref (a 1 0))] → W p l e ({ frames := 2, cells := 0, slots := 0, locals := 51 } : Room) s m args below meth c G locs 0 0 Q (F0 m 204 ls []) := by
                  intro fuel
                  induction fuel with
                  | zero =>
                    intro o9 hfuel
                    exact absurd hfuel (Nat.not_lt_zero _)
                  | succ fuel ih204 =>
                    intro o9 hfuel204 ho G locs hP hS ls hl
                    refine lv_iload hx hb dX3_pass_204 (lv_at hl 0 rfl) ?_
                    refine lv_iload hx hb dX3_pass_206 (lv_at hl 1 rfl) ?_
                    refine li_ge (tgt := 271) hx hb dX3_pass_208 (by decide) (by first | omega | (have := nb_le (σ := foldN (bo1 nw) k (bdF (windOf σ) nw σ)) (nw := nw) (w := k); omega) | (have := wa_le (σ := foldN (st1 nw) k8 (t2 n pl nw ns (σ, κ9)).1) (nw := nw) (z := nI 0); omega) | (have := (hpz _ (by omega) (by assumption)).2; omega) | (have := (hpz _ (by omega) hfa.2).2; omega)) (by first | omega | (have := nb_le (σ := foldN (bo1 nw) k (bdF (windOf σ) nw σ)) (nw := nw) (w := k); omega) | (have := wa_le (σ := foldN (st1 nw) k8 (t2 n pl nw ns (σ, κ9)).1) (nw := nw) (z := nI 0); omega) | (have := (hpz _ (by omega) (by assumption)).2; omega) | (have := (hpz _ (by omega) hfa.2).2; omega)) (fun c53 => ?_) (fun c53 => ?_)
                    · skip
                      refine lv_iinc (v := nI (k + 1)) (lv' := [(2, .int (nI (k + 1))), (5, .int (nI o9)), (4, .int (nI nw)), (3, .ref (a 1 4)), (0, .ref (a 1 0))]) hx hb dX3_pass_271 hl (k := 3) rfl (nI_inc _ _) (by decide) rfl (fun ls hl => ?_)
                      refine lv_goto (tgt := 176) hx hb dX3_pass_274 (by decide) ?_
                      have hw9 : up2 (lgE (qT nw σ) nw η k) 1 k (zI (anyN (ltP (qT nw σ) k) o9)) = lgE (qT nw σ) nw η (k + 1) := by exact lgE_s (by rw [← ltP_lt9 hz0 hw0, show o9 = nw by omega])
                      have hP : kP D (MS n nw) a (eL cI cZ cW cO X a n nw ns (qT nw σ) (lgE (qT nw σ) nw η (k + 1)) T) G := Eq.mp (congrArg (fun z9 => kP D (MS n nw) a (eL cI cZ cW cO X a n nw ns (qT nw σ) z9 T) G) hw9) hP
                      clear hw9
                      have hl9 : lv_has ls 10 [(2, .int (nI (k + 1))), (0, .ref (a 1 0))] := lv_sub hl [0, 4] rfl
                      exact ih176 (k + 1) (by omega) (by omega) G locs hP hS ls hl9
                    · skip
                      refine lv_aload_n hx hb dX3_pass_211 rfl (lv_at hl 2 rfl) ?_
                      refine lv_iload hx hb dX3_pass_212 (lv_at hl 0 rfl) ?_
                      refine lk_aldW hx hb hK hP 1 4 (show 4 < 10 by decide) rfl (by omega) (by omega) (rfs_at (by omega)) dX3_pass_214 ?_
                      refine lv_astore (lv' := [(6, .ref (a 3 o9)), (5, .int (nI o9)), (4, .int (nI nw)), (3, .ref (a 1 4)), (2, .int (nI k)), (0, .ref (a 1 0))]) hx hb dX3_pass_215 hl (by decide) rfl (fun ls hl => ?_)
                      refine lv_aload_n hx hb dX3_pass_217 rfl (lv_at hl 5 rfl) ?_
                      refine lk_gf3 hx hb hX3 hown hK hP 1 0 (show 0 < 10 by decide) rfl 6 (by decide) f30 rfl dX3_pass_218 ?_
                      refine lv_iload_n hx hb dX3_pass_221 rfl (lv_at hl 4 rfl) ?_
                      refine lv_dup2_11 hx hb dX3_pass_222 rfl rfl ?_
                      refine lk_zld hx hb hK hP 1 6 (show 6 < 10 by decide) rfl (by omega) (by decide) dX3_pass_223 ?_
                      refine li_topi (show (up2 (lgE (qT nw σ) nw η k) 1 k (zI (anyN (ltP (qT nw σ) k) o9))) 1 k = zI (anyN (ltP (qT nw σ) k) o9) from by exact up2_in') ?_
                      refine lv_aload_n hx hb dX3_pass_224 rfl (lv_at hl 5 rfl) ?_
                      refine lk_gf3 hx hb hX3 hown hK hP 1 0 (show 0 < 10 by decide) rfl 3 (by decide) f23 rfl dX3_pass_225 ?_
                      refine lv_iload_n hx hb dX3_pass_228 rfl (lv_at hl 4 rfl) ?_
                      refine lk_aldW hx hb hK hP 1 4 (show 4 < 10 by decide) rfl (by omega) (by omega) (rfs_at (by omega)) dX3_pass_229 ?_
                      refine lv_aload hx hb dX3_pass_230 (lv_at hl 0 rfl) ?_
                      obtain ⟨q9, hq9, -⟩ := wK_at (M := MS n nw) (a := a) (e := eL cI cZ cW cO X a n nw ns (qT nw σ) (up2 (lgE (qT nw σ) nw η k) 1 k (zI (anyN (ltP (qT nw σ) k) o9))) T) (c := 3) (i := k) (show k < nw by omega)
                      refine roV (As := [.ref (a 3 o9)]) (q0 := q9) (ci := 4) hx hb hml hown hts (c_X4_isBeside l D cI cZ cW cO X a n nw ns (qT nw σ) (up2 (lgE (qT nw σ) nw η k) 1 k (zI (anyN (ltP (qT nw σ) k) o9))) T G k o9 A hO hB (by omega) (by omega)) (cwV 1 hts gX3_pass_X4_isBeside rfl rfl rfl (by decide +kernel) ⟨by decide, by decide⟩) hK hE hP.w rfl rfl hq9 rfl hl.1 rfl (Nat.le_of_ble_eq_true rfl) hS dX3_pass_232 ⟨Nat.zero_le _, Nat.zero_le _⟩ (fun locs hS => ?_)
                      refine li_zeq (tgt := 262) hx hb dX3_pass_235 (by decide) (fun c54 => ?_) (fun c54 => ?_)
                      · skip
                        refine lv_iconst (v := nI 0) hx hb dX3_pass_262 rfl ?_
                        refine lv_ior hx hb dX3_pass_263 ?_
                        refine li_topi (x' := zI (anyN (ltP (qT nw σ) k) o9 || false)) (zI_or _ false) ?_
                        refine lk_zst hx hb hK hP hO hS 1 6 (show 6 < 10 by decide) rfl (by omega) (by decide) (zI_v _) stE_1 dX3_pass_264 (fun G locs hP hS => ?_)
                        refine lv_iinc (v := nI (o9 + 1)) (lv' := [(5, .int (nI (o9 + 1))), (6, .ref (a 3 o9)), (4, .int (nI nw)), (3, .ref (a 1 4)), (2, .int (nI k)), (0, .ref (a 1 0))]) hx hb dX3_pass_265 hl (k := 1) rfl (nI_inc _ _) (by decide) rfl (fun ls hl => ?_)
                        refine lv_goto (tgt := 204) hx hb dX3_pass_268 (by decide) ?_
                        have hw9 : up2 (up2 (lgE (qT nw σ) nw η k) 1 k (zI (anyN (ltP (qT nw σ) k) o9))) 1 k (zI (anyN (ltP (qT nw σ) k) o9 || false)) = up2 (lgE (qT nw σ) nw η k) 1 k (zI (anyN (ltP (qT nw σ) k) (o9 + 1))) := by rw [up2_up2]; refine congrArg (fun b => up2 _ 1 k (zI b)) ?_; simp [anyN, ltP, c53, c54]
                        have hP : kP D (MS n nw) a (eL cI cZ cW cO X a n nw ns (qT nw σ) (up2 (lgE (qT nw σ) nw η k) 1 k (zI (anyN (ltP (qT nw σ) k) (o9 + 1)))) T) G := Eq.mp (congrArg (fun z9 => kP D (MS n nw) a (eL cI cZ cW cO X a n nw ns (qT nw σ) z9 T) G) hw9) hP
                        clear hw9
                        have hl9 : lv_has ls 10 [(5, .int (nI (o9 + 1))), (4, .int (nI nw)), (3, .ref (a 1 4)), (2, .int (nI k)), (0, .ref (a 1 0))] := lv_sub hl [0, 2, 3, 4, 5] rfl
                        exact ih204 (o9 + 1) (by omega) (by omega) G locs hP hS ls hl9
                      · skip
                        refine lv_aload hx hb dX3_pass_238 (lv_at hl 0 rfl) ?_
                        refine lk_gf4 hx hb hX4 hown hK hP 3 o9 (show o9 < nw by omega) rfl 3 (by decide) f66 rfl dX3_pass_240 ?_
                        refine lv_if_eq (tgt := 262) hx hb dX3_pass_243 (by decide) (fun c55 => ?_) (fun c55 => ?_)
                        · skip
                          refine lv_iconst (v := nI 0) hx hb dX3_pass_262 rfl ?_
                          refine lv_ior hx hb dX3_pass_263 ?_
                          refine li_topi (x' := zI (anyN (ltP (qT nw σ) k) o9 || false)) (zI_or _ false) ?_
                          refine lk_zst hx hb hK hP hO hS 1 6 (show 6 < 10 by decide) rfl (by omega) (by decide) (zI_v _) stE_1 dX3_pass_264 (fun G locs hP hS => ?_)
                          refine lv_iinc (v := nI (o9 + 1)) (lv' := [(5, .int (nI (o9 + 1))), (6, .ref (a 3 o9)), (4, .int (nI nw)), (3, .ref (a 1 4)), (2, .int (nI k)), (0, .ref (a 1 0))]) hx hb dX3_pass_265 hl (k := 1) rfl (nI_inc _ _) (by decide) rfl (fun ls hl => ?_)
                          refine lv_goto (tgt := 204) hx hb dX3_pass_268 (by decide) ?_
                          have hw9 : up2 (up2 (lgE (qT nw σ) nw η k) 1 k (zI (anyN (ltP (qT nw σ) k) o9))) 1 k (zI (anyN (ltP (qT nw σ) k) o9 || false)) = up2 (lgE (qT nw σ) nw η k) 1 k (zI (anyN (ltP (qT nw σ) k) (o9 + 1))) := by rw [up2_up2]; refine congrArg (fun b => up2 _ 1 k (zI b)) ?_; simp [anyN, ltP, c53, c54, c55]
                          have hP : kP D (MS n nw) a (eL cI cZ cW cO X a n nw ns (qT nw σ) (up2 (lgE (qT nw σ) nw η k) 1 k (zI (anyN (ltP (qT nw σ) k) (o9 + 1)))) T) G := Eq.mp (congrArg (fun z9 => kP D (MS n nw) a (eL cI cZ cW cO X a n nw ns (qT nw σ) z9 T) G) hw9) hP
                          clear hw9
                          have hl9 : lv_has ls 10 [(5, .int (nI (o9 + 1))), (4, .int (nI nw)), (3, .ref (a 1 4)), (2, .int (nI k)), (0, .ref (a 1 0))] := lv_sub hl [0, 2, 3, 4, 5] rfl
                          exact ih204 (o9 + 1) (by omega) (by omega) G locs hP hS ls hl9
                        · skip
                          refine lv_aload_n hx hb dX3_pass_246 rfl (lv_at hl 5 rfl) ?_
                          refine lk_gf3 hx hb hX3 hown hK hP 1 0 (show 0 < 10 by decide) rfl 3 (by decide) f23 rfl dX3_pass_247 ?_
                          refine lv_iload_n hx hb dX3_pass_250 rfl (lv_at hl 4 rfl) ?_
                          refine lk_aldW hx hb hK hP 1 4 (show 4 < 10 by decide) rfl (by omega) (by omega) (rfs_at (by omega)) dX3_pass_251 ?_
                          refine lk_gf4 hx hb hX4 hown hK hP 3 k (show k < nw by omega) rfl 1 (by decide) f60 rfl dX3_pass_252 ?_
                          refine lv_if_le (tgt := 262) hx hb dX3_pass_255 (by decide) (fun c56 => ?_) (fun c56 => ?_)
                          · skip
                            refine lv_iconst (v := nI 0) hx hb dX3_pass_262 rfl ?_
                            refine lv_ior hx hb dX3_pass_263 ?_
                            refine li_topi (x' := zI (anyN (ltP (qT nw σ) k) o9 || false)) (zI_or _ false) ?_
                            refine lk_zst hx hb hK hP hO hS 1 6 (show 6 < 10 by decide) rfl (by omega) (by decide) (zI_v _) stE_1 dX3_pass_264 (fun G locs hP hS => ?_)
                            refine lv_iinc (v := nI (o9 + 1)) (lv' := [(5, .int (nI (o9 + 1))), (6, .ref (a 3 o9)), (4, .int (nI nw)), (3, .ref (a 1 4)), (2, .int (nI k)), (0, .ref (a 1 0))]) hx hb dX3_pass_265 hl (k := 1) rfl (nI_inc _ _) (by decide) rfl (fun ls hl => ?_)
                            refine lv_goto (tgt := 204) hx hb dX3_pass_268 (by decide) ?_
                            have hw9 : up2 (up2 (lgE (qT nw σ) nw η k) 1 k (zI (anyN (ltP (qT nw σ) k) o9))) 1 k (zI (anyN (ltP (qT nw σ) k) o9 || false)) = up2 (lgE (qT nw σ) nw η k) 1 k (zI (anyN (ltP (qT nw σ) k) (o9 + 1))) := by rw [up2_up2]; refine congrArg (fun b => up2 _ 1 k (zI b)) ?_; simp [anyN, ltP, c53, c54, c55, c56]
                            have hP : kP D (MS n nw) a (eL cI cZ cW cO X a n nw ns (qT nw σ) (up2 (lgE (qT nw σ) nw η k) 1 k (zI (anyN (ltP (qT nw σ) k) (o9 + 1)))) T) G := Eq.mp (congrArg (fun z9 => kP D (MS n nw) a (eL cI cZ cW cO X a n nw ns (qT nw σ) z9 T) G) hw9) hP
                            clear hw9
                            have hl9 : lv_has ls 10 [(5, .int (nI (o9 + 1))), (4, .int (nI nw)), (3, .ref (a 1 4)), (2, .int (nI k)), (0, .ref (a 1 0))] := lv_sub hl [0, 2, 3, 4, 5] rfl
                            exact ih204 (o9 + 1) (by omega) (by omega) G locs hP hS ls hl9
                          · skip
                            refine lv_iconst (v := nI 1) hx hb dX3_pass_258 rfl ?_
                            refine lv_goto (tgt := 263) hx hb dX3_pass_259 (by decide) ?_
                            refine lv_ior hx hb dX3_pass_263 ?_
                            refine li_topi (x' := zI (anyN (ltP (qT nw σ) k) o9 || true)) (zI_or _ true) ?_
                            refine lk_zst hx hb hK hP hO hS 1 6 (show 6 < 10 by decide) rfl (by omega) (by decide) (zI_v _) stE_1 dX3_pass_264 (fun G locs hP hS => ?_)
                            refine lv_iinc (v := nI (o9 + 1)) (lv' := [(5, .int (nI (o9 + 1))), (6, .ref (a 3 o9)), (4, .int (nI nw)), (3, .ref (a 1 4)), (2, .int (nI k)), (0, .ref (a 1 0))]) hx hb dX3_pass_265 hl (k := 1) rfl (nI_inc _ _) (by decide) rfl (fun ls hl => ?_)
                            refine lv_goto (tgt := 204) hx hb dX3_pass_268 (by decide) ?_
                            have hw9 : up2 (up2 (lgE (qT nw σ) nw η k) 1 k (zI (anyN (ltP (qT nw σ) k) o9))) 1 k (zI (anyN (ltP (qT nw σ) k) o9 || true)) = up2 (lgE (qT nw σ) nw η k) 1 k (zI (anyN (ltP (qT nw σ) k) (o9 + 1))) := by rw [up2_up2]; refine congrArg (fun b => up2 _ 1 k (zI b)) ?_; simp [anyN, ltP, c53, c54, c55, c56]
                            have hP : kP D (MS n nw) a (eL cI cZ cW cO X a n nw ns (qT nw σ) (up2 (lgE (qT nw σ) nw η k) 1 k (zI (anyN (ltP (qT nw σ) k) (o9 + 1)))) T) G := Eq.mp (congrArg (fun z9 => kP D (MS n nw) a (eL cI cZ cW cO X a n nw ns (qT nw σ) z9 T) G) hw9) hP
                            clear hw9
                            have hl9 : lv_has ls 10 [(5, .int (nI (o9 + 1))), (4, .int (nI nw)), (3, .ref (a 1 4)), (2, .int (nI k)), (0, .ref (a 1 0))] := lv_sub hl [0, 2, 3, 4, 5] rfl
                            exact ih204 (o9 + 1) (by omega) (by omega) G locs hP hS ls hl9
                have hw9 : up2 (lgE (qT nw σ) nw η k) 1 k (nI 0) = up2 (lgE (qT nw σ) nw η k) 1 k (zI (anyN (ltP (qT nw σ) k) 0)) := rfl
                have hP : kP D (MS n nw) a (eL cI cZ cW cO X a n nw ns (qT nw σ) (up2 (lgE (qT nw σ) nw η k) 1 k (zI (anyN (ltP (qT nw σ) k) 0))) T) G := Eq.mp (congrArg (fun z9 => kP D (MS n nw) a (eL cI cZ cW cO X a n nw ns (qT nw σ) z9 T) G) hw9) hP
                clear hw9
                have hl9 : lv_has ls 10 [(5, .int (nI 0)), (4, .int (nI nw)), (3, .ref (a 1 4)), (2, .int (nI k)), (0, .ref (a 1 0))] := lv_sub hl [0, 1, 2, 3, 4] rfl
                exact L204_52 ((nw - 0) + 1) 0 (Nat.lt_succ_self _) (by omega) G locs hP hS ls hl9
          have hw9 : η = lgE (qT nw σ) nw η 0 := lgE_0.symm
          have hP : kP D (MS n nw) a (eL cI cZ cW cO X a n nw ns (qT nw σ) (lgE (qT nw σ) nw η 0) T) G := Eq.mp (congrArg (fun z9 => kP D (MS n nw) a (eL cI cZ cW cO X a n nw ns (qT nw σ) z9 T) G) hw9) hP
          clear hw9
          have hl9 : lv_has ls 10 [(2, .int (nI 0)), (0, .ref (a 1 0))] := lv_sub hl [0, 1] rfl
          exact L176_4 ((nw - 0) + 1) 0 (Nat.lt_succ_self _) (by omega) G locs hP hS ls hl9
        refine lv_iload_n hx hb dX3_pass_114 rfl (lv_at hl 3 rfl) ?_
        refine lv_bipush (v := nI 7) hx hb dX3_pass_115 rfl ?_
        refine lv_icmp_le (tgt := 174) hx hb dX3_pass_117 (by decide) (fun c57 => ?_) (fun c57 => ?_)
        · skip
          have hw9 : foldN (bd1 (lossOf (windOf σ))) k σ = (qT nw σ) := by unfold qT; first | (rw [bo_f (by assumption), show k = nw by omega]; rfl) | (rw [bo_t (by assumption), show k = nw by omega])
          have hP : kP D (MS n nw) a (eL cI cZ cW cO X a n nw ns (qT nw σ) η T) G := Eq.mp (congrArg (fun z9 => kP D (MS n nw) a (eL cI cZ cW cO X a n nw ns z9 η T) G) hw9) hP
          clear hw9
          have hl9 : lv_has ls 10 [(0, .ref (a 1 0))] := lv_sub hl [4] rfl
          exact K174_3 (0 + 1)  (Nat.lt_succ_self _)  G locs hP hS ls hl9
        · skip
          refine lv_aload_n hx hb dX3_pass_120 rfl (lv_at hl 4 rfl) ?_
          refine lk_gf3 hx hb hX3 hown hK hP 1 0 (show 0 < 10 by decide) rfl 3 (by decide) f23 rfl dX3_pass_121 ?_
          refine lv_astore_n (lv' := [(2, .ref (a 1 4)), (4, .int (nI k)), (3, .int (nI nw)), (1, .int (windOf σ)), (0, .ref (a 1 0))]) hx hb dX3_pass_124 rfl hl (by decide) rfl (fun ls hl => ?_)
          refine lv_aload_n hx hb dX3_pass_125 rfl (lv_at hl 0 rfl) ?_
          refine lk_alen hx hb hK hP 1 4 (show 4 < 10 by decide) 2 rfl rfl dX3_pass_126 ?_
          refine lv_istore_n (lv' := [(3, .int (nI nw)), (2, .ref (a 1 4)), (4, .int (nI k)), (1, .int (windOf σ)), (0, .ref (a 1 0))]) hx hb dX3_pass_127 rfl hl (by decide) rfl (fun ls hl => ?_)
          refine lv_iconst (v := nI 0) hx hb dX3_pass_128 rfl ?_
          refine lv_istore (lv' := [(4, .int (nI 0)), (3, .int (nI nw)), (2, .ref (a 1 4)), (1, .int (windOf σ)), (0, .ref (a 1 0))]) hx hb dX3_pass_129 hl (by decide) rfl (fun ls hl => ?_)
          have L131_58 : ∀ (fuel : Nat) (k : Nat), (nw - k) < fuel → (k ≤ nw) → ∀ (G : Heap) (locs : List Loc), kP D (MS n nw) a (eL cI cZ cW cO X a n nw ns (foldN (bo1 nw) k (bdF (windOf σ) nw σ)) η T) G → va_S A H G locs → ∀ (ls : Array Slot), lv_has ls 10 [(4, .int (nI k)), (3, .int (nI nw)), (2, .ref (a 1 4)), (1, .int (windOf σ)), (0, .ref (a 1 0))] → W p l e ({ frames := 2, cells := 0, slots := 0, locals := 51 } : Room) s m args below meth c G locs 0 0 Q (F0 m 131 ls []) := by
            intro fuel
            induction fuel with
            | zero =>
              intro k hfuel
              exact absurd hfuel (Nat.not_lt_zero _)
            | succ fuel ih131 =>
              intro k hfuel131 hk G locs hP hS ls hl
              refine lv_iload hx hb dX3_pass_131 (lv_at hl 0 rfl) ?_
              refine lv_iload_n hx hb dX3_pass_133 rfl (lv_at hl 1 rfl) ?_
              refine li_ge (tgt := 174) hx hb dX3_pass_134 (by decide) (by first | omega | (have := nb_le (σ := foldN (bo1 nw) k (bdF (windOf σ) nw σ)) (nw := nw) (w := k); omega) | (have := wa_le (σ := foldN (st1 nw) k8 (t2 n pl nw ns (σ, κ9)).1) (nw := nw) (z := nI 0); omega) | (have := (hpz _ (by omega) (by assumption)).2; omega) | (have := (hpz _ (by omega) hfa.2).2; omega)) (by first | omega | (have := nb_le (σ := foldN (bo1 nw) k (bdF (windOf σ) nw σ)) (nw := nw) (w := k); omega) | (have := wa_le (σ := foldN (st1 nw) k8 (t2 n pl nw ns (σ, κ9)).1) (nw := nw) (z := nI 0); omega) | (have := (hpz _ (by omega) (by assumption)).2; omega) | (have := (hpz _ (by omega) hfa.2).2; omega)) (fun c59 => ?_) (fun c59 => ?_)
              · skip
                have hw9 : foldN (bo1 nw) k (bdF (windOf σ) nw σ) = (qT nw σ) := by unfold qT; first | (rw [bo_f (by assumption), show k = nw by omega]; rfl) | (rw [bo_t (by assumption), show k = nw by omega])
                have hP : kP D (MS n nw) a (eL cI cZ cW cO X a n nw ns (qT nw σ) η T) G := Eq.mp (congrArg (fun z9 => kP D (MS n nw) a (eL cI cZ cW cO X a n nw ns z9 η T) G) hw9) hP
                clear hw9
                have hl9 : lv_has ls 10 [(0, .ref (a 1 0))] := lv_sub hl [4] rfl
                exact K174_3 (0 + 1)  (Nat.lt_succ_self _)  G locs hP hS ls hl9
              · skip
                refine lv_aload_n hx hb dX3_pass_137 rfl (lv_at hl 2 rfl) ?_
                refine lv_iload hx hb dX3_pass_138 (lv_at hl 0 rfl) ?_
                refine lk_aldW hx hb hK hP 1 4 (show 4 < 10 by decide) rfl (by omega) (by omega) (rfs_at (by omega)) dX3_pass_140 ?_
                refine lv_astore (lv' := [(5, .ref (a 3 k)), (4, .int (nI k)), (3, .int (nI nw)), (2, .ref (a 1 4)), (1, .int (windOf σ)), (0, .ref (a 1 0))]) hx hb dX3_pass_141 hl (by decide) rfl (fun ls hl => ?_)
                refine lv_aload hx hb dX3_pass_143 (lv_at hl 0 rfl) ?_
                refine lk_gf4 hx hb hX4 hown hK hP 3 k (show k < nw by omega) rfl 4 (by decide) f74 rfl dX3_pass_145 ?_
                refine lv_iconst (v := nI 1) hx hb dX3_pass_148 rfl ?_
                refine lv_icmp_ne (tgt := 168) hx hb dX3_pass_149 (by decide) (fun c60 => ?_) (fun c60 => ?_)
                · skip
                  refine lv_iinc (v := nI (k + 1)) (lv' := [(4, .int (nI (k + 1))), (5, .ref (a 3 k)), (3, .int (nI nw)), (2, .ref (a 1 4)), (1, .int (windOf σ)), (0, .ref (a 1 0))]) hx hb dX3_pass_168 hl (k := 1) rfl (nI_inc _ _) (by decide) rfl (fun ls hl => ?_)
                  refine lv_goto (tgt := 131) hx hb dX3_pass_171 (by decide) ?_
                  have hw9 : foldN (bo1 nw) k (bdF (windOf σ) nw σ) = foldN (bo1 nw) (k + 1) (bdF (windOf σ) nw σ) := by first | rfl | exact (bo1_0 (by assumption)).symm | exact (bo1_2 (by omega)).symm | exact (bo1_a (by assumption) (by omega)).symm
                  have hP : kP D (MS n nw) a (eL cI cZ cW cO X a n nw ns (foldN (bo1 nw) (k + 1) (bdF (windOf σ) nw σ)) η T) G := Eq.mp (congrArg (fun z9 => kP D (MS n nw) a (eL cI cZ cW cO X a n nw ns z9 η T) G) hw9) hP
                  clear hw9
                  have hl9 : lv_has ls 10 [(4, .int (nI (k + 1))), (3, .int (nI nw)), (2, .ref (a 1 4)), (1, .int (windOf σ)), (0, .ref (a 1 0))] := lv_sub hl [0, 2, 3, 4, 5] rfl
                  exact ih131 (k + 1) (by omega) (by omega) G locs hP hS ls hl9
                · skip
                  refine lv_aload_n hx hb dX3_pass_152 rfl (lv_at hl 5 rfl) ?_
                  refine lv_aload hx hb dX3_pass_153 (lv_at hl 0 rfl) ?_
                  obtain ⟨q9, hq9, -⟩ := wK_at (M := MS n nw) (a := a) (e := eL cI cZ cW cO X a n nw ns (foldN (bo1 nw) k (bdF (windOf σ) nw σ)) η T) (c := 1) (i := 0) (show 0 < 10 by decide)
                  refine roV (As := [.ref (a 3 k)]) (q0 := q9) (ci := 3) hx hb hml hown hts (c_X3_beside l D cI cZ cW cO X a n nw ns (foldN (bo1 nw) k (bdF (windOf σ) nw σ)) η T G k A hO hB (by omega)) (cwV 1 hts gX3_pass_X3_beside rfl rfl rfl (by decide +kernel) ⟨by decide, by decide⟩) hK hE hP.w rfl rfl hq9 rfl hl.1 rfl (Nat.le_of_ble_eq_true rfl) hS dX3_pass_155 ⟨Nat.zero_le _, Nat.zero_le _⟩ (fun locs hS => ?_)
                  refine lv_iconst (v := nI 2) hx hb dX3_pass_158 rfl ?_
                  refine li_ge (tgt := 168) hx hb dX3_pass_159 (by decide) (by first | omega | (have := nb_le (σ := foldN (bo1 nw) k (bdF (windOf σ) nw σ)) (nw := nw) (w := k); omega) | (have := wa_le (σ := foldN (st1 nw) k8 (t2 n pl nw ns (σ, κ9)).1) (nw := nw) (z := nI 0); omega) | (have := (hpz _ (by omega) (by assumption)).2; omega) | (have := (hpz _ (by omega) hfa.2).2; omega)) (by first | omega | (have := nb_le (σ := foldN (bo1 nw) k (bdF (windOf σ) nw σ)) (nw := nw) (w := k); omega) | (have := wa_le (σ := foldN (st1 nw) k8 (t2 n pl nw ns (σ, κ9)).1) (nw := nw) (z := nI 0); omega) | (have := (hpz _ (by omega) (by assumption)).2; omega) | (have := (hpz _ (by omega) hfa.2).2; omega)) (fun c61 => ?_) (fun c61 => ?_)
                  · skip
                    refine lv_iinc (v := nI (k + 1)) (lv' := [(4, .int (nI (k + 1))), (5, .ref (a 3 k)), (3, .int (nI nw)), (2, .ref (a 1 4)), (1, .int (windOf σ)), (0, .ref (a 1 0))]) hx hb dX3_pass_168 hl (k := 1) rfl (nI_inc _ _) (by decide) rfl (fun ls hl => ?_)
                    refine lv_goto (tgt := 131) hx hb dX3_pass_171 (by decide) ?_
                    have hw9 : foldN (bo1 nw) k (bdF (windOf σ) nw σ) = foldN (bo1 nw) (k + 1) (bdF (windOf σ) nw σ) := by first | rfl | exact (bo1_0 (by assumption)).symm | exact (bo1_2 (by omega)).symm | exact (bo1_a (by assumption) (by omega)).symm
                    have hP : kP D (MS n nw) a (eL cI cZ cW cO X a n nw ns (foldN (bo1 nw) (k + 1) (bdF (windOf σ) nw σ)) η T) G := Eq.mp (congrArg (fun z9 => kP D (MS n nw) a (eL cI cZ cW cO X a n nw ns z9 η T) G) hw9) hP
                    clear hw9
                    have hl9 : lv_has ls 10 [(4, .int (nI (k + 1))), (3, .int (nI nw)), (2, .ref (a 1 4)), (1, .int (windOf σ)), (0, .ref (a 1 0))] := lv_sub hl [0, 2, 3, 4, 5] rfl
                    exact ih131 (k + 1) (by omega) (by omega) G locs hP hS ls hl9
                  · skip
                    refine lv_aload hx hb dX3_pass_162 (lv_at hl 0 rfl) ?_
                    refine lv_iconst (v := nI 0) hx hb dX3_pass_164 rfl ?_
                    refine lk_pf4 hx hb hX4 hown hK hP hO hS 3 k (show k < nw by omega) rfl 3 (by decide) f66 rfl rfl rfl (Nat.le_of_ble_eq_true rfl) stS_11 dX3_pass_165 (fun G locs hP hS => ?_)
                    refine lv_iinc (v := nI (k + 1)) (lv' := [(4, .int (nI (k + 1))), (5, .ref (a 3 k)), (3, .int (nI nw)), (2, .ref (a 1 4)), (1, .int (windOf σ)), (0, .ref (a 1 0))]) hx hb dX3_pass_168 hl (k := 1) rfl (nI_inc _ _) (by decide) rfl (fun ls hl => ?_)
                    refine lv_goto (tgt := 131) hx hb dX3_pass_171 (by decide) ?_
                    have hw9 : up2 (foldN (bo1 nw) k (bdF (windOf σ) nw σ)) 11 k (nI 0) = foldN (bo1 nw) (k + 1) (bdF (windOf σ) nw σ) := by first | rfl | exact (bo1_0 (by assumption)).symm | exact (bo1_2 (by omega)).symm | exact (bo1_a (by assumption) (by omega)).symm
                    have hP : kP D (MS n nw) a (eL cI cZ cW cO X a n nw ns (foldN (bo1 nw) (k + 1) (bdF (windOf σ) nw σ)) η T) G := Eq.mp (congrArg (fun z9 => kP D (MS n nw) a (eL cI cZ cW cO X a n nw ns z9 η T) G) hw9) hP
                    clear hw9
                    have hl9 : lv_has ls 10 [(4, .int (nI (k + 1))), (3, .int (nI nw)), (2, .ref (a 1 4)), (1, .int (windOf σ)), (0, .ref (a 1 0))] := lv_sub hl [0, 2, 3, 4, 5] rfl
                    exact ih131 (k + 1) (by omega) (by omega) G locs hP hS ls hl9
          have hw9 : foldN (bd1 (lossOf (windOf σ))) k σ = foldN (bo1 nw) 0 (bdF (windOf σ) nw σ) := by rw [show k = nw by omega]; rfl
          have hP : kP D (MS n nw) a (eL cI cZ cW cO X a n nw ns (foldN (bo1 nw) 0 (bdF (windOf σ) nw σ)) η T) G := Eq.mp (congrArg (fun z9 => kP D (MS n nw) a (eL cI cZ cW cO X a n nw ns z9 η T) G) hw9) hP
          clear hw9
          have hl9 : lv_has ls 10 [(4, .int (nI 0)), (3, .int (nI nw)), (2, .ref (a 1 4)), (1, .int (windOf σ)), (0, .ref (a 1 0))] := lv_sub hl [0, 1, 2, 3, 4] rfl
          exact L131_58 ((nw - 0) + 1) 0 (Nat.lt_succ_self _) (by omega) G locs hP hS ls hl9
      · skip
        refine lv_aload_n hx hb dX3_pass_30 rfl (lv_at hl 2 rfl) ?_
        refine lv_iload hx hb dX3_pass_31 (lv_at hl 0 rfl) ?_
        refine lk_aldW hx hb hK hP 1 4 (show 4 < 10 by decide) rfl (by omega) (by omega) (rfs_at (by omega)) dX3_pass_33 ?_
        refine lv_astore (lv' := [(5, .ref (a 3 k)), (4, .int (nI k)), (3, .int (nI nw)), (2, .ref (a 1 4)), (1, .int (windOf σ)), (0, .ref (a 1 0))]) hx hb dX3_pass_34 hl (by decide) rfl (fun ls hl => ?_)
        refine lv_aload hx hb dX3_pass_36 (lv_at hl 0 rfl) ?_
        refine lk_gf4 hx hb hX4 hown hK hP 3 k (show k < nw by omega) rfl 3 (by decide) f66 rfl dX3_pass_38 ?_
        refine lv_if_eq (tgt := 108) hx hb dX3_pass_41 (by decide) (fun c62 => ?_) (fun c62 => ?_)
        · skip
          refine lv_iinc (v := nI (k + 1)) (lv' := [(4, .int (nI (k + 1))), (5, .ref (a 3 k)), (3, .int (nI nw)), (2, .ref (a 1 4)), (1, .int (windOf σ)), (0, .ref (a 1 0))]) hx hb dX3_pass_108 hl (k := 1) rfl (nI_inc _ _) (by decide) rfl (fun ls hl => ?_)
          refine lv_goto (tgt := 24) hx hb dX3_pass_111 (by decide) ?_
          have hw9 : foldN (bd1 (lossOf (windOf σ))) k σ = foldN (bd1 (lossOf (windOf σ))) (k + 1) σ := by first | rfl | exact (bd1_0 (by assumption)).symm | exact (bd1_2 (by assumption)).symm
          have hP : kP D (MS n nw) a (eL cI cZ cW cO X a n nw ns (foldN (bd1 (lossOf (windOf σ))) (k + 1) σ) η T) G := Eq.mp (congrArg (fun z9 => kP D (MS n nw) a (eL cI cZ cW cO X a n nw ns z9 η T) G) hw9) hP
          clear hw9
          have hl9 : lv_has ls 10 [(4, .int (nI (k + 1))), (3, .int (nI nw)), (2, .ref (a 1 4)), (1, .int (windOf σ)), (0, .ref (a 1 0))] := lv_sub hl [0, 2, 3, 4, 5] rfl
          exact ih24 (k + 1) (by omega) (by omega) G locs hP hS ls hl9
        · skip
          refine lv_aload hx hb dX3_pass_44 (lv_at hl 0 rfl) ?_
          refine lk_gf4 hx hb hX4 hown hK hP 3 k (show k < nw by omega) rfl 4 (by decide) f74 rfl dX3_pass_46 ?_
          refine lv_iconst (v := nI 2) hx hb dX3_pass_49 rfl ?_
          refine lv_icmp_ne (tgt := 56) hx hb dX3_pass_50 (by decide) (fun c63 => ?_) (fun c63 => ?_)
          · skip
            refine lv_aload hx hb dX3_pass_56 (lv_at hl 0 rfl) ?_
            refine lv_dup hx hb dX3_pass_58 rfl ?_
            refine lk_gf4 hx hb hX4 hown hK hP 3 k (show k < nw by omega) rfl 1 (by decide) f60 rfl dX3_pass_59 ?_
            refine lv_iload_n hx hb dX3_pass_62 rfl (lv_at hl 4 rfl) ?_
            refine lv_iconst (v := nI 5) hx hb dX3_pass_63 rfl ?_
            refine lv_icmp_le (tgt := 71) hx hb dX3_pass_64 (by decide) (fun c64 => ?_) (fun c64 => ?_)
            · skip
              refine lv_iconst (v := nI 1) hx hb dX3_pass_71 rfl ?_
              refine lv_isub hx hb dX3_pass_72 ?_
              refine lk_pf4 hx hb hX4 hown hK hP hO hS 3 k (show k < nw by omega) rfl 1 (by decide) f60 rfl rfl rfl (Nat.le_of_ble_eq_true rfl) stS_10 dX3_pass_73 (fun G locs hP hS => ?_)
              refine lv_aload hx hb dX3_pass_76 (lv_at hl 0 rfl) ?_
              refine lk_gf4 hx hb hX4 hown hK hP 3 k (show k < nw by omega) rfl 1 (by decide) f60 rfl dX3_pass_78 ?_
              refine li_topi (show (up2 (foldN (bd1 (lossOf (windOf σ))) k σ) 10 k (((foldN (bd1 (lossOf (windOf σ))) k σ) 10 k) - (nI 1))) 10 k = ((foldN (bd1 (lossOf (windOf σ))) k σ) 10 k) - (nI 1) from by exact up2_in') ?_
              refine lv_if_ge (tgt := 90) hx hb dX3_pass_81 (by decide) (fun c65 => ?_) (fun c65 => ?_)
              · skip
                refine lv_aload hx hb dX3_pass_90 (lv_at hl 0 rfl) ?_
                refine lv_aload hx hb dX3_pass_92 (lv_at hl 0 rfl) ?_
                refine lk_gf4 hx hb hX4 hown hK hP 3 k (show k < nw by omega) rfl 1 (by decide) f60 rfl dX3_pass_94 ?_
                refine li_topi (show (up2 (foldN (bd1 (lossOf (windOf σ))) k σ) 10 k (((foldN (bd1 (lossOf (windOf σ))) k σ) 10 k) - (nI 1))) 10 k = ((foldN (bd1 (lossOf (windOf σ))) k σ) 10 k) - (nI 1) from by exact up2_in') ?_
                refine lv_if_le (tgt := 104) hx hb dX3_pass_97 (by decide) (fun c66 => ?_) (fun c66 => ?_)
                · skip
                  refine lv_iconst (v := nI 0) hx hb dX3_pass_104 rfl ?_
                  refine lk_pf4 hx hb hX4 hown hK hP hO hS 3 k (show k < nw by omega) rfl 3 (by decide) f66 rfl rfl rfl (Nat.le_of_ble_eq_true rfl) stS_11 dX3_pass_105 (fun G locs hP hS => ?_)
                  refine lv_iinc (v := nI (k + 1)) (lv' := [(4, .int (nI (k + 1))), (5, .ref (a 3 k)), (3, .int (nI nw)), (2, .ref (a 1 4)), (1, .int (windOf σ)), (0, .ref (a 1 0))]) hx hb dX3_pass_108 hl (k := 1) rfl (nI_inc _ _) (by decide) rfl (fun ls hl => ?_)
                  refine lv_goto (tgt := 24) hx hb dX3_pass_111 (by decide) ?_
                  have hw9 : up2 (up2 (foldN (bd1 (lossOf (windOf σ))) k σ) 10 k (((foldN (bd1 (lossOf (windOf σ))) k σ) 10 k) - (nI 1))) 11 k (nI 0) = foldN (bd1 (lossOf (windOf σ))) (k + 1) σ := by exact bd_B (by assumption) (by assumption) (loss_1 (by assumption)) (by assumption) (by assumption)
                  have hP : kP D (MS n nw) a (eL cI cZ cW cO X a n nw ns (foldN (bd1 (lossOf (windOf σ))) (k + 1) σ) η T) G := Eq.mp (congrArg (fun z9 => kP D (MS n nw) a (eL cI cZ cW cO X a n nw ns z9 η T) G) hw9) hP
                  clear hw9
                  have hl9 : lv_has ls 10 [(4, .int (nI (k + 1))), (3, .int (nI nw)), (2, .ref (a 1 4)), (1, .int (windOf σ)), (0, .ref (a 1 0))] := lv_sub hl [0, 2, 3, 4, 5] rfl
                  exact ih24 (k + 1) (by omega) (by omega) G locs hP hS ls hl9
                · skip
                  refine lv_iconst (v := nI 1) hx hb dX3_pass_100 rfl ?_
                  refine lv_goto (tgt := 105) hx hb dX3_pass_101 (by decide) ?_
                  refine lk_pf4 hx hb hX4 hown hK hP hO hS 3 k (show k < nw by omega) rfl 3 (by decide) f66 rfl rfl rfl (Nat.le_of_ble_eq_true rfl) stS_11 dX3_pass_105 (fun G locs hP hS => ?_)
                  refine lv_iinc (v := nI (k + 1)) (lv' := [(4, .int (nI (k + 1))), (5, .ref (a 3 k)), (3, .int (nI nw)), (2, .ref (a 1 4)), (1, .int (windOf σ)), (0, .ref (a 1 0))]) hx hb dX3_pass_108 hl (k := 1) rfl (nI_inc _ _) (by decide) rfl (fun ls hl => ?_)
                  refine lv_goto (tgt := 24) hx hb dX3_pass_111 (by decide) ?_
                  have hw9 : up2 (up2 (foldN (bd1 (lossOf (windOf σ))) k σ) 10 k (((foldN (bd1 (lossOf (windOf σ))) k σ) 10 k) - (nI 1))) 11 k (nI 1) = foldN (bd1 (lossOf (windOf σ))) (k + 1) σ := by exact bd_A (by assumption) (by assumption) (loss_1 (by assumption)) (by assumption) (by assumption)
                  have hP : kP D (MS n nw) a (eL cI cZ cW cO X a n nw ns (foldN (bd1 (lossOf (windOf σ))) (k + 1) σ) η T) G := Eq.mp (congrArg (fun z9 => kP D (MS n nw) a (eL cI cZ cW cO X a n nw ns z9 η T) G) hw9) hP
                  clear hw9
                  have hl9 : lv_has ls 10 [(4, .int (nI (k + 1))), (3, .int (nI nw)), (2, .ref (a 1 4)), (1, .int (windOf σ)), (0, .ref (a 1 0))] := lv_sub hl [0, 2, 3, 4, 5] rfl
                  exact ih24 (k + 1) (by omega) (by omega) G locs hP hS ls hl9
              · skip
                refine lv_aload hx hb dX3_pass_84 (lv_at hl 0 rfl) ?_
                refine lv_iconst (v := nI 0) hx hb dX3_pass_86 rfl ?_
                refine lk_pf4 hx hb hX4 hown hK hP hO hS 3 k (show k < nw by omega) rfl 1 (by decide) f60 rfl rfl rfl (Nat.le_of_ble_eq_true rfl) stS_10 dX3_pass_87 (fun G locs hP hS => ?_)
                refine lv_aload hx hb dX3_pass_90 (lv_at hl 0 rfl) ?_
                refine lv_aload hx hb dX3_pass_92 (lv_at hl 0 rfl) ?_
                refine lk_gf4 hx hb hX4 hown hK hP 3 k (show k < nw by omega) rfl 1 (by decide) f60 rfl dX3_pass_94 ?_
                refine li_topi (show (up2 (up2 (foldN (bd1 (lossOf (windOf σ))) k σ) 10 k (((foldN (bd1 (lossOf (windOf σ))) k σ) 10 k) - (nI 1))) 10 k (nI 0)) 10 k = nI 0 from by exact up2_in') ?_
                refine li_le0 (tgt := 104) hx hb dX3_pass_97 (by decide) (by first | omega | (have := nb_le (σ := foldN (bo1 nw) k (bdF (windOf σ) nw σ)) (nw := nw) (w := k); omega) | (have := wa_le (σ := foldN (st1 nw) k8 (t2 n pl nw ns (σ, κ9)).1) (nw := nw) (z := nI 0); omega) | (have := (hpz _ (by omega) (by assumption)).2; omega) | (have := (hpz _ (by omega) hfa.2).2; omega)) (fun c67 => ?_) (fun c67 => ?_)
                · skip
                  refine lv_iconst (v := nI 0) hx hb dX3_pass_104 rfl ?_
                  refine lk_pf4 hx hb hX4 hown hK hP hO hS 3 k (show k < nw by omega) rfl 3 (by decide) f66 rfl rfl rfl (Nat.le_of_ble_eq_true rfl) stS_11 dX3_pass_105 (fun G locs hP hS => ?_)
                  refine lv_iinc (v := nI (k + 1)) (lv' := [(4, .int (nI (k + 1))), (5, .ref (a 3 k)), (3, .int (nI nw)), (2, .ref (a 1 4)), (1, .int (windOf σ)), (0, .ref (a 1 0))]) hx hb dX3_pass_108 hl (k := 1) rfl (nI_inc _ _) (by decide) rfl (fun ls hl => ?_)
                  refine lv_goto (tgt := 24) hx hb dX3_pass_111 (by decide) ?_
                  have hw9 : up2 (up2 (up2 (foldN (bd1 (lossOf (windOf σ))) k σ) 10 k (((foldN (bd1 (lossOf (windOf σ))) k σ) 10 k) - (nI 1))) 10 k (nI 0)) 11 k (nI 0) = foldN (bd1 (lossOf (windOf σ))) (k + 1) σ := by exact bd_C (by assumption) (by assumption) (loss_1 (by assumption)) (by assumption)
                  have hP : kP D (MS n nw) a (eL cI cZ cW cO X a n nw ns (foldN (bd1 (lossOf (windOf σ))) (k + 1) σ) η T) G := Eq.mp (congrArg (fun z9 => kP D (MS n nw) a (eL cI cZ cW cO X a n nw ns z9 η T) G) hw9) hP
                  clear hw9
                  have hl9 : lv_has ls 10 [(4, .int (nI (k + 1))), (3, .int (nI nw)), (2, .ref (a 1 4)), (1, .int (windOf σ)), (0, .ref (a 1 0))] := lv_sub hl [0, 2, 3, 4, 5] rfl
                  exact ih24 (k + 1) (by omega) (by omega) G locs hP hS ls hl9
                · exact absurd c67 (by decide)
            · skip
              refine lv_iconst (v := nI 2) hx hb dX3_pass_67 rfl ?_
              refine lv_goto (tgt := 72) hx hb dX3_pass_68 (by decide) ?_
              refine lv_isub hx hb dX3_pass_72 ?_
              refine lk_pf4 hx hb hX4 hown hK hP hO hS 3 k (show k < nw by omega) rfl 1 (by decide) f60 rfl rfl rfl (Nat.le_of_ble_eq_true rfl) stS_10 dX3_pass_73 (fun G locs hP hS => ?_)
              refine lv_aload hx hb dX3_pass_76 (lv_at hl 0 rfl) ?_
              refine lk_gf4 hx hb hX4 hown hK hP 3 k (show k < nw by omega) rfl 1 (by decide) f60 rfl dX3_pass_78 ?_
              refine li_topi (show (up2 (foldN (bd1 (lossOf (windOf σ))) k σ) 10 k (((foldN (bd1 (lossOf (windOf σ))) k σ) 10 k) - (nI 2))) 10 k = ((foldN (bd1 (lossOf (windOf σ))) k σ) 10 k) - (nI 2) from by exact up2_in') ?_
              refine lv_if_ge (tgt := 90) hx hb dX3_pass_81 (by decide) (fun c68 => ?_) (fun c68 => ?_)
              · skip
                refine lv_aload hx hb dX3_pass_90 (lv_at hl 0 rfl) ?_
                refine lv_aload hx hb dX3_pass_92 (lv_at hl 0 rfl) ?_
                refine lk_gf4 hx hb hX4 hown hK hP 3 k (show k < nw by omega) rfl 1 (by decide) f60 rfl dX3_pass_94 ?_
                refine li_topi (show (up2 (foldN (bd1 (lossOf (windOf σ))) k σ) 10 k (((foldN (bd1 (lossOf (windOf σ))) k σ) 10 k) - (nI 2))) 10 k = ((foldN (bd1 (lossOf (windOf σ))) k σ) 10 k) - (nI 2) from by exact up2_in') ?_
                refine lv_if_le (tgt := 104) hx hb dX3_pass_97 (by decide) (fun c69 => ?_) (fun c69 => ?_)
                · skip
                  refine lv_iconst (v := nI 0) hx hb dX3_pass_104 rfl ?_
                  refine lk_pf4 hx hb hX4 hown hK hP hO hS 3 k (show k < nw by omega) rfl 3 (by decide) f66 rfl rfl rfl (Nat.le_of_ble_eq_true rfl) stS_11 dX3_pass_105 (fun G locs hP hS => ?_)
                  refine lv_iinc (v := nI (k + 1)) (lv' := [(4, .int (nI (k + 1))), (5, .ref (a 3 k)), (3, .int (nI nw)), (2, .ref (a 1 4)), (1, .int (windOf σ)), (0, .ref (a 1 0))]) hx hb dX3_pass_108 hl (k := 1) rfl (nI_inc _ _) (by decide) rfl (fun ls hl => ?_)
                  refine lv_goto (tgt := 24) hx hb dX3_pass_111 (by decide) ?_
                  have hw9 : up2 (up2 (foldN (bd1 (lossOf (windOf σ))) k σ) 10 k (((foldN (bd1 (lossOf (windOf σ))) k σ) 10 k) - (nI 2))) 11 k (nI 0) = foldN (bd1 (lossOf (windOf σ))) (k + 1) σ := by exact bd_B (by assumption) (by assumption) (loss_2 (by assumption)) (by assumption) (by assumption)
                  have hP : kP D (MS n nw) a (eL cI cZ cW cO X a n nw ns (foldN (bd1 (lossOf (windOf σ))) (k + 1) σ) η T) G := Eq.mp (congrArg (fun z9 => kP D (MS n nw) a (eL cI cZ cW cO X a n nw ns z9 η T) G) hw9) hP
                  clear hw9
                  have hl9 : lv_has ls 10 [(4, .int (nI (k + 1))), (3, .int (nI nw)), (2, .ref (a 1 4)), (1, .int (windOf σ)), (0, .ref (a 1 0))] := lv_sub hl [0, 2, 3, 4, 5] rfl
                  exact ih24 (k + 1) (by omega) (by omega) G locs hP hS ls hl9
                · skip
                  refine lv_iconst (v := nI 1) hx hb dX3_pass_100 rfl ?_
                  refine lv_goto (tgt := 105) hx hb dX3_pass_101 (by decide) ?_
                  refine lk_pf4 hx hb hX4 hown hK hP hO hS 3 k (show k < nw by omega) rfl 3 (by decide) f66 rfl rfl rfl (Nat.le_of_ble_eq_true rfl) stS_11 dX3_pass_105 (fun G locs hP hS => ?_)
                  refine lv_iinc (v := nI (k + 1)) (lv' := [(4, .int (nI (k + 1))), (5, .ref (a 3 k)), (3, .int (nI nw)), (2, .ref (a 1 4)), (1, .int (windOf σ)), (0, .ref (a 1 0))]) hx hb dX3_pass_108 hl (k := 1) rfl (nI_inc _ _) (by decide) rfl (fun ls hl => ?_)
                  refine lv_goto (tgt := 24) hx hb dX3_pass_111 (by decide) ?_
                  have hw9 : up2 (up2 (foldN (bd1 (lossOf (windOf σ))) k σ) 10 k (((foldN (bd1 (lossOf (windOf σ))) k σ) 10 k) - (nI 2))) 11 k (nI 1) = foldN (bd1 (lossOf (windOf σ))) (k + 1) σ := by exact bd_A (by assumption) (by assumption) (loss_2 (by assumption)) (by assumption) (by assumption)
                  have hP : kP D (MS n nw) a (eL cI cZ cW cO X a n nw ns (foldN (bd1 (lossOf (windOf σ))) (k + 1) σ) η T) G := Eq.mp (congrArg (fun z9 => kP D (MS n nw) a (eL cI cZ cW cO X a n nw ns z9 η T) G) hw9) hP
                  clear hw9
                  have hl9 : lv_has ls 10 [(4, .int (nI (k + 1))), (3, .int (nI nw)), (2, .ref (a 1 4)), (1, .int (windOf σ)), (0, .ref (a 1 0))] := lv_sub hl [0, 2, 3, 4, 5] rfl
                  exact ih24 (k + 1) (by omega) (by omega) G locs hP hS ls hl9
              · skip
                refine lv_aload hx hb dX3_pass_84 (lv_at hl 0 rfl) ?_
                refine lv_iconst (v := nI 0) hx hb dX3_pass_86 rfl ?_
                refine lk_pf4 hx hb hX4 hown hK hP hO hS 3 k (show k < nw by omega) rfl 1 (by decide) f60 rfl rfl rfl (Nat.le_of_ble_eq_true rfl) stS_10 dX3_pass_87 (fun G locs hP hS => ?_)
                refine lv_aload hx hb dX3_pass_90 (lv_at hl 0 rfl) ?_
                refine lv_aload hx hb dX3_pass_92 (lv_at hl 0 rfl) ?_
                refine lk_gf4 hx hb hX4 hown hK hP 3 k (show k < nw by omega) rfl 1 (by decide) f60 rfl dX3_pass_94 ?_
                refine li_topi (show (up2 (up2 (foldN (bd1 (lossOf (windOf σ))) k σ) 10 k (((foldN (bd1 (lossOf (windOf σ))) k σ) 10 k) - (nI 2))) 10 k (nI 0)) 10 k = nI 0 from by exact up2_in') ?_
                refine li_le0 (tgt := 104) hx hb dX3_pass_97 (by decide) (by first | omega | (have := nb_le (σ := foldN (bo1 nw) k (bdF (windOf σ) nw σ)) (nw := nw) (w := k); omega) | (have := wa_le (σ := foldN (st1 nw) k8 (t2 n pl nw ns (σ, κ9)).1) (nw := nw) (z := nI 0); omega) | (have := (hpz _ (by omega) (by assumption)).2; omega) | (have := (hpz _ (by omega) hfa.2).2; omega)) (fun c70 => ?_) (fun c70 => ?_)
                · skip
                  refine lv_iconst (v := nI 0) hx hb dX3_pass_104 rfl ?_
                  refine lk_pf4 hx hb hX4 hown hK hP hO hS 3 k (show k < nw by omega) rfl 3 (by decide) f66 rfl rfl rfl (Nat.le_of_ble_eq_true rfl) stS_11 dX3_pass_105 (fun G locs hP hS => ?_)
                  refine lv_iinc (v := nI (k + 1)) (lv' := [(4, .int (nI (k + 1))), (5, .ref (a 3 k)), (3, .int (nI nw)), (2, .ref (a 1 4)), (1, .int (windOf σ)), (0, .ref (a 1 0))]) hx hb dX3_pass_108 hl (k := 1) rfl (nI_inc _ _) (by decide) rfl (fun ls hl => ?_)
                  refine lv_goto (tgt := 24) hx hb dX3_pass_111 (by decide) ?_
                  have hw9 : up2 (up2 (up2 (foldN (bd1 (lossOf (windOf σ))) k σ) 10 k (((foldN (bd1 (lossOf (windOf σ))) k σ) 10 k) - (nI 2))) 10 k (nI 0)) 11 k (nI 0) = foldN (bd1 (lossOf (windOf σ))) (k + 1) σ := by exact bd_C (by assumption) (by assumption) (loss_2 (by assumption)) (by assumption)
                  have hP : kP D (MS n nw) a (eL cI cZ cW cO X a n nw ns (foldN (bd1 (lossOf (windOf σ))) (k + 1) σ) η T) G := Eq.mp (congrArg (fun z9 => kP D (MS n nw) a (eL cI cZ cW cO X a n nw ns z9 η T) G) hw9) hP
                  clear hw9
                  have hl9 : lv_has ls 10 [(4, .int (nI (k + 1))), (3, .int (nI nw)), (2, .ref (a 1 4)), (1, .int (windOf σ)), (0, .ref (a 1 0))] := lv_sub hl [0, 2, 3, 4, 5] rfl
                  exact ih24 (k + 1) (by omega) (by omega) G locs hP hS ls hl9
                · exact absurd c70 (by decide)
          · skip
            refine lv_goto (tgt := 108) hx hb dX3_pass_53 (by decide) ?_
            refine lv_iinc (v := nI (k + 1)) (lv' := [(4, .int (nI (k + 1))), (5, .ref (a 3 k)), (3, .int (nI nw)), (2, .ref (a 1 4)), (1, .int (windOf σ)), (0, .ref (a 1 0))]) hx hb dX3_pass_108 hl (k := 1) rfl (nI_inc _ _) (by decide) rfl (fun ls hl => ?_)
            refine lv_goto (tgt := 24) hx hb dX3_pass_111 (by decide) ?_
            have hw9 : foldN (bd1 (lossOf (windOf σ))) k σ = foldN (bd1 (lossOf (windOf σ))) (k + 1) σ := by first | rfl | exact (bd1_0 (by assumption)).symm | exact (bd1_2 (by assumption)).symm
            have hP : kP D (MS n nw) a (eL cI cZ cW cO X a n nw ns (foldN (bd1 (lossOf (windOf σ))) (k + 1) σ) η T) G := Eq.mp (congrArg (fun z9 => kP D (MS n nw) a (eL cI cZ cW cO X a n nw ns z9 η T) G) hw9) hP
            clear hw9
            have hl9 : lv_has ls 10 [(4, .int (nI (k + 1))), (3, .int (nI nw)), (2, .ref (a 1 4)), (1, .int (windOf σ)), (0, .ref (a 1 0))] := lv_sub hl [0, 2, 3, 4, 5] rfl
            exact ih24 (k + 1) (by omega) (by omega) G locs hP hS ls hl9
  have hw9 : σ = foldN (bd1 (lossOf (windOf σ))) 0 σ := rfl
  have hP : kP D (MS n nw) a (eL cI cZ cW cO X a n nw ns (foldN (bd1 (lossOf (windOf σ))) 0 σ) η T) H := Eq.mp (congrArg (fun z9 => kP D (MS n nw) a (eL cI cZ cW cO X a n nw ns z9 η T) H) hw9) hP
  clear hw9
  have hl9 : lv_has ls 10 [(4, .int (nI 0)), (3, .int (nI nw)), (2, .ref (a 1 4)), (1, .int (windOf σ)), (0, .ref (a 1 0))] := lv_sub hl [0, 1, 2, 3, 4] rfl
  exact L24_1 ((nw - 0) + 1) 0 (Nat.lt_succ_self _) (by omega) H locs hP hS ls hl9
