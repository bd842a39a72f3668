/-! the simulation and the class are told alike -/
theorem kLS {n nw : Nat} {tm : List Nat} (c i : Nat) : i < km (MS n nw) c → i < km (41 :: 10 :: n :: nw :: nw :: tm) c := by
  intro h
  match c, h with
  | 0, h => exact absurd h (Nat.not_lt_zero _)
  | 1, h => exact h
  | 2, h => exact h
  | 3, h => exact h
  | 4, h => exact h
  | c + 5, h => exact absurd h (Nat.not_lt_zero _)
theorem kM_t1 {n nw : Nat} (d j : Nat) : j < km [41, 10, n, nw, nw, 1] d → ¬ (d = 5 ∧ j = 0) → j < km [41, 10, n, nw, nw] d := by
  intro h h2
  match d, h, h2 with
  | 0, h, _ => exact h
  | 1, h, _ => exact h
  | 2, h, _ => exact h
  | 3, h, _ => exact h
  | 4, h, _ => exact h
  | 5, h, h2 =>
    have h : j < 1 := h
    exact absurd ⟨rfl, by omega⟩ h2
  | d + 6, h, _ => exact absurd h (Nat.not_lt_zero _)
theorem kM_drop1 {n nw : Nat} (c i : Nat) : i < km [41, 10, n, nw, nw] c → i < km [41, 10, n, nw, nw, 1] c := by
  intro h
  match c, h with
  | 0, h => exact h
  | 1, h => exact h
  | 2, h => exact h
  | 3, h => exact h
  | 4, h => exact h
  | c + 5, h => exact absurd h (Nat.not_lt_zero _)
section KTM
variable {D : va_G} {a : Ka} {H G : Heap} {A : Nat → Prop} {cI cZ cW cO : ClassId} {n pl nw ns cn cnw cns : Nat} {σ η cs : Sg} {u : S3} {T : Ke}
theorem kt_tmp0 {q : Nat} {v : va_E} (hO : kO A [41, 10, n, nw, nw] a) (hP : kP D [41, 10, n, nw, nw] a (eL cI cZ cW cO (xC cI cZ (a 0) cn pl cnw cns cs u) a n nw ns σ η T) H) (hv : va_at D vwCl (q, v) G) (hk : ∀ x, x < H.size → G[x]? = H[x]?) (hq : q = H.size) (hA : A q) :
    ∃ a1 : Ka, a1 5 0 = q ∧ (∀ d j, ¬ (d = 5 ∧ j = 0) → a1 d j = a d j) ∧ kP D [41, 10, n, nw, nw, 1] a1 (eL cI cZ cW cO (xC cI cZ (a1 0) cn pl cnw cns cs u) a1 n nw ns σ η (eup T 0 0 v)) G ∧ kO A [41, 10, n, nw, nw, 1] a1 := by
  obtain ⟨a1, h1, h2, h3, h4⟩ := kt_new (c := 5) (i := 0) (M' := [41, 10, n, nw, nw, 1]) hO hP hv hk hq hA kM_t1
  rw [eT_new] at h3
  refine ⟨a1, h1, h2, ?_, h4⟩
  rw [show a1 0 = a 0 from funext (fun i => h2 0 i (by omega))]
  exact kP.adr h3 (fun i => h2 1 i (by omega)) (fun i _ => h2 2 i (by omega)) (fun i _ => h2 3 i (by omega)) (fun i _ => h2 4 i (by omega))
theorem kt_drop1 {X : Nat → va_E} {v : va_E} (hP : kP D [41, 10, n, nw, nw, 1] a (eL cI cZ cW cO X a n nw ns σ η (eup T 0 0 v)) H) : kP D [41, 10, n, nw, nw] a (eL cI cZ cW cO X a n nw ns σ η T) H := by
  intro c i hi
  have h0 := hP c i (kM_drop1 c i hi)
  match c, hi, h0 with
  | 0, _, h0 => exact h0
  | 1, _, h0 => exact h0
  | 2, _, h0 => exact h0
  | 3, _, h0 => exact h0
  | 4, _, h0 => exact h0
  | c + 5, hi, _ => exact absurd hi (Nat.not_lt_zero _)
theorem kt_row {M : Km} {X : Nat → va_E} {N : Nat} {f g : Nat → Int32} (hP : kP D M a (eL cI cZ cW cO X a n nw ns σ η (eup T 0 0 (.inl (cI, N, .inl f)))) H) (h : ∀ j, j < N → f j = g j) : kP D M a (eL cI cZ cW cO X a n nw ns σ η (eup T 0 0 (.inl (cI, N, .inl g)))) H := by
  intro c i hi
  have h0 := hP c i hi
  match c, hi, h0 with
  | 0, _, h0 => exact h0
  | 1, _, h0 => exact h0
  | 2, _, h0 => exact h0
  | 3, _, h0 => exact h0
  | 4, _, h0 => exact h0
  | c + 5, hi, h0 =>
    by_cases q : c = 0 ∧ i = 0
    · obtain ⟨q1, q2⟩ := q
      subst q1; subst q2
      have h0 : H[a 5 0]? = some (vp_cell cI (N, .inl f)) := h0
      show H[a 5 0]? = some (vp_cell cI (N, .inl g))
      rw [h0, vp_cell_ext h]
    · have e1 : ∀ v : va_E, eL cI cZ cW cO X a n nw ns σ η (eup T 0 0 v) (c + 5) i = T c i := fun v => eup_ne q
      rw [e1] at h0 ⊢
      exact h0
end KTM
section B01
variable {p : Program} {l : Launch} {e : Env} {R : Room} {s : State} {m : MethodId} {args : Array Value} {below : List Frame} {meth : Method} {c : Code} {H : Heap} {locs : List Loc} {cells slots : Nat} {Q : State → Prop} {cc : ByteArray} {pc : Nat} {ls : Array Slot} {rest : List Value}
theorem lk_b01 (hx : p.tables.exec = Jvm.exec) (hb : c.code = cc) {x : Int32} (d0 : decode cc pc = .ok (.ifCond .eq 7, 3)) (d3 : decode cc (pc + 3) = .ok (.iconst 1, 1)) (d4 : decode cc (pc + 4) = .ok (.goto 4, 3)) (d7 : decode cc (pc + 7) = .ok (.iconst 0, 1)) (h : x = nI 0 ∨ x = nI 1) (kk : W p l e R s m args below meth c H locs cells slots Q (F0 m (pc + 8) ls (.int x :: rest))) : W p l e R s m args below meth c H locs cells slots Q (F0 m pc ls (.int x :: rest)) := by
  refine lv_if_eq (tgt := pc + 7) hx hb d0 (by omega) (fun c1 => ?_) (fun c1 => ?_)
  · refine lv_iconst (v := nI 0) hx hb d7 rfl ?_
    rw [c1] at kk
    exact kk
  · refine lv_iconst (v := nI 1) hx hb d3 rfl ?_
    refine lv_goto (tgt := pc + 8) hx hb d4 (by omega) ?_
    rcases h with h | h
    · exact absurd h c1
    · rw [h] at kk
      exact kk
end B01
def s1_Q (A : Nat → Prop) : Array Value → State → Outcome → State → Prop := va_Qi (fun (r : Int32) (_ : Unit) => r = nI 1) (fun _ _ => True) A
theorem s1_of {l : Launch} {y : MethodName} {ws ws' : List Cond} {rm : Room} {cc : ByteArray} {maxL mc ms : Nat} {av : List Value} {D : va_G} {tys : List (ClassId × FieldType)} {w : va_W} {H : Heap} {A : Nat → Prop} (hy : plainName y.cls = true) (hw : ws = Cond.code y cc maxL (some .boolean) :: ws') (hlen : (lg_sl av).length ≤ maxL)
    (body : ∀ (p : Program) (e : Env) (s : State) (m : MethodId) (args : Array Value) (below : List Frame) (meth : Method) (c : Code) (Q : State → Prop) (ls : Array Slot) (locs : List Loc),
      p.tables.exec = Jvm.exec → c.code = cc → c.maxLocals = maxL → s.vm.findClass y.cls = some m.cls → (∀ w ∈ ws, w.before args s = true) → va_K D vwCl tys s → lwE s → va_P D vwCl w H → lv_has ls maxL (lv_args 0 av) → va_S A H H locs →
      (∀ (pc : Nat) (ls : Array Slot) (H1 : Heap) (locs : List Loc) (k j : Nat), k ≤ mc → j ≤ ms → decode cc pc = .ok (.ireturn, 1) → va_S A H H1 locs → W p l e rm s m args below meth c H1 locs k j Q (F0 m pc ls [.int (nI 1)])) →
      W p l e rm s m args below meth c H locs 0 0 Q (F0 m 0 ls [])) : Met l y ws rm (ro_P D tys w H av) (s1_Q A) mc ms A := by
  refine Met.ofW (cc := cc) (maxL := maxL) (ret := some .boolean) hy hw ?_
  intro p e s m args below meth c s₁ B hml hv
  obtain ⟨rfl, rfl, hP, hK, hE⟩ := hv
  have hx := B.exec
  have hb := B.bytes
  have hr := B.returns
  have hts := atoms_spec (ws := ws) B.pre
  have hown : s.vm.findClass y.cls = some m.cls := findClass_of_methodNamed B.named
  have hlocks := B.notSynchronized
  have hl := lv_entry av (n := maxL) hlen
  rw [lg_entry_eq]
  generalize (lg_sl av ++ List.replicate (maxL - (lg_sl av).length) Slot.unset).toArray = ls at hl ⊢
  exact body p e s m _ below meth c _ ls [] hx hb hml hown hts hK hE hP hl va_S.rf (fun pc ls H1 locs k j hk hj hd hS => w_wide hk hj (W.zret (v := nI 1) hx hb hr rfl (fun t ht hW => ⟨⟨nI 1, (), rfl, rfl, trivial⟩, hS.F ht⟩) hS.2.2 hd hlocks))
theorem mst_s {f : Nat → Nat} {v0 : Nat} (hv : v0 < 99) : mst f (99 - v0) = if 0 < f (v0 + 1) ∧ (mst f (99 - (v0 + 1)) = 0 ∨ f (mst f (99 - (v0 + 1))) ≤ f (v0 + 1)) then v0 + 1 else mst f (99 - (v0 + 1)) := by
  obtain ⟨d, hd⟩ : ∃ d, 99 - v0 = d + 1 := ⟨99 - v0 - 1, by omega⟩
  rw [hd, show 99 - (v0 + 1) = d by omega, show v0 + 1 = 99 - d by omega]
  rfl
theorem mst_y {f : Nat → Nat} {v0 : Nat} (hv : v0 < 99) (h : 0 < f (v0 + 1)) (h2 : mst f (99 - (v0 + 1)) = 0 ∨ f (mst f (99 - (v0 + 1))) ≤ f (v0 + 1)) : nI (v0 + 1) = nI (mst f (99 - v0)) := by rw [mst_s hv, if_pos ⟨h, h2⟩]
theorem mst_n0 {f : Nat → Nat} {v0 : Nat} (hv : v0 < 99) (h : f (v0 + 1) = 0) : nI (mst f (99 - (v0 + 1))) = nI (mst f (99 - v0)) := by rw [mst_s hv, if_neg (fun z => by omega)]
theorem mst_n1 {f : Nat → Nat} {v0 : Nat} (hv : v0 < 99) (h : ¬ mst f (99 - (v0 + 1)) = 0) (h2 : f (v0 + 1) < f (mst f (99 - (v0 + 1)))) : nI (mst f (99 - (v0 + 1))) = nI (mst f (99 - v0)) := by rw [mst_s hv, if_neg (fun z => by omega)]
theorem mst_le {f : Nat → Nat} {d : Nat} (h : d ≤ 99) : mst f d ≤ 99 := by
  rcases mst_in f d h with ⟨a1, a2⟩ | ⟨a1, a2, a3, a4⟩ <;> omega
theorem kv_le {σ : Sg} {nw s : Nat} {v : Int32} : kv σ nw s v ≤ nw := cnt_le _ _
set_option maxHeartbeats 8000000 in
set_option maxRecDepth 100000 in
theorem c_X3_isSame (l : Launch) (D : va_G) (cI cZ cW cO : ClassId) (a : Ka) (n pl nw ns t : Nat) (σ η : Sg) (u : S3) (T : Ke) (H : Heap) (A : Nat → Prop) (hO : kO A [41, 10, n, nw, nw] a) (hA : ∀ q, H.size ≤ q → A q) (hI : INV n pl nw ns t σ) (hK9 : K9 nw σ) : Met l yX3_isSame wsX3_isSame ({ frames := 7, cells := 37, slots := 851, locals := 104 } : Room) (ro_P D (T4 cI cZ cW cO) (wK [41, 10, n, nw, nw] a (eL cI cZ cW cO (xC cI cZ (a 0) n pl nw ns σ u) a n nw ns σ η T)) H [.ref (a 1 0), .ref (a 0 40)]) (s1_Q A) 37 851 A := by
  refine s1_of (cc := cX3_isSame) (maxL := 12) (by decide) rfl (Nat.le_of_ble_eq_true rfl) ?_
  intro p e s m args below meth c Q ls locs hx hb hml hown hts hK hE hP hl hS hEnd
  have hP : kP D [41, 10, n, nw, nw] a (eL cI cZ cW cO (xC cI cZ (a 0) n pl nw ns σ u) a n nw ns σ η T) H := kP.of hP
  have hl : lv_has ls 12 [(0, .ref (a 1 0)), (1, .ref (a 0 40))] := hl
  have hX3 : ∀ w ∈ wsX30, w.before args s = true := fun w h => hts w (List.mem_cons_of_mem _ (List.mem_append_left _ (List.mem_append_left _ (List.mem_append_left _ (List.mem_append_left _ (List.mem_append_left _ (List.mem_append_right _ (h))))))))
  have hX4 : ∀ w ∈ wsX40, w.before args s = true := fun w h => hts w (List.mem_cons_of_mem _ (List.mem_append_left _ (List.mem_append_left _ (List.mem_append_left _ (List.mem_append_left _ (List.mem_append_right _ (h)))))))
  have f23 : (Cond.fieldLink RX3 23 "LanternWalkLaw$Sim" "walkers" "[LLanternWalkLaw$Walker;").before args s = true := hts _ (List.mem_of_getElem? (i := 1) rfl)
  have f9 : (Cond.fieldLink RX3 9 "LanternWalkLaw$Sim" "route" "[[I").before args s = true := hts _ (List.mem_of_getElem? (i := 20) rfl)
  have f27 : (Cond.fieldLink RX3 27 "LanternWalkLaw$Sim" "songs" "[I").before args s = true := hts _ (List.mem_of_getElem? (i := 11) rfl)
  have g3 : (Cond.arrayClass .int).before args s = true := hts _ (List.mem_of_getElem? (i := 2) rfl)
  have f52 : (Cond.fieldLink RX3 52 "LanternWalkLaw$Sim" "step" "I").before args s = true := hts _ (List.mem_of_getElem? (i := 21) rfl)
  have f97 : (Cond.fieldLink RX3 97 "LanternWalkLaw$Walker" "knows" "[I").before args s = true := hts _ (List.mem_of_getElem? (i := 12) rfl)
  have f74 : (Cond.fieldLink RX3 74 "LanternWalkLaw$Walker" "state" "I").before args s = true := hts _ (List.mem_of_getElem? (i := 7) rfl)
  have f77 : (Cond.fieldLink RX3 77 "LanternWalkLaw$Walker" "place" "I").before args s = true := hts _ (List.mem_of_getElem? (i := 8) rfl)
  have f57 : (Cond.fieldLink RX3 57 "LanternWalkLaw$Walker" "pace" "I").before args s = true := hts _ (List.mem_of_getElem? (i := 3) rfl)
  have f60 : (Cond.fieldLink RX3 60 "LanternWalkLaw$Walker" "wick" "I").before args s = true := hts _ (List.mem_of_getElem? (i := 4) rfl)
  have f63 : (Cond.fieldLink RX3 63 "LanternWalkLaw$Walker" "voice" "I").before args s = true := hts _ (List.mem_of_getElem? (i := 5) rfl)
  have f66 : (Cond.fieldLink RX3 66 "LanternWalkLaw$Walker" "burns" "Z").before args s = true := hts _ (List.mem_of_getElem? (i := 6) rfl)
  have f100 : (Cond.fieldLink RX3 100 "LanternWalkLaw$Walker" "dark" "I").before args s = true := hts _ (List.mem_of_getElem? (i := 9) rfl)
  have f90 : (Cond.fieldLink RX3 90 "LanternWalkLaw$Walker" "came" "I").before args s = true := hts _ (List.mem_of_getElem? (i := 10) rfl)
  have g14 : (Cond.methodLink RX3 115 Lib.Math.max.name).before args s = true := hts _ (List.mem_of_getElem? (i := 13) rfl)
  have g15 : (Cond.static Lib.Math.max.name).before args s = true := hts _ (List.mem_of_getElem? (i := 14) rfl)
  have g16 : (Cond.initialized "java/lang/Math").before args s = true := hts _ (List.mem_of_getElem? (i := 15) rfl)
  have g17 : (Cond.code Lib.Math.max.name Lib.Math.max.code 2 (some .int)).before args s = true := hts _ (List.mem_of_getElem? (i := 16) rfl)
  have g18 : (Cond.methodLink RX3 120 Lib.Math.min.name).before args s = true := hts _ (List.mem_of_getElem? (i := 17) rfl)
  have g19 : (Cond.static Lib.Math.min.name).before args s = true := hts _ (List.mem_of_getElem? (i := 18) rfl)
  have g20 : (Cond.code Lib.Math.min.name Lib.Math.min.code 2 (some .int)).before args s = true := hts _ (List.mem_of_getElem? (i := 19) rfl)
  have hB : n ≤ 10 ∧ nw ≤ 20 ∧ ns ≤ 6 := ⟨hI.1.1, hI.1.2.2.1, hI.1.2.2.2⟩
  have hBc := hI.1
  have hz := hI.2.1.1
  refine lv_iconst (v := (-1)) hx hb dX3_isSame_0 rfl ?_
  refine lv_istore_n (lv' := [(2, .int (-1)), (0, .ref (a 1 0)), (1, .ref (a 0 40))]) hx hb dX3_isSame_1 rfl hl (by decide) rfl (fun ls hl => ?_)
  refine lv_sipush (v := nI 999) hx hb dX3_isSame_2 rfl ?_
  refine lv_istore_n (lv' := [(3, .int (nI 999)), (2, .int (-1)), (0, .ref (a 1 0)), (1, .ref (a 0 40))]) hx hb dX3_isSame_5 rfl hl (by decide) rfl (fun ls hl => ?_)
  refine lv_iconst (v := nI 0) hx hb dX3_isSame_6 rfl ?_
  refine lv_istore (lv' := [(4, .int (nI 0)), (3, .int (nI 999)), (2, .int (-1)), (0, .ref (a 1 0)), (1, .ref (a 0 40))]) hx hb dX3_isSame_7 hl (by decide) rfl (fun ls hl => ?_)
  have L9_1 : ∀ (fuel : Nat) (k : Nat) (a : Ka) (u : S3), (nw - k) < fuel → (k ≤ nw) → (kO A [41, 10, n, nw, nw] a) → ∀ (G : Heap) (locs : List Loc), kP D [41, 10, n, nw, nw] a (eL cI cZ cW cO (xC cI cZ (a 0) n pl nw ns σ u) a n nw ns σ η T) G → va_S A H G locs → ∀ (ls : Array Slot), lv_has ls 12 [(4, .int (nI k)), (3, .int (lz σ k)), (2, .int (fm σ k)), (0, .ref (a 1 0)), (1, .ref (a 0 40))] → W p l e ({ frames := 7, cells := 37, slots := 851, locals := 104 } : Room) s m args below meth c G locs k (9 * k) Q (F0 m 9 ls []) := by
    intro fuel
    induction fuel with
    | zero =>
      intro k a u hfuel
      exact absurd hfuel (Nat.not_lt_zero _)
    | succ fuel ih9 =>
      intro k a u hfuel9 hk hO G locs hP hS ls hl
      refine lv_iload hx hb dX3_isSame_9 (lv_at hl 0 rfl) ?_
      refine lv_aload_n hx hb dX3_isSame_11 rfl (lv_at hl 3 rfl) ?_
      refine lk_gf3 hx hb hX3 hown hK hP 1 0 (show 0 < 10 by decide) rfl 3 (by decide) f23 rfl dX3_isSame_12 ?_
      refine lk_alen hx hb hK hP 1 4 (show 4 < 10 by decide) 2 rfl rfl dX3_isSame_15 ?_
      refine li_ge (tgt := 230) hx hb dX3_isSame_16 (by decide) (by first | omega | (have := hm_le (σ := σ) (nw := nw) (x := nI 1); omega) | (have := kv_le (σ := σ) (nw := nw) (s := sg) (v := nI (v0 + 1)); omega) | (have := kv_le (σ := σ) (nw := nw) (s := sg) (v := nI (mst (fun x => kv σ nw sg (nI x)) (99 - (v0 + 1)))); omega) | (have := mst_le (f := fun x => kv σ nw sg (nI x)) (d := 99 - (v0 + 1)) (by omega); omega)) (by first | omega | (have := hm_le (σ := σ) (nw := nw) (x := nI 1); omega) | (have := kv_le (σ := σ) (nw := nw) (s := sg) (v := nI (v0 + 1)); omega) | (have := kv_le (σ := σ) (nw := nw) (s := sg) (v := nI (mst (fun x => kv σ nw sg (nI x)) (99 - (v0 + 1)))); omega) | (have := mst_le (f := fun x => kv σ nw sg (nI x)) (d := 99 - (v0 + 1)) (by omega); omega)) (fun c2 => ?_) (fun c2 => ?_)
      · skip
        refine lv_iconst (v := nI 0) hx hb dX3_isSame_230 rfl ?_
        refine lv_istore (lv' := [(4, .int (nI 0)), (3, .int (lz σ k)), (2, .int (fm σ k)), (0, .ref (a 1 0)), (1, .ref (a 0 40))]) hx hb dX3_isSame_231 hl (by decide) rfl (fun ls hl => ?_)
        have L233_3 : ∀ (fuel : Nat) (sx : Nat) (a : Ka) (u : S3), (n - sx) < fuel → (sx ≤ n) → (kO A [41, 10, n, nw, nw] a) → ∀ (G : Heap) (locs : List Loc), kP D [41, 10, n, nw, nw] a (eL cI cZ cW cO (xC cI cZ (a 0) n pl nw ns σ u) a n nw ns σ η T) G → va_S A H G locs → ∀ (ls : Array Slot), lv_has ls 12 [(4, .int (nI sx)), (3, .int (lz σ nw)), (2, .int (fm σ nw)), (0, .ref (a 1 0)), (1, .ref (a 0 40))] → W p l e ({ frames := 7, cells := 37, slots := 851, locals := 104 } : Room) s m args below meth c G locs (20 + sx) (180 + 6 * sx) Q (F0 m 233 ls []) := by
          intro fuel
          induction fuel with
          | zero =>
            intro sx a u hfuel
            exact absurd hfuel (Nat.not_lt_zero _)
          | succ fuel ih233 =>
            intro sx a u hfuel233 hsx hO G locs hP hS ls hl
            refine lv_iload hx hb dX3_isSame_233 (lv_at hl 0 rfl) ?_
            refine lv_aload_n hx hb dX3_isSame_235 rfl (lv_at hl 3 rfl) ?_
            refine lk_gf3 hx hb hX3 hown hK hP 1 0 (show 0 < 10 by decide) rfl 0 (by decide) f9 rfl dX3_isSame_236 ?_
            refine lk_alen hx hb hK hP 1 1 (show 1 < 10 by decide) 3 rfl rfl dX3_isSame_239 ?_
            refine li_ge (tgt := 451) hx hb dX3_isSame_240 (by decide) (by first | omega | (have := hm_le (σ := σ) (nw := nw) (x := nI 1); omega) | (have := kv_le (σ := σ) (nw := nw) (s := sg) (v := nI (v0 + 1)); omega) | (have := kv_le (σ := σ) (nw := nw) (s := sg) (v := nI (mst (fun x => kv σ nw sg (nI x)) (99 - (v0 + 1)))); omega) | (have := mst_le (f := fun x => kv σ nw sg (nI x)) (d := 99 - (v0 + 1)) (by omega); omega)) (by first | omega | (have := hm_le (σ := σ) (nw := nw) (x := nI 1); omega) | (have := kv_le (σ := σ) (nw := nw) (s := sg) (v := nI (v0 + 1)); omega) | (have := kv_le (σ := σ) (nw := nw) (s := sg) (v := nI (mst (fun x => kv σ nw sg (nI x)) (99 - (v0 + 1)))); omega) | (have := mst_le (f := fun x => kv σ nw sg (nI x)) (d := 99 - (v0 + 1)) (by omega); omega)) (fun c4 => ?_) (fun c4 => ?_)
            · skip
              refine lv_iconst (v := nI 0) hx hb dX3_isSame_451 rfl ?_
              refine lv_istore (lv' := [(4, .int (nI 0)), (3, .int (lz σ nw)), (2, .int (fm σ nw)), (0, .ref (a 1 0)), (1, .ref (a 0 40))]) hx hb dX3_isSame_452 hl (by decide) rfl (fun ls hl => ?_)
              have L454_5 : ∀ (fuel : Nat) (sg : Nat) (a : Ka) (u : S3), (ns - sg) < fuel → (sg ≤ ns) → (kO A [41, 10, n, nw, nw] a) → ∀ (G : Heap) (locs : List Loc), kP D [41, 10, n, nw, nw] a (eL cI cZ cW cO (xC cI cZ (a 0) n pl nw ns σ u) a n nw ns σ η T) G → va_S A H G locs → ∀ (ls : Array Slot), lv_has ls 12 [(4, .int (nI sg)), (3, .int (lz σ nw)), (2, .int (fm σ nw)), (0, .ref (a 1 0)), (1, .ref (a 0 40))] → W p l e ({ frames := 7, cells := 37, slots := 851, locals := 104 } : Room) s m args below meth c G locs (30 + sg) (240 + 100 * sg) Q (F0 m 454 ls []) := by
                intro fuel
                induction fuel with
                | zero =>
                  intro sg a u hfuel
                  exact absurd hfuel (Nat.not_lt_zero _)
                | succ fuel ih454 =>
                  intro sg a u hfuel454 hsg hO G locs hP hS ls hl
                  refine lv_iload hx hb dX3_isSame_454 (lv_at hl 0 rfl) ?_
                  refine lv_aload_n hx hb dX3_isSame_456 rfl (lv_at hl 3 rfl) ?_
                  refine lk_gf3 hx hb hX3 hown hK hP 1 0 (show 0 < 10 by decide) rfl 4 (by decide) f27 rfl dX3_isSame_457 ?_
                  refine lk_alen hx hb hK hP 1 5 (show 5 < 10 by decide) 0 rfl rfl dX3_isSame_460 ?_
                  refine li_ge (tgt := 657) hx hb dX3_isSame_461 (by decide) (by first | omega | (have := hm_le (σ := σ) (nw := nw) (x := nI 1); omega) | (have := kv_le (σ := σ) (nw := nw) (s := sg) (v := nI (v0 + 1)); omega) | (have := kv_le (σ := σ) (nw := nw) (s := sg) (v := nI (mst (fun x => kv σ nw sg (nI x)) (99 - (v0 + 1)))); omega) | (have := mst_le (f := fun x => kv σ nw sg (nI x)) (d := 99 - (v0 + 1)) (by omega); omega)) (by first | omega | (have := hm_le (σ := σ) (nw := nw) (x := nI 1); omega) | (have := kv_le (σ := σ) (nw := nw) (s := sg) (v := nI (v0 + 1)); omega) | (have := kv_le (σ := σ) (nw := nw) (s := sg) (v := nI (mst (fun x => kv σ nw sg (nI x)) (99 - (v0 + 1)))); omega) | (have := mst_le (f := fun x => kv σ nw sg (nI x)) (d := 99 - (v0 + 1)) (by omega); omega)) (fun c6 => ?_) (fun c6 => ?_)
                  · skip
                    refine lv_bipush (v := nI 11) hx hb dX3_isSame_657 rfl ?_
                    have hG9 := hS.1
                    refine lk_newI hx hb g3 hK hS (N := 11) (by decide) (show 30 + sg + 1 ≤ 37 by omega) (show 240 + 100 * sg + 11 ≤ 851 by omega) dX3_isSame_659 (fun q G hq hv hk hS => ?_)
                    obtain ⟨a7, rfl, ha7, hP, hO⟩ := kt_tmp0 hO hP hv hk hq (hA _ (by omega))
                    have hP : kP D [41, 10, n, nw, nw, 1] a7 (eL cI cZ cW cO (xC cI cZ (a7 0) n pl nw ns σ u) a7 n nw ns σ η (eup T 0 0 (.inl (cI, 11, .inl (fun _ => 0 : Nat → Int32))))) G := hP
                    have hl : lv_has ls 12 [(4, .int (nI sg)), (3, .int (lz σ nw)), (2, .int (fm σ nw)), (0, .ref (a7 1 0)), (1, .ref (a7 0 40))] := by rw [ha7 1 0 (by omega), ha7 0 40 (by omega)]; exact hl
                    refine lv_dup hx hb dX3_isSame_661 rfl ?_
                    refine lv_iconst (v := nI 0) hx hb dX3_isSame_662 rfl ?_
                    refine lv_aload_n hx hb dX3_isSame_663 rfl (lv_at hl 3 rfl) ?_
                    refine lk_gf3 hx hb hX3 hown hK hP 1 0 (show 0 < 10 by decide) rfl 5 (by decide) f52 rfl dX3_isSame_664 ?_
                    refine lk_ist hx hb hK hP hO hS 5 0 (show 0 < 1 by decide) rfl (by omega) (by decide) eT_set dX3_isSame_667 (fun G locs hP hS => ?_)
                    refine lv_dup hx hb dX3_isSame_668 rfl ?_
                    refine lv_iconst (v := nI 1) hx hb dX3_isSame_669 rfl ?_
                    refine lv_aload_n hx hb dX3_isSame_670 rfl (lv_at hl 3 rfl) ?_
                    refine lk_gf3 hx hb hX3 hown hK hP 1 0 (show 0 < 10 by decide) rfl 0 (by decide) f9 rfl dX3_isSame_671 ?_
                    refine lk_alen hx hb hK hP 1 1 (show 1 < 10 by decide) 3 rfl rfl dX3_isSame_674 ?_
                    refine lk_ist hx hb hK hP hO hS 5 0 (show 0 < 1 by decide) rfl (by omega) (by decide) eT_set dX3_isSame_675 (fun G locs hP hS => ?_)
                    refine lv_dup hx hb dX3_isSame_676 rfl ?_
                    refine lv_iconst (v := nI 2) hx hb dX3_isSame_677 rfl ?_
                    refine lv_aload_n hx hb dX3_isSame_678 rfl (lv_at hl 3 rfl) ?_
                    obtain ⟨q9, hq9, -⟩ := wK_at (M := MS n nw) (a := a7) (e := eL cI cZ cW cO (xC cI cZ (a7 0) n pl nw ns σ u) a7 n nw ns σ η (eup T 0 0 (.inl (cI, 11, .inl (upd (upd (fun _ => 0 : Nat → Int32) 0 (σ 17 0)) 1 (nI n)))))) (c := 1) (i := 0) (show 0 < 10 by decide)
                    refine roV (As := []) (q0 := q9) (ci := 3) hx hb hml hown hts (c_X3_places l D cI cZ cW cO (xC cI cZ (a7 0) n pl nw ns σ u) a7 n nw ns σ η (eup T 0 0 (.inl (cI, 11, .inl (upd (upd (fun _ => 0 : Nat → Int32) 0 (σ 17 0)) 1 (nI n))))) G A (hO.sub kLS) hB) (cwV 0 hts gX3_isSame_X3_places rfl rfl rfl (by decide +kernel) ⟨by decide, by decide⟩) hK hE (hP.sub (M' := MS n nw) kLS).w rfl rfl hq9 rfl hl.1 rfl (Nat.le_of_ble_eq_true rfl) hS dX3_isSame_679 ⟨show 30 + sg + 1 ≤ 37 by omega, show 240 + 100 * sg + 11 ≤ 851 by omega⟩ (fun locs hS => ?_)
                    refine li_topi (show plS σ n = nI pl from plS_eq hI.2.2.2.1) ?_
                    refine lk_ist hx hb hK hP hO hS 5 0 (show 0 < 1 by decide) rfl (by omega) (by decide) eT_set dX3_isSame_682 (fun G locs hP hS => ?_)
                    refine lv_dup hx hb dX3_isSame_683 rfl ?_
                    refine lv_iconst (v := nI 3) hx hb dX3_isSame_684 rfl ?_
                    refine lv_aload_n hx hb dX3_isSame_685 rfl (lv_at hl 3 rfl) ?_
                    refine lk_gf3 hx hb hX3 hown hK hP 1 0 (show 0 < 10 by decide) rfl 3 (by decide) f23 rfl dX3_isSame_686 ?_
                    refine lk_alen hx hb hK hP 1 4 (show 4 < 10 by decide) 2 rfl rfl dX3_isSame_689 ?_
                    refine lk_ist hx hb hK hP hO hS 5 0 (show 0 < 1 by decide) rfl (by omega) (by decide) eT_set dX3_isSame_690 (fun G locs hP hS => ?_)
                    refine lv_dup hx hb dX3_isSame_691 rfl ?_
                    refine lv_iconst (v := nI 4) hx hb dX3_isSame_692 rfl ?_
                    refine lv_aload_n hx hb dX3_isSame_693 rfl (lv_at hl 3 rfl) ?_
                    refine lv_iconst (v := nI 0) hx hb dX3_isSame_694 rfl ?_
                    obtain ⟨q9, hq9, -⟩ := wK_at (M := MS n nw) (a := a7) (e := eL cI cZ cW cO (xC cI cZ (a7 0) n pl nw ns σ u) a7 n nw ns σ η (eup T 0 0 (.inl (cI, 11, .inl (upd (upd (upd (upd (fun _ => 0 : Nat → Int32) 0 (σ 17 0)) 1 (nI n)) 2 (nI pl)) 3 (nI nw)))))) (c := 1) (i := 0) (show 0 < 10 by decide)
                    refine roV (As := [.int (nI 0)]) (q0 := q9) (ci := 3) hx hb hml hown hts (c_X3_in l D cI cZ cW cO (xC cI cZ (a7 0) n pl nw ns σ u) a7 n nw ns σ η (eup T 0 0 (.inl (cI, 11, .inl (upd (upd (upd (upd (fun _ => 0 : Nat → Int32) 0 (σ 17 0)) 1 (nI n)) 2 (nI pl)) 3 (nI nw))))) G (nI 0) A (hO.sub kLS) hB) (cwV 1 hts gX3_isSame_X3_in rfl rfl rfl (by decide +kernel) ⟨by decide, by decide⟩) hK hE (hP.sub (M' := MS n nw) kLS).w rfl rfl hq9 rfl hl.1 rfl (Nat.le_of_ble_eq_true rfl) hS dX3_isSame_695 ⟨show 30 + sg + 1 ≤ 37 by omega, show 240 + 100 * sg + 11 ≤ 851 by omega⟩ (fun locs hS => ?_)
                    refine lk_ist hx hb hK hP hO hS 5 0 (show 0 < 1 by decide) rfl (by omega) (by decide) eT_set dX3_isSame_698 (fun G locs hP hS => ?_)
                    refine lv_dup hx hb dX3_isSame_699 rfl ?_
                    refine lv_iconst (v := nI 5) hx hb dX3_isSame_700 rfl ?_
                    refine lv_aload_n hx hb dX3_isSame_701 rfl (lv_at hl 3 rfl) ?_
                    refine lv_iconst (v := nI 1) hx hb dX3_isSame_702 rfl ?_
                    obtain ⟨q9, hq9, -⟩ := wK_at (M := MS n nw) (a := a7) (e := eL cI cZ cW cO (xC cI cZ (a7 0) n pl nw ns σ u) a7 n nw ns σ η (eup T 0 0 (.inl (cI, 11, .inl (upd (upd (upd (upd (upd (fun _ => 0 : Nat → Int32) 0 (σ 17 0)) 1 (nI n)) 2 (nI pl)) 3 (nI nw)) 4 (nI (hm σ nw (nI 0)))))))) (c := 1) (i := 0) (show 0 < 10 by decide)
                    refine roV (As := [.int (nI 1)]) (q0 := q9) (ci := 3) hx hb hml hown hts (c_X3_in l D cI cZ cW cO (xC cI cZ (a7 0) n pl nw ns σ u) a7 n nw ns σ η (eup T 0 0 (.inl (cI, 11, .inl (upd (upd (upd (upd (upd (fun _ => 0 : Nat → Int32) 0 (σ 17 0)) 1 (nI n)) 2 (nI pl)) 3 (nI nw)) 4 (nI (hm σ nw (nI 0))))))) G (nI 1) A (hO.sub kLS) hB) (cwV 1 hts gX3_isSame_X3_in rfl rfl rfl (by decide +kernel) ⟨by decide, by decide⟩) hK hE (hP.sub (M' := MS n nw) kLS).w rfl rfl hq9 rfl hl.1 rfl (Nat.le_of_ble_eq_true rfl) hS dX3_isSame_703 ⟨show 30 + sg + 1 ≤ 37 by omega, show 240 + 100 * sg + 11 ≤ 851 by omega⟩ (fun locs hS => ?_)
                    refine lk_ist hx hb hK hP hO hS 5 0 (show 0 < 1 by decide) rfl (by omega) (by decide) eT_set dX3_isSame_706 (fun G locs hP hS => ?_)
                    refine lv_dup hx hb dX3_isSame_707 rfl ?_
                    refine lv_bipush (v := nI 6) hx hb dX3_isSame_708 rfl ?_
                    refine lv_aload_n hx hb dX3_isSame_710 rfl (lv_at hl 3 rfl) ?_
                    refine lv_iconst (v := nI 2) hx hb dX3_isSame_711 rfl ?_
                    obtain ⟨q9, hq9, -⟩ := wK_at (M := MS n nw) (a := a7) (e := eL cI cZ cW cO (xC cI cZ (a7 0) n pl nw ns σ u) a7 n nw ns σ η (eup T 0 0 (.inl (cI, 11, .inl (upd (upd (upd (upd (upd (upd (fun _ => 0 : Nat → Int32) 0 (σ 17 0)) 1 (nI n)) 2 (nI pl)) 3 (nI nw)) 4 (nI (hm σ nw (nI 0)))) 5 (nI (hm σ nw (nI 1)))))))) (c := 1) (i := 0) (show 0 < 10 by decide)
                    refine roV (As := [.int (nI 2)]) (q0 := q9) (ci := 3) hx hb hml hown hts (c_X3_in l D cI cZ cW cO (xC cI cZ (a7 0) n pl nw ns σ u) a7 n nw ns σ η (eup T 0 0 (.inl (cI, 11, .inl (upd (upd (upd (upd (upd (upd (fun _ => 0 : Nat → Int32) 0 (σ 17 0)) 1 (nI n)) 2 (nI pl)) 3 (nI nw)) 4 (nI (hm σ nw (nI 0)))) 5 (nI (hm σ nw (nI 1))))))) G (nI 2) A (hO.sub kLS) hB) (cwV 1 hts gX3_isSame_X3_in rfl rfl rfl (by decide +kernel) ⟨by decide, by decide⟩) hK hE (hP.sub (M' := MS n nw) kLS).w rfl rfl hq9 rfl hl.1 rfl (Nat.le_of_ble_eq_true rfl) hS dX3_isSame_712 ⟨show 30 + sg + 1 ≤ 37 by omega, show 240 + 100 * sg + 11 ≤ 851 by omega⟩ (fun locs hS => ?_)
                    refine lk_ist hx hb hK hP hO hS 5 0 (show 0 < 1 by decide) rfl (by omega) (by decide) eT_set dX3_isSame_715 (fun G locs hP hS => ?_)
                    refine lv_dup hx hb dX3_isSame_716 rfl ?_
                    refine lv_bipush (v := nI 7) hx hb dX3_isSame_717 rfl ?_
                    refine lv_aload_n hx hb dX3_isSame_719 rfl (lv_at hl 3 rfl) ?_
                    obtain ⟨q9, hq9, -⟩ := wK_at (M := MS n nw) (a := a7) (e := eL cI cZ cW cO (xC cI cZ (a7 0) n pl nw ns σ u) a7 n nw ns σ η (eup T 0 0 (.inl (cI, 11, .inl (upd (upd (upd (upd (upd (upd (upd (fun _ => 0 : Nat → Int32) 0 (σ 17 0)) 1 (nI n)) 2 (nI pl)) 3 (nI nw)) 4 (nI (hm σ nw (nI 0)))) 5 (nI (hm σ nw (nI 1)))) 6 (nI (hm σ nw (nI 2)))))))) (c := 1) (i := 0) (show 0 < 10 by decide)
                    refine roV (As := []) (q0 := q9) (ci := 3) hx hb hml hown hts (c_X3_burning l D cI cZ cW cO (xC cI cZ (a7 0) n pl nw ns σ u) a7 n nw ns σ η (eup T 0 0 (.inl (cI, 11, .inl (upd (upd (upd (upd (upd (upd (upd (fun _ => 0 : Nat → Int32) 0 (σ 17 0)) 1 (nI n)) 2 (nI pl)) 3 (nI nw)) 4 (nI (hm σ nw (nI 0)))) 5 (nI (hm σ nw (nI 1)))) 6 (nI (hm σ nw (nI 2))))))) G A (hO.sub kLS) hB) (cwV 0 hts gX3_isSame_X3_burning rfl rfl rfl (by decide +kernel) ⟨by decide, by decide⟩) hK hE (hP.sub (M' := MS n nw) kLS).w rfl rfl hq9 rfl hl.1 rfl (Nat.le_of_ble_eq_true rfl) hS dX3_isSame_720 ⟨show 30 + sg + 1 ≤ 37 by omega, show 240 + 100 * sg + 11 ≤ 851 by omega⟩ (fun locs hS => ?_)
                    refine lk_ist hx hb hK hP hO hS 5 0 (show 0 < 1 by decide) rfl (by omega) (by decide) eT_set dX3_isSame_723 (fun G locs hP hS => ?_)
                    refine lv_dup hx hb dX3_isSame_724 rfl ?_
                    refine lv_bipush (v := nI 8) hx hb dX3_isSame_725 rfl ?_
                    refine lv_aload_n hx hb dX3_isSame_727 rfl (lv_at hl 3 rfl) ?_
                    refine lk_gf3 hx hb hX3 hown hK hP 1 0 (show 0 < 10 by decide) rfl 4 (by decide) f27 rfl dX3_isSame_728 ?_
                    refine lk_alen hx hb hK hP 1 5 (show 5 < 10 by decide) 0 rfl rfl dX3_isSame_731 ?_
                    refine lk_ist hx hb hK hP hO hS 5 0 (show 0 < 1 by decide) rfl (by omega) (by decide) eT_set dX3_isSame_732 (fun G locs hP hS => ?_)
                    refine lv_dup hx hb dX3_isSame_733 rfl ?_
                    refine lv_bipush (v := nI 9) hx hb dX3_isSame_734 rfl ?_
                    refine lv_iload_n hx hb dX3_isSame_736 rfl (lv_at hl 2 rfl) ?_
                    refine lk_ist hx hb hK hP hO hS 5 0 (show 0 < 1 by decide) rfl (by omega) (by decide) eT_set dX3_isSame_737 (fun G locs hP hS => ?_)
                    refine lv_dup hx hb dX3_isSame_738 rfl ?_
                    refine lv_bipush (v := nI 10) hx hb dX3_isSame_739 rfl ?_
                    refine lv_iload_n hx hb dX3_isSame_741 rfl (lv_at hl 2 rfl) ?_
                    refine lv_if_ge (tgt := 749) hx hb dX3_isSame_742 (by decide) (fun c8 => ?_) (fun c8 => ?_)
                    · skip
                      refine lv_iload_n hx hb dX3_isSame_749 rfl (lv_at hl 2 rfl) ?_
                      refine lv_iload_n hx hb dX3_isSame_750 rfl (lv_at hl 1 rfl) ?_
                      refine lv_isub hx hb dX3_isSame_751 ?_
                      refine lk_ist hx hb hK hP hO hS 5 0 (show 0 < 1 by decide) rfl (by omega) (by decide) eT_set dX3_isSame_752 (fun G locs hP hS => ?_)
                      refine lv_astore (lv' := [(4, .ref (a7 5 0)), (3, .int (lz σ nw)), (2, .int (fm σ nw)), (0, .ref (a7 1 0)), (1, .ref (a7 0 40))]) hx hb dX3_isSame_753 hl (by decide) rfl (fun ls hl => ?_)
                      have hP : kP D [41, 10, n, nw, nw, 1] a7 (eL cI cZ cW cO (xC cI cZ (a7 0) n pl nw ns σ u) a7 n nw ns σ η (eup T 0 0 (.inl (cI, 11, .inl (alT n pl nw ns σ))))) G := kt_row hP (fun j hj => by rcases (show j = 0 ∨ j = 1 ∨ j = 2 ∨ j = 3 ∨ j = 4 ∨ j = 5 ∨ j = 6 ∨ j = 7 ∨ j = 8 ∨ j = 9 ∨ j = 10 by omega) with rfl | rfl | rfl | rfl | rfl | rfl | rfl | rfl | rfl | rfl | rfl <;> first | rfl | exact fl_n hI.2.2.2.2.1 hI.1.2.1 (by assumption) | exact fl_y hI.2.2.2.2.1 hI.1.2.1 (by assumption))
                      refine lv_iconst (v := nI 0) hx hb dX3_isSame_755 rfl ?_
                      refine lv_istore (lv' := [(5, .int (nI 0)), (4, .ref (a7 5 0)), (3, .int (lz σ nw)), (2, .int (fm σ nw)), (0, .ref (a7 1 0)), (1, .ref (a7 0 40))]) hx hb dX3_isSame_756 hl (by decide) rfl (fun ls hl => ?_)
                      have L758_9 : ∀ (fuel : Nat) (j : Nat) (u : S3), (11 - j) < fuel → (j ≤ 11) → ∀ (G : Heap) (locs : List Loc), kP D [41, 10, n, nw, nw, 1] a7 (eL cI cZ cW cO (xC cI cZ (a7 0) n pl nw ns σ u) a7 n nw ns σ η (eup T 0 0 (.inl (cI, 11, .inl (alT n pl nw ns σ))))) G → va_S A H G locs → ∀ (ls : Array Slot), lv_has ls 12 [(5, .int (nI j)), (4, .ref (a7 5 0)), (3, .int (lz σ nw)), (2, .int (fm σ nw)), (0, .ref (a7 1 0)), (1, .ref (a7 0 40))] → W p l e ({ frames := 7, cells := 37, slots := 851, locals := 104 } : Room) s m args below meth c G locs (30 + sg + 1) (240 + 100 * sg + 11) Q (F0 m 758 ls []) := by
                        intro fuel
                        induction fuel with
                        | zero =>
                          intro j u hfuel
                          exact absurd hfuel (Nat.not_lt_zero _)
                        | succ fuel ih758 =>
                          intro j u hfuel758 hj G locs hP hS ls hl
                          refine lv_iload hx hb dX3_isSame_758 (lv_at hl 0 rfl) ?_
                          refine lv_bipush (v := nI 11) hx hb dX3_isSame_760 rfl ?_
                          refine li_ge (tgt := 787) hx hb dX3_isSame_762 (by decide) (by first | omega | (have := hm_le (σ := σ) (nw := nw) (x := nI 1); omega) | (have := kv_le (σ := σ) (nw := nw) (s := sg) (v := nI (v0 + 1)); omega) | (have := kv_le (σ := σ) (nw := nw) (s := sg) (v := nI (mst (fun x => kv σ nw sg (nI x)) (99 - (v0 + 1)))); omega) | (have := mst_le (f := fun x => kv σ nw sg (nI x)) (d := 99 - (v0 + 1)) (by omega); omega)) (by first | omega | (have := hm_le (σ := σ) (nw := nw) (x := nI 1); omega) | (have := kv_le (σ := σ) (nw := nw) (s := sg) (v := nI (v0 + 1)); omega) | (have := kv_le (σ := σ) (nw := nw) (s := sg) (v := nI (mst (fun x => kv σ nw sg (nI x)) (99 - (v0 + 1)))); omega) | (have := mst_le (f := fun x => kv σ nw sg (nI x)) (d := 99 - (v0 + 1)) (by omega); omega)) (fun c10 => ?_) (fun c10 => ?_)
                          · skip
                            refine lv_aload_n hx hb dX3_isSame_787 rfl (lv_at hl 5 rfl) ?_
                            refine mdK (As := []) hx hb hml hown hts (c_X2_light l D cI cZ cW cO (a7 0) n pl nw ns σ u.1 u.2.1 u.2.2 G (kA [41] a7) (okP_k hO rfl) hBc) (cwV 0 hts gX3_isSame_X2_light rfl rfl rfl (by decide +kernel) ⟨by decide, by decide⟩) hK hE hO rfl hP rfl hl.1 rfl (Nat.le_of_ble_eq_true rfl) hS dX3_isSame_788 ⟨show 30 + sg + 1 ≤ 37 by omega, show 240 + 100 * sg + 11 ≤ 851 by omega⟩ (fun G locs hP hS => ?_)
                            refine lv_aload_n hx hb dX3_isSame_791 rfl (lv_at hl 4 rfl) ?_
                            refine lv_iconst (v := nI 1) hx hb dX3_isSame_792 rfl ?_
                            obtain ⟨q9, hq9, -⟩ := wK_at (M := MS n nw) (a := a7) (e := eL cI cZ cW cO (xC cI cZ (a7 0) n pl nw ns σ u) a7 n nw ns σ η (eup T 0 0 (.inl (cI, 11, .inl (alT n pl nw ns σ))))) (c := 1) (i := 0) (show 0 < 10 by decide)
                            refine roV (As := [.int (nI 1)]) (q0 := q9) (ci := 3) hx hb hml hown hts (c_X3_in l D cI cZ cW cO (xC cI cZ (a7 0) n pl nw ns σ u) a7 n nw ns σ η (eup T 0 0 (.inl (cI, 11, .inl (alT n pl nw ns σ)))) G (nI 1) A (hO.sub kLS) hB) (cwV 1 hts gX3_isSame_X3_in rfl rfl rfl (by decide +kernel) ⟨by decide, by decide⟩) hK hE (hP.sub (M' := MS n nw) kLS).w rfl rfl hq9 rfl hl.1 rfl (Nat.le_of_ble_eq_true rfl) hS dX3_isSame_793 ⟨show 30 + sg + 1 ≤ 37 by omega, show 240 + 100 * sg + 11 ≤ 851 by omega⟩ (fun locs hS => ?_)
                            refine li_ne0 (tgt := 803) hx hb dX3_isSame_796 (by decide) (by first | omega | (have := hm_le (σ := σ) (nw := nw) (x := nI 1); omega) | (have := kv_le (σ := σ) (nw := nw) (s := sg) (v := nI (v0 + 1)); omega) | (have := kv_le (σ := σ) (nw := nw) (s := sg) (v := nI (mst (fun x => kv σ nw sg (nI x)) (99 - (v0 + 1)))); omega) | (have := mst_le (f := fun x => kv σ nw sg (nI x)) (d := 99 - (v0 + 1)) (by omega); omega)) (fun c12 => ?_) (fun c12 => ?_)
                            · skip
                              refine lv_aload_n hx hb dX3_isSame_803 rfl (lv_at hl 4 rfl) ?_
                              obtain ⟨q9, hq9, -⟩ := wK_at (M := MS n nw) (a := a7) (e := eL cI cZ cW cO (xC cI cZ (a7 0) n pl nw ns σ u) a7 n nw ns σ η (eup T 0 0 (.inl (cI, 11, .inl (alT n pl nw ns σ))))) (c := 1) (i := 0) (show 0 < 10 by decide)
                              refine roV (As := []) (q0 := q9) (ci := 3) hx hb hml hown hts (c_X3_burning l D cI cZ cW cO (xC cI cZ (a7 0) n pl nw ns σ u) a7 n nw ns σ η (eup T 0 0 (.inl (cI, 11, .inl (alT n pl nw ns σ)))) G A (hO.sub kLS) hB) (cwV 0 hts gX3_isSame_X3_burning rfl rfl rfl (by decide +kernel) ⟨by decide, by decide⟩) hK hE (hP.sub (M' := MS n nw) kLS).w rfl rfl hq9 rfl hl.1 rfl (Nat.le_of_ble_eq_true rfl) hS dX3_isSame_804 ⟨show 30 + sg + 1 ≤ 37 by omega, show 240 + 100 * sg + 11 ≤ 851 by omega⟩ (fun locs hS => ?_)
                              refine lv_i2d hx hb dX3_isSame_807 ?_
                              refine lv_aload_n hx hb dX3_isSame_808 rfl (lv_at hl 4 rfl) ?_
                              refine lv_iconst (v := nI 1) hx hb dX3_isSame_809 rfl ?_
                              obtain ⟨q9, hq9, -⟩ := wK_at (M := MS n nw) (a := a7) (e := eL cI cZ cW cO (xC cI cZ (a7 0) n pl nw ns σ u) a7 n nw ns σ η (eup T 0 0 (.inl (cI, 11, .inl (alT n pl nw ns σ))))) (c := 1) (i := 0) (show 0 < 10 by decide)
                              refine roV (As := [.int (nI 1)]) (q0 := q9) (ci := 3) hx hb hml hown hts (c_X3_in l D cI cZ cW cO (xC cI cZ (a7 0) n pl nw ns σ u) a7 n nw ns σ η (eup T 0 0 (.inl (cI, 11, .inl (alT n pl nw ns σ)))) G (nI 1) A (hO.sub kLS) hB) (cwV 1 hts gX3_isSame_X3_in rfl rfl rfl (by decide +kernel) ⟨by decide, by decide⟩) hK hE (hP.sub (M' := MS n nw) kLS).w rfl rfl hq9 rfl hl.1 rfl (Nat.le_of_ble_eq_true rfl) hS dX3_isSame_810 ⟨show 30 + sg + 1 ≤ 37 by omega, show 240 + 100 * sg + 11 ≤ 851 by omega⟩ (fun locs hS => ?_)
                              refine lv_i2d hx hb dX3_isSame_813 ?_
                              refine lv_ddiv hx hb dX3_isSame_814 (nd_li (by omega) (by omega)) ?_
                              refine li_topd (show FP.ddiv (FP.i2d (nI (lb σ nw))) (FP.i2d (nI (hm σ nw (nI 1)))) = liV nw σ from by unfold liV; first | exact (if_pos (by omega)).symm | exact (if_neg (by omega)).symm) ?_
                              refine lv_dcmp hx hb dX3_isSame_815 ?_
                              refine li_topi (show _ = nI 0 from dc_li (by omega)) ?_
                              refine li_ne0 (tgt := 823) hx hb dX3_isSame_816 (by decide) (by first | omega | (have := hm_le (σ := σ) (nw := nw) (x := nI 1); omega) | (have := kv_le (σ := σ) (nw := nw) (s := sg) (v := nI (v0 + 1)); omega) | (have := kv_le (σ := σ) (nw := nw) (s := sg) (v := nI (mst (fun x => kv σ nw sg (nI x)) (99 - (v0 + 1)))); omega) | (have := mst_le (f := fun x => kv σ nw sg (nI x)) (d := 99 - (v0 + 1)) (by omega); omega)) (fun c13 => ?_) (fun c13 => ?_)
                              · exact absurd c13 (by decide)
                              · skip
                                refine lv_iconst (v := nI 1) hx hb dX3_isSame_819 rfl ?_
                                refine lv_goto (tgt := 824) hx hb dX3_isSame_820 (by decide) ?_
                                exact hEnd 824 ls G locs _ _ (show 30 + sg + 1 ≤ 37 by omega) (show 240 + 100 * sg + 11 ≤ 851 by omega) dX3_isSame_824 hS
                            · skip
                              refine lv_dconst0 hx hb dX3_isSame_799 ?_
                              refine lv_goto (tgt := 815) hx hb dX3_isSame_800 (by decide) ?_
                              refine li_topd (show FP.dconst0 = liV nw σ from by unfold liV; first | exact (if_pos (by omega)).symm | exact (if_neg (by omega)).symm) ?_
                              refine lv_dcmp hx hb dX3_isSame_815 ?_
                              refine li_topi (show _ = nI 0 from dc_li (by omega)) ?_
                              refine li_ne0 (tgt := 823) hx hb dX3_isSame_816 (by decide) (by first | omega | (have := hm_le (σ := σ) (nw := nw) (x := nI 1); omega) | (have := kv_le (σ := σ) (nw := nw) (s := sg) (v := nI (v0 + 1)); omega) | (have := kv_le (σ := σ) (nw := nw) (s := sg) (v := nI (mst (fun x => kv σ nw sg (nI x)) (99 - (v0 + 1)))); omega) | (have := mst_le (f := fun x => kv σ nw sg (nI x)) (d := 99 - (v0 + 1)) (by omega); omega)) (fun c14 => ?_) (fun c14 => ?_)
                              · exact absurd c14 (by decide)
                              · skip
                                refine lv_iconst (v := nI 1) hx hb dX3_isSame_819 rfl ?_
                                refine lv_goto (tgt := 824) hx hb dX3_isSame_820 (by decide) ?_
                                exact hEnd 824 ls G locs _ _ (show 30 + sg + 1 ≤ 37 by omega) (show 240 + 100 * sg + 11 ≤ 851 by omega) dX3_isSame_824 hS
                          · skip
                            refine lv_aload_n hx hb dX3_isSame_765 rfl (lv_at hl 5 rfl) ?_
                            refine lv_iload hx hb dX3_isSame_766 (lv_at hl 0 rfl) ?_
                            refine ayK (As := [.int (nI j)]) hx hb hml hown hts (c_X2_count l D cI cZ cW cO (a7 0) n pl nw ns σ u.1 u.2.1 u.2.2 G (nI j) (kA [41] a7) (okP_k hO rfl) hBc (kCount_0 (by omega))) (cwV 1 hts gX3_isSame_X2_count rfl rfl rfl (by decide +kernel) ⟨by decide, by decide⟩) hK hE hO rfl hP rfl hl.1 rfl (Nat.le_of_ble_eq_true rfl) hS dX3_isSame_768 ⟨show 30 + sg + 1 ≤ 37 by omega, show 240 + 100 * sg + 11 ≤ 851 by omega⟩ (fun u15 G locs hP hS => ?_)
                            have hP : kP D [41, 10, n, nw, nw, 1] a7 (eL cI cZ cW cO (xC cI cZ (a7 0) n pl nw ns σ u15) a7 n nw ns σ η (eup T 0 0 (.inl (cI, 11, .inl (alT n pl nw ns σ))))) G := hP
                            refine li_topi (x' := alT n pl nw ns σ j) (ifk_c (f := alT n pl nw ns σ) (by omega)) ?_
                            refine lv_aload hx hb dX3_isSame_771 (lv_at hl 1 rfl) ?_
                            refine lv_iload hx hb dX3_isSame_773 (lv_at hl 0 rfl) ?_
                            refine lk_ild hx hb hK hP 5 0 (show 0 < 1 by decide) rfl (by omega) (by decide) dX3_isSame_775 ?_
                            refine lv_icmp_eq (tgt := 781) hx hb dX3_isSame_776 (by decide) (fun c16 => ?_) (fun c16 => ?_)
                            · skip
                              refine lv_iinc (v := nI (j + 1)) (lv' := [(5, .int (nI (j + 1))), (4, .ref (a7 5 0)), (3, .int (lz σ nw)), (2, .int (fm σ nw)), (0, .ref (a7 1 0)), (1, .ref (a7 0 40))]) hx hb dX3_isSame_781 hl (k := 0) rfl (nI_inc _ _) (by decide) rfl (fun ls hl => ?_)
                              refine lv_goto (tgt := 758) hx hb dX3_isSame_784 (by decide) ?_
                              have hl9 : lv_has ls 12 [(5, .int (nI (j + 1))), (4, .ref (a7 5 0)), (3, .int (lz σ nw)), (2, .int (fm σ nw)), (0, .ref (a7 1 0)), (1, .ref (a7 0 40))] := lv_sub hl [0, 1, 2, 3, 4, 5] rfl
                              exact ih758 (j + 1) u15 (by omega) (by omega) G locs hP hS ls hl9
                            · exact absurd rfl c16
                      have hl9 : lv_has ls 12 [(5, .int (nI 0)), (4, .ref (a7 5 0)), (3, .int (lz σ nw)), (2, .int (fm σ nw)), (0, .ref (a7 1 0)), (1, .ref (a7 0 40))] := lv_sub hl [0, 1, 2, 3, 4, 5] rfl
                      exact L758_9 ((11 - 0) + 1) 0 u (Nat.lt_succ_self _) (by omega) G locs hP hS ls hl9
                    · skip
                      refine lv_iconst (v := nI 0) hx hb dX3_isSame_745 rfl ?_
                      refine lv_goto (tgt := 752) hx hb dX3_isSame_746 (by decide) ?_
                      refine lk_ist hx hb hK hP hO hS 5 0 (show 0 < 1 by decide) rfl (by omega) (by decide) eT_set dX3_isSame_752 (fun G locs hP hS => ?_)
                      refine lv_astore (lv' := [(4, .ref (a7 5 0)), (3, .int (lz σ nw)), (2, .int (fm σ nw)), (0, .ref (a7 1 0)), (1, .ref (a7 0 40))]) hx hb dX3_isSame_753 hl (by decide) rfl (fun ls hl => ?_)
                      have hP : kP D [41, 10, n, nw, nw, 1] a7 (eL cI cZ cW cO (xC cI cZ (a7 0) n pl nw ns σ u) a7 n nw ns σ η (eup T 0 0 (.inl (cI, 11, .inl (alT n pl nw ns σ))))) G := kt_row hP (fun j hj => by rcases (show j = 0 ∨ j = 1 ∨ j = 2 ∨ j = 3 ∨ j = 4 ∨ j = 5 ∨ j = 6 ∨ j = 7 ∨ j = 8 ∨ j = 9 ∨ j = 10 by omega) with rfl | rfl | rfl | rfl | rfl | rfl | rfl | rfl | rfl | rfl | rfl <;> first | rfl | exact fl_n hI.2.2.2.2.1 hI.1.2.1 (by assumption) | exact fl_y hI.2.2.2.2.1 hI.1.2.1 (by assumption))
                      refine lv_iconst (v := nI 0) hx hb dX3_isSame_755 rfl ?_
                      refine lv_istore (lv' := [(5, .int (nI 0)), (4, .ref (a7 5 0)), (3, .int (lz σ nw)), (2, .int (fm σ nw)), (0, .ref (a7 1 0)), (1, .ref (a7 0 40))]) hx hb dX3_isSame_756 hl (by decide) rfl (fun ls hl => ?_)
                      have L758_17 : ∀ (fuel : Nat) (j : Nat) (u : S3), (11 - j) < fuel → (j ≤ 11) → ∀ (G : Heap) (locs : List Loc), kP D [41, 10, n, nw, nw, 1] a7 (eL cI cZ cW cO (xC cI cZ (a7 0) n pl nw ns σ u) a7 n nw ns σ η (eup T 0 0 (.inl (cI, 11, .inl (alT n pl nw ns σ))))) G → va_S A H G locs → ∀ (ls : Array Slot), lv_has ls 12 [(5, .int (nI j)), (4, .ref (a7 5 0)), (3, .int (lz σ nw)), (2, .int (fm σ nw)), (0, .ref (a7 1 0)), (1, .ref (a7 0 40))] → W p l e ({ frames := 7, cells := 37, slots := 851, locals := 104 } : Room) s m args below meth c G locs (30 + sg + 1) (240 + 100 * sg + 11) Q (F0 m 758 ls []) := by
                        intro fuel
                        induction fuel with
                        | zero =>
                          intro j u hfuel
                          exact absurd hfuel (Nat.not_lt_zero _)
                        | succ fuel ih758 =>
                          intro j u hfuel758 hj G locs hP hS ls hl
                          refine lv_iload hx hb dX3_isSame_758 (lv_at hl 0 rfl) ?_
                          refine lv_bipush (v := nI 11) hx hb dX3_isSame_760 rfl ?_
                          refine li_ge (tgt := 787) hx hb dX3_isSame_762 (by decide) (by first | omega | (have := hm_le (σ := σ) (nw := nw) (x := nI 1); omega) | (have := kv_le (σ := σ) (nw := nw) (s := sg) (v := nI (v0 + 1)); omega) | (have := kv_le (σ := σ) (nw := nw) (s := sg) (v := nI (mst (fun x => kv σ nw sg (nI x)) (99 - (v0 + 1)))); omega) | (have := mst_le (f := fun x => kv σ nw sg (nI x)) (d := 99 - (v0 + 1)) (by omega); omega)) (by first | omega | (have := hm_le (σ := σ) (nw := nw) (x := nI 1); omega) | (have := kv_le (σ := σ) (nw := nw) (s := sg) (v := nI (v0 + 1)); omega) | (have := kv_le (σ := σ) (nw := nw) (s := sg) (v := nI (mst (fun x => kv σ nw sg (nI x)) (99 - (v0 + 1)))); omega) | (have := mst_le (f := fun x => kv σ nw sg (nI x)) (d := 99 - (v0 + 1)) (by omega); omega)) (fun c18 => ?_) (fun c18 => ?_)
                          · skip
                            refine lv_aload_n hx hb dX3_isSame_787 rfl (lv_at hl 5 rfl) ?_
                            refine mdK (As := []) hx hb hml hown hts (c_X2_light l D cI cZ cW cO (a7 0) n pl nw ns σ u.1 u.2.1 u.2.2 G (kA [41] a7) (okP_k hO rfl) hBc) (cwV 0 hts gX3_isSame_X2_light rfl rfl rfl (by decide +kernel) ⟨by decide, by decide⟩) hK hE hO rfl hP rfl hl.1 rfl (Nat.le_of_ble_eq_true rfl) hS dX3_isSame_788 ⟨show 30 + sg + 1 ≤ 37 by omega, show 240 + 100 * sg + 11 ≤ 851 by omega⟩ (fun G locs hP hS => ?_)
                            refine lv_aload_n hx hb dX3_isSame_791 rfl (lv_at hl 4 rfl) ?_
                            refine lv_iconst (v := nI 1) hx hb dX3_isSame_792 rfl ?_
                            obtain ⟨q9, hq9, -⟩ := wK_at (M := MS n nw) (a := a7) (e := eL cI cZ cW cO (xC cI cZ (a7 0) n pl nw ns σ u) a7 n nw ns σ η (eup T 0 0 (.inl (cI, 11, .inl (alT n pl nw ns σ))))) (c := 1) (i := 0) (show 0 < 10 by decide)
                            refine roV (As := [.int (nI 1)]) (q0 := q9) (ci := 3) hx hb hml hown hts (c_X3_in l D cI cZ cW cO (xC cI cZ (a7 0) n pl nw ns σ u) a7 n nw ns σ η (eup T 0 0 (.inl (cI, 11, .inl (alT n pl nw ns σ)))) G (nI 1) A (hO.sub kLS) hB) (cwV 1 hts gX3_isSame_X3_in rfl rfl rfl (by decide +kernel) ⟨by decide, by decide⟩) hK hE (hP.sub (M' := MS n nw) kLS).w rfl rfl hq9 rfl hl.1 rfl (Nat.le_of_ble_eq_true rfl) hS dX3_isSame_793 ⟨show 30 + sg + 1 ≤ 37 by omega, show 240 + 100 * sg + 11 ≤ 851 by omega⟩ (fun locs hS => ?_)
                            refine li_ne0 (tgt := 803) hx hb dX3_isSame_796 (by decide) (by first | omega | (have := hm_le (σ := σ) (nw := nw) (x := nI 1); omega) | (have := kv_le (σ := σ) (nw := nw) (s := sg) (v := nI (v0 + 1)); omega) | (have := kv_le (σ := σ) (nw := nw) (s := sg) (v := nI (mst (fun x => kv σ nw sg (nI x)) (99 - (v0 + 1)))); omega) | (have := mst_le (f := fun x => kv σ nw sg (nI x)) (d := 99 - (v0 + 1)) (by omega); omega)) (fun c20 => ?_) (fun c20 => ?_)
                            · skip
                              refine lv_aload_n hx hb dX3_isSame_803 rfl (lv_at hl 4 rfl) ?_
                              obtain ⟨q9, hq9, -⟩ := wK_at (M := MS n nw) (a := a7) (e := eL cI cZ cW cO (xC cI cZ (a7 0) n pl nw ns σ u) a7 n nw ns σ η (eup T 0 0 (.inl (cI, 11, .inl (alT n pl nw ns σ))))) (c := 1) (i := 0) (show 0 < 10 by decide)
                              refine roV (As := []) (q0 := q9) (ci := 3) hx hb hml hown hts (c_X3_burning l D cI cZ cW cO (xC cI cZ (a7 0) n pl nw ns σ u) a7 n nw ns σ η (eup T 0 0 (.inl (cI, 11, .inl (alT n pl nw ns σ)))) G A (hO.sub kLS) hB) (cwV 0 hts gX3_isSame_X3_burning rfl rfl rfl (by decide +kernel) ⟨by decide, by decide⟩) hK hE (hP.sub (M' := MS n nw) kLS).w rfl rfl hq9 rfl hl.1 rfl (Nat.le_of_ble_eq_true rfl) hS dX3_isSame_804 ⟨show 30 + sg + 1 ≤ 37 by omega, show 240 + 100 * sg + 11 ≤ 851 by omega⟩ (fun locs hS => ?_)
                              refine lv_i2d hx hb dX3_isSame_807 ?_
                              refine lv_aload_n hx hb dX3_isSame_808 rfl (lv_at hl 4 rfl) ?_
                              refine lv_iconst (v := nI 1) hx hb dX3_isSame_809 rfl ?_
                              obtain ⟨q9, hq9, -⟩ := wK_at (M := MS n nw) (a := a7) (e := eL cI cZ cW cO (xC cI cZ (a7 0) n pl nw ns σ u) a7 n nw ns σ η (eup T 0 0 (.inl (cI, 11, .inl (alT n pl nw ns σ))))) (c := 1) (i := 0) (show 0 < 10 by decide)
                              refine roV (As := [.int (nI 1)]) (q0 := q9) (ci := 3) hx hb hml hown hts (c_X3_in l D cI cZ cW cO (xC cI cZ (a7 0) n pl nw ns σ u) a7 n nw ns σ η (eup T 0 0 (.inl (cI, 11, .inl (alT n pl nw ns σ)))) G (nI 1) A (hO.sub kLS) hB) (cwV 1 hts gX3_isSame_X3_in rfl rfl rfl (by decide +kernel) ⟨by decide, by decide⟩) hK hE (hP.sub (M' := MS n nw) kLS).w rfl rfl hq9 rfl hl.1 rfl (Nat.le_of_ble_eq_true rfl) hS dX3_isSame_810 ⟨show 30 + sg + 1 ≤ 37 by omega, show 240 + 100 * sg + 11 ≤ 851 by omega⟩ (fun locs hS => ?_)
                              refine lv_i2d hx hb dX3_isSame_813 ?_
                              refine lv_ddiv hx hb dX3_isSame_814 (nd_li (by omega) (by omega)) ?_
                              refine li_topd (show FP.ddiv (FP.i2d (nI (lb σ nw))) (FP.i2d (nI (hm σ nw (nI 1)))) = liV nw σ from by unfold liV; first | exact (if_pos (by omega)).symm | exact (if_neg (by omega)).symm) ?_
                              refine lv_dcmp hx hb dX3_isSame_815 ?_
                              refine li_topi (show _ = nI 0 from dc_li (by omega)) ?_
                              refine li_ne0 (tgt := 823) hx hb dX3_isSame_816 (by decide) (by first | omega | (have := hm_le (σ := σ) (nw := nw) (x := nI 1); omega) | (have := kv_le (σ := σ) (nw := nw) (s := sg) (v := nI (v0 + 1)); omega) | (have := kv_le (σ := σ) (nw := nw) (s := sg) (v := nI (mst (fun x => kv σ nw sg (nI x)) (99 - (v0 + 1)))); omega) | (have := mst_le (f := fun x => kv σ nw sg (nI x)) (d := 99 - (v0 + 1)) (by omega); omega)) (fun c21 => ?_) (fun c21 => ?_)
                              · exact absurd c21 (by decide)
                              · skip
                                refine lv_iconst (v := nI 1) hx hb dX3_isSame_819 rfl ?_
                                refine lv_goto (tgt := 824) hx hb dX3_isSame_820 (by decide) ?_
                                exact hEnd 824 ls G locs _ _ (show 30 + sg + 1 ≤ 37 by omega) (show 240 + 100 * sg + 11 ≤ 851 by omega) dX3_isSame_824 hS
                            · skip
                              refine lv_dconst0 hx hb dX3_isSame_799 ?_
                              refine lv_goto (tgt := 815) hx hb dX3_isSame_800 (by decide) ?_
                              refine li_topd (show FP.dconst0 = liV nw σ from by unfold liV; first | exact (if_pos (by omega)).symm | exact (if_neg (by omega)).symm) ?_
                              refine lv_dcmp hx hb dX3_isSame_815 ?_
                              refine li_topi (show _ = nI 0 from dc_li (by omega)) ?_
                              refine li_ne0 (tgt := 823) hx hb dX3_isSame_816 (by decide) (by first | omega | (have := hm_le (σ := σ) (nw := nw) (x := nI 1); omega) | (have := kv_le (σ := σ) (nw := nw) (s := sg) (v := nI (v0 + 1)); omega) | (have := kv_le (σ := σ) (nw := nw) (s := sg) (v := nI (mst (fun x => kv σ nw sg (nI x)) (99 - (v0 + 1)))); omega) | (have := mst_le (f := fun x => kv σ nw sg (nI x)) (d := 99 - (v0 + 1)) (by omega); omega)) (fun c22 => ?_) (fun c22 => ?_)
                              · exact absurd c22 (by decide)
                              · skip
                                refine lv_iconst (v := nI 1) hx hb dX3_isSame_819 rfl ?_
                                refine lv_goto (tgt := 824) hx hb dX3_isSame_820 (by decide) ?_
                                exact hEnd 824 ls G locs _ _ (show 30 + sg + 1 ≤ 37 by omega) (show 240 + 100 * sg + 11 ≤ 851 by omega) dX3_isSame_824 hS
                          · skip
                            refine lv_aload_n hx hb dX3_isSame_765 rfl (lv_at hl 5 rfl) ?_
                            refine lv_iload hx hb dX3_isSame_766 (lv_at hl 0 rfl) ?_
                            refine ayK (As := [.int (nI j)]) hx hb hml hown hts (c_X2_count l D cI cZ cW cO (a7 0) n pl nw ns σ u.1 u.2.1 u.2.2 G (nI j) (kA [41] a7) (okP_k hO rfl) hBc (kCount_0 (by omega))) (cwV 1 hts gX3_isSame_X2_count rfl rfl rfl (by decide +kernel) ⟨by decide, by decide⟩) hK hE hO rfl hP rfl hl.1 rfl (Nat.le_of_ble_eq_true rfl) hS dX3_isSame_768 ⟨show 30 + sg + 1 ≤ 37 by omega, show 240 + 100 * sg + 11 ≤ 851 by omega⟩ (fun u23 G locs hP hS => ?_)
                            have hP : kP D [41, 10, n, nw, nw, 1] a7 (eL cI cZ cW cO (xC cI cZ (a7 0) n pl nw ns σ u23) a7 n nw ns σ η (eup T 0 0 (.inl (cI, 11, .inl (alT n pl nw ns σ))))) G := hP
                            refine li_topi (x' := alT n pl nw ns σ j) (ifk_c (f := alT n pl nw ns σ) (by omega)) ?_
                            refine lv_aload hx hb dX3_isSame_771 (lv_at hl 1 rfl) ?_
                            refine lv_iload hx hb dX3_isSame_773 (lv_at hl 0 rfl) ?_
                            refine lk_ild hx hb hK hP 5 0 (show 0 < 1 by decide) rfl (by omega) (by decide) dX3_isSame_775 ?_
                            refine lv_icmp_eq (tgt := 781) hx hb dX3_isSame_776 (by decide) (fun c24 => ?_) (fun c24 => ?_)
                            · skip
                              refine lv_iinc (v := nI (j + 1)) (lv' := [(5, .int (nI (j + 1))), (4, .ref (a7 5 0)), (3, .int (lz σ nw)), (2, .int (fm σ nw)), (0, .ref (a7 1 0)), (1, .ref (a7 0 40))]) hx hb dX3_isSame_781 hl (k := 0) rfl (nI_inc _ _) (by decide) rfl (fun ls hl => ?_)
                              refine lv_goto (tgt := 758) hx hb dX3_isSame_784 (by decide) ?_
                              have hl9 : lv_has ls 12 [(5, .int (nI (j + 1))), (4, .ref (a7 5 0)), (3, .int (lz σ nw)), (2, .int (fm σ nw)), (0, .ref (a7 1 0)), (1, .ref (a7 0 40))] := lv_sub hl [0, 1, 2, 3, 4, 5] rfl
                              exact ih758 (j + 1) u23 (by omega) (by omega) G locs hP hS ls hl9
                            · exact absurd rfl c24
                      have hl9 : lv_has ls 12 [(5, .int (nI 0)), (4, .ref (a7 5 0)), (3, .int (lz σ nw)), (2, .int (fm σ nw)), (0, .ref (a7 1 0)), (1, .ref (a7 0 40))] := lv_sub hl [0, 1, 2, 3, 4, 5] rfl
                      exact L758_17 ((11 - 0) + 1) 0 u (Nat.lt_succ_self _) (by omega) G locs hP hS ls hl9
                  · skip
                    refine lv_bipush (v := nI 100) hx hb dX3_isSame_464 rfl ?_
                    have hG9 := hS.1
                    refine lk_newI hx hb g3 hK hS (N := 100) (by decide) (show 30 + sg + 1 ≤ 37 by omega) (show 240 + 100 * sg + 100 ≤ 851 by omega) dX3_isSame_466 (fun q G hq hv hk hS => ?_)
                    obtain ⟨a25, rfl, ha25, hP, hO⟩ := kt_tmp0 hO hP hv hk hq (hA _ (by omega))
                    have hP : kP D [41, 10, n, nw, nw, 1] a25 (eL cI cZ cW cO (xC cI cZ (a25 0) n pl nw ns σ u) a25 n nw ns σ η (eup T 0 0 (.inl (cI, 100, .inl (fun _ => 0 : Nat → Int32))))) G := hP
                    have hl : lv_has ls 12 [(4, .int (nI sg)), (3, .int (lz σ nw)), (2, .int (fm σ nw)), (0, .ref (a25 1 0)), (1, .ref (a25 0 40))] := by rw [ha25 1 0 (by omega), ha25 0 40 (by omega)]; exact hl
                    refine lv_astore (lv' := [(5, .ref (a25 5 0)), (4, .int (nI sg)), (3, .int (lz σ nw)), (2, .int (fm σ nw)), (0, .ref (a25 1 0)), (1, .ref (a25 0 40))]) hx hb dX3_isSame_468 hl (by decide) rfl (fun ls hl => ?_)
                    refine lv_iconst (v := nI 0) hx hb dX3_isSame_470 rfl ?_
                    refine lv_istore (lv' := [(6, .int (nI 0)), (5, .ref (a25 5 0)), (4, .int (nI sg)), (3, .int (lz σ nw)), (2, .int (fm σ nw)), (0, .ref (a25 1 0)), (1, .ref (a25 0 40))]) hx hb dX3_isSame_471 hl (by decide) rfl (fun ls hl => ?_)
                    refine lv_iconst (v := nI 0) hx hb dX3_isSame_473 rfl ?_
                    refine lv_istore (lv' := [(7, .int (nI 0)), (6, .int (nI 0)), (5, .ref (a25 5 0)), (4, .int (nI sg)), (3, .int (lz σ nw)), (2, .int (fm σ nw)), (0, .ref (a25 1 0)), (1, .ref (a25 0 40))]) hx hb dX3_isSame_474 hl (by decide) rfl (fun ls hl => ?_)
                    refine lv_aload_n hx hb dX3_isSame_476 rfl (lv_at hl 6 rfl) ?_
                    refine lk_gf3 hx hb hX3 hown hK hP 1 0 (show 0 < 10 by decide) rfl 3 (by decide) f23 rfl dX3_isSame_477 ?_
                    refine lv_astore (lv' := [(8, .ref (a25 1 4)), (7, .int (nI 0)), (6, .int (nI 0)), (5, .ref (a25 5 0)), (4, .int (nI sg)), (3, .int (lz σ nw)), (2, .int (fm σ nw)), (0, .ref (a25 1 0)), (1, .ref (a25 0 40))]) hx hb dX3_isSame_480 hl (by decide) rfl (fun ls hl => ?_)
                    refine lv_aload hx hb dX3_isSame_482 (lv_at hl 0 rfl) ?_
                    refine lk_alen hx hb hK hP 1 4 (show 4 < 10 by decide) 2 rfl rfl dX3_isSame_484 ?_
                    refine lv_istore (lv' := [(9, .int (nI nw)), (8, .ref (a25 1 4)), (7, .int (nI 0)), (6, .int (nI 0)), (5, .ref (a25 5 0)), (4, .int (nI sg)), (3, .int (lz σ nw)), (2, .int (fm σ nw)), (0, .ref (a25 1 0)), (1, .ref (a25 0 40))]) hx hb dX3_isSame_485 hl (by decide) rfl (fun ls hl => ?_)
                    refine lv_iconst (v := nI 0) hx hb dX3_isSame_487 rfl ?_
                    refine lv_istore (lv' := [(10, .int (nI 0)), (9, .int (nI nw)), (8, .ref (a25 1 4)), (7, .int (nI 0)), (6, .int (nI 0)), (5, .ref (a25 5 0)), (4, .int (nI sg)), (3, .int (lz σ nw)), (2, .int (fm σ nw)), (0, .ref (a25 1 0)), (1, .ref (a25 0 40))]) hx hb dX3_isSame_488 hl (by decide) rfl (fun ls hl => ?_)
                    have L490_26 : ∀ (fuel : Nat) (o9 : Nat), (nw - o9) < fuel → (o9 ≤ nw) → ∀ (G : Heap) (locs : List Loc), kP D [41, 10, n, nw, nw, 1] a25 (eL cI cZ cW cO (xC cI cZ (a25 0) n pl nw ns σ u) a25 n nw ns σ η (eup T 0 0 (.inl (cI, 100, .inl (hiS σ sg o9))))) G → va_S A H G locs → ∀ (ls : Array Slot), lv_has ls 12 [(10, .int (nI o9)), (9, .int (nI nw)), (8, .ref (a25 1 4)), (7, .int (nI 0)), (6, .int (nI 0)), (5, .ref (a25 5 0)), (4, .int (nI sg)), (3, .int (lz σ nw)), (2, .int (fm σ nw)), (0, .ref (a25 1 0)), (1, .ref (a25 0 40))] → W p l e ({ frames := 7, cells := 37, slots := 851, locals := 104 } : Room) s m args below meth c G locs (30 + sg + 1) (240 + 100 * sg + 100) Q (F0 m 490 ls []) := by
                      intro fuel
                      induction fuel with
                      | zero =>
                        intro o9 hfuel
                        exact absurd hfuel (Nat.not_lt_zero _)
                      | succ fuel ih490 =>
                        intro o9 hfuel490 ho G locs hP hS ls hl
                        refine lv_iload hx hb dX3_isSame_490 (lv_at hl 0 rfl) ?_
                        refine lv_iload hx hb dX3_isSame_492 (lv_at hl 1 rfl) ?_
                        refine li_ge (tgt := 525) hx hb dX3_isSame_494 (by decide) (by first | omega | (have := hm_le (σ := σ) (nw := nw) (x := nI 1); omega) | (have := kv_le (σ := σ) (nw := nw) (s := sg) (v := nI (v0 + 1)); omega) | (have := kv_le (σ := σ) (nw := nw) (s := sg) (v := nI (mst (fun x => kv σ nw sg (nI x)) (99 - (v0 + 1)))); omega) | (have := mst_le (f := fun x => kv σ nw sg (nI x)) (d := 99 - (v0 + 1)) (by omega); omega)) (by first | omega | (have := hm_le (σ := σ) (nw := nw) (x := nI 1); omega) | (have := kv_le (σ := σ) (nw := nw) (s := sg) (v := nI (v0 + 1)); omega) | (have := kv_le (σ := σ) (nw := nw) (s := sg) (v := nI (mst (fun x => kv σ nw sg (nI x)) (99 - (v0 + 1)))); omega) | (have := mst_le (f := fun x => kv σ nw sg (nI x)) (d := 99 - (v0 + 1)) (by omega); omega)) (fun c27 => ?_) (fun c27 => ?_)
                        · skip
                          refine lv_bipush (v := nI 99) hx hb dX3_isSame_525 rfl ?_
                          refine lv_istore (lv' := [(8, .int (nI 99)), (10, .int (nI o9)), (9, .int (nI nw)), (7, .int (nI 0)), (6, .int (nI 0)), (5, .ref (a25 5 0)), (4, .int (nI sg)), (3, .int (lz σ nw)), (2, .int (fm σ nw)), (0, .ref (a25 1 0)), (1, .ref (a25 0 40))]) hx hb dX3_isSame_527 hl (by decide) rfl (fun ls hl => ?_)
                          have L529_28 : ∀ (fuel : Nat) (v : Nat), v < fuel → (v ≤ 99) → ∀ (G : Heap) (locs : List Loc), kP D [41, 10, n, nw, nw, 1] a25 (eL cI cZ cW cO (xC cI cZ (a25 0) n pl nw ns σ u) a25 n nw ns σ η (eup T 0 0 (.inl (cI, 100, .inl (hiS σ sg nw))))) G → va_S A H G locs → ∀ (ls : Array Slot), lv_has ls 12 [(8, .int (nI v)), (7, .int (nI (vs σ nw sg - cnt (vsS σ nw sg) v))), (6, .int (nI (mst (fun x => kv σ nw sg (nI x)) (99 - v)))), (5, .ref (a25 5 0)), (4, .int (nI sg)), (3, .int (lz σ nw)), (2, .int (fm σ nw)), (0, .ref (a25 1 0)), (1, .ref (a25 0 40))] → W p l e ({ frames := 7, cells := 37, slots := 851, locals := 104 } : Room) s m args below meth c G locs (30 + sg + 1) (240 + 100 * sg + 100) Q (F0 m 529 ls []) := by
                            intro fuel
                            induction fuel with
                            | zero =>
                              intro v hfuel
                              exact absurd hfuel (Nat.not_lt_zero _)
                            | succ fuel ih529 =>
                              intro v hfuel529 hv G locs hP hS ls hl
                              refine lv_iload hx hb dX3_isSame_529 (lv_at hl 0 rfl) ?_
                              refine li_le0 (tgt := 588) hx hb dX3_isSame_531 (by decide) (by first | omega | (have := hm_le (σ := σ) (nw := nw) (x := nI 1); omega) | (have := kv_le (σ := σ) (nw := nw) (s := sg) (v := nI (v0 + 1)); omega) | (have := kv_le (σ := σ) (nw := nw) (s := sg) (v := nI (mst (fun x => kv σ nw sg (nI x)) (99 - (v0 + 1)))); omega) | (have := mst_le (f := fun x => kv σ nw sg (nI x)) (d := 99 - (v0 + 1)) (by omega); omega)) (fun c29 => ?_) (fun c29 => ?_)
                              · skip
                                refine lv_aload_n hx hb dX3_isSame_588 rfl (lv_at hl 8 rfl) ?_
                                refine lv_iload hx hb dX3_isSame_589 (lv_at hl 4 rfl) ?_
                                refine lv_iconst (v := nI 0) hx hb dX3_isSame_591 rfl ?_
                                refine ayK (As := [.int (nI sg), .int (nI 0)]) hx hb hml hown hts (c_X2_song l D cI cZ cW cO (a25 0) n pl nw ns σ u.1 u.2.1 u.2.2 G (nI sg) (nI 0) (kA [41] a25) (okP_k hO rfl) hBc (kTwo_0 (by omega) (by omega) (by omega) (by decide))) (cwV 2 hts gX3_isSame_X2_song rfl rfl rfl (by decide +kernel) ⟨by decide, by decide⟩) hK hE hO rfl hP rfl hl.1 rfl (Nat.le_of_ble_eq_true rfl) hS dX3_isSame_592 ⟨show 30 + sg + 1 ≤ 37 by omega, show 240 + 100 * sg + 100 ≤ 851 by omega⟩ (fun u30 G locs hP hS => ?_)
                                have hP : kP D [41, 10, n, nw, nw, 1] a25 (eL cI cZ cW cO (xC cI cZ (a25 0) n pl nw ns σ u30) a25 n nw ns σ η (eup T 0 0 (.inl (cI, 100, .inl (hiS σ sg nw))))) G := hP
                                refine li_topi (x' := soT nw σ sg 0) (ifk_2 (f := soT nw σ) (by omega) (by omega) (by omega) (by decide)) ?_
                                refine lv_aload_n hx hb dX3_isSame_595 rfl (lv_at hl 7 rfl) ?_
                                refine lk_gf3 hx hb hX3 hown hK hP 1 0 (show 0 < 10 by decide) rfl 4 (by decide) f27 rfl dX3_isSame_596 ?_
                                refine lv_iload hx hb dX3_isSame_599 (lv_at hl 4 rfl) ?_
                                refine lk_ild hx hb hK hP 1 5 (show 5 < 10 by decide) rfl (by omega) (by omega) dX3_isSame_601 ?_
                                refine lv_icmp_ne (tgt := 649) hx hb dX3_isSame_602 (by decide) (fun c31 => ?_) (fun c31 => ?_)
                                · exact absurd rfl c31
                                · skip
                                  refine lv_aload_n hx hb dX3_isSame_605 rfl (lv_at hl 8 rfl) ?_
                                  refine lv_iload hx hb dX3_isSame_606 (lv_at hl 4 rfl) ?_
                                  refine lv_iconst (v := nI 1) hx hb dX3_isSame_608 rfl ?_
                                  refine ayK (As := [.int (nI sg), .int (nI 1)]) hx hb hml hown hts (c_X2_song l D cI cZ cW cO (a25 0) n pl nw ns σ u30.1 u30.2.1 u30.2.2 G (nI sg) (nI 1) (kA [41] a25) (okP_k hO rfl) hBc (kTwo_0 (by omega) (by omega) (by omega) (by decide))) (cwV 2 hts gX3_isSame_X2_song rfl rfl rfl (by decide +kernel) ⟨by decide, by decide⟩) hK hE hO rfl hP rfl hl.1 rfl (Nat.le_of_ble_eq_true rfl) hS dX3_isSame_609 ⟨show 30 + sg + 1 ≤ 37 by omega, show 240 + 100 * sg + 100 ≤ 851 by omega⟩ (fun u32 G locs hP hS => ?_)
                                  have hP : kP D [41, 10, n, nw, nw, 1] a25 (eL cI cZ cW cO (xC cI cZ (a25 0) n pl nw ns σ u32) a25 n nw ns σ η (eup T 0 0 (.inl (cI, 100, .inl (hiS σ sg nw))))) G := hP
                                  refine li_topi (x' := soT nw σ sg 1) (ifk_2 (f := soT nw σ) (by omega) (by omega) (by omega) (by decide)) ?_
                                  refine lv_aload_n hx hb dX3_isSame_612 rfl (lv_at hl 7 rfl) ?_
                                  refine lk_gf3 hx hb hX3 hown hK hP 1 0 (show 0 < 10 by decide) rfl 3 (by decide) f23 rfl dX3_isSame_613 ?_
                                  refine lk_alen hx hb hK hP 1 4 (show 4 < 10 by decide) 2 rfl rfl dX3_isSame_616 ?_
                                  refine lv_aload hx hb dX3_isSame_617 (lv_at hl 3 rfl) ?_
                                  refine lv_iconst (v := nI 0) hx hb dX3_isSame_619 rfl ?_
                                  refine lk_ild hx hb hK hP 5 0 (show 0 < 1 by decide) rfl (by omega) (by decide) dX3_isSame_620 ?_
                                  refine lv_isub hx hb dX3_isSame_621 ?_
                                  refine lv_icmp_ne (tgt := 649) hx hb dX3_isSame_622 (by decide) (fun c33 => ?_) (fun c33 => ?_)
                                  · exact absurd kn_hi.symm c33
                                  · skip
                                    refine lv_aload_n hx hb dX3_isSame_625 rfl (lv_at hl 8 rfl) ?_
                                    refine lv_iload hx hb dX3_isSame_626 (lv_at hl 4 rfl) ?_
                                    refine lv_iconst (v := nI 2) hx hb dX3_isSame_628 rfl ?_
                                    refine ayK (As := [.int (nI sg), .int (nI 2)]) hx hb hml hown hts (c_X2_song l D cI cZ cW cO (a25 0) n pl nw ns σ u32.1 u32.2.1 u32.2.2 G (nI sg) (nI 2) (kA [41] a25) (okP_k hO rfl) hBc (kTwo_0 (by omega) (by omega) (by omega) (by decide))) (cwV 2 hts gX3_isSame_X2_song rfl rfl rfl (by decide +kernel) ⟨by decide, by decide⟩) hK hE hO rfl hP rfl hl.1 rfl (Nat.le_of_ble_eq_true rfl) hS dX3_isSame_629 ⟨show 30 + sg + 1 ≤ 37 by omega, show 240 + 100 * sg + 100 ≤ 851 by omega⟩ (fun u34 G locs hP hS => ?_)
                                    have hP : kP D [41, 10, n, nw, nw, 1] a25 (eL cI cZ cW cO (xC cI cZ (a25 0) n pl nw ns σ u34) a25 n nw ns σ η (eup T 0 0 (.inl (cI, 100, .inl (hiS σ sg nw))))) G := hP
                                    refine li_topi (x' := soT nw σ sg 2) (ifk_2 (f := soT nw σ) (by omega) (by omega) (by omega) (by decide)) ?_
                                    refine lv_iload hx hb dX3_isSame_632 (lv_at hl 1 rfl) ?_
                                    refine lv_icmp_ne (tgt := 649) hx hb dX3_isSame_634 (by decide) (fun c35 => ?_) (fun c35 => ?_)
                                    · exact absurd (by rw [show v = 0 by omega]; rfl) c35
                                    · skip
                                      refine lv_aload_n hx hb dX3_isSame_637 rfl (lv_at hl 8 rfl) ?_
                                      refine lv_iload hx hb dX3_isSame_638 (lv_at hl 4 rfl) ?_
                                      refine lv_iconst (v := nI 3) hx hb dX3_isSame_640 rfl ?_
                                      refine ayK (As := [.int (nI sg), .int (nI 3)]) hx hb hml hown hts (c_X2_song l D cI cZ cW cO (a25 0) n pl nw ns σ u34.1 u34.2.1 u34.2.2 G (nI sg) (nI 3) (kA [41] a25) (okP_k hO rfl) hBc (kTwo_0 (by omega) (by omega) (by omega) (by decide))) (cwV 2 hts gX3_isSame_X2_song rfl rfl rfl (by decide +kernel) ⟨by decide, by decide⟩) hK hE hO rfl hP rfl hl.1 rfl (Nat.le_of_ble_eq_true rfl) hS dX3_isSame_641 ⟨show 30 + sg + 1 ≤ 37 by omega, show 240 + 100 * sg + 100 ≤ 851 by omega⟩ (fun u36 G locs hP hS => ?_)
                                      have hP : kP D [41, 10, n, nw, nw, 1] a25 (eL cI cZ cW cO (xC cI cZ (a25 0) n pl nw ns σ u36) a25 n nw ns σ η (eup T 0 0 (.inl (cI, 100, .inl (hiS σ sg nw))))) G := hP
                                      refine li_topi (x' := soT nw σ sg 3) (ifk_2 (f := soT nw σ) (by omega) (by omega) (by omega) (by decide)) ?_
                                      refine lv_iload hx hb dX3_isSame_644 (lv_at hl 2 rfl) ?_
                                      refine lv_icmp_eq (tgt := 651) hx hb dX3_isSame_646 (by decide) (fun c37 => ?_) (fun c37 => ?_)
                                      · skip
                                        refine lv_iinc (v := nI (sg + 1)) (lv' := [(4, .int (nI (sg + 1))), (8, .int (nI v)), (7, .int (nI (vs σ nw sg - cnt (vsS σ nw sg) v))), (6, .int (nI (mst (fun x => kv σ nw sg (nI x)) (99 - v)))), (5, .ref (a25 5 0)), (3, .int (lz σ nw)), (2, .int (fm σ nw)), (0, .ref (a25 1 0)), (1, .ref (a25 0 40))]) hx hb dX3_isSame_651 hl (k := 4) rfl (nI_inc _ _) (by decide) rfl (fun ls hl => ?_)
                                        refine lv_goto (tgt := 454) hx hb dX3_isSame_654 (by decide) ?_
                                        have hP : kP D [41, 10, n, nw, nw] a25 (eL cI cZ cW cO (xC cI cZ (a25 0) n pl nw ns σ u36) a25 n nw ns σ η T) G := kt_drop1 hP
                                        have hO : kO A [41, 10, n, nw, nw] a25 := hO.sub kM_drop1
                                        refine w_wide (k := 30 + (sg + 1)) (n := 240 + 100 * (sg + 1)) (by omega) (by omega) ?_
                                        have hl9 : lv_has ls 12 [(4, .int (nI (sg + 1))), (3, .int (lz σ nw)), (2, .int (fm σ nw)), (0, .ref (a25 1 0)), (1, .ref (a25 0 40))] := lv_sub hl [0, 5, 6, 7, 8] rfl
                                        exact ih454 (sg + 1) a25 u36 (by omega) (by omega) (hO) G locs hP hS ls hl9
                                      · exact absurd (by rw [show v = 0 by omega]; exact congrArg nI mst_cm.symm) c37
                              · skip
                                obtain ⟨v0, rfl⟩ : ∃ z, v = z + 1 := ⟨v - 1, by omega⟩
                                have hl : lv_has ls 12 [(8, .int (nI (v0 + 1))), (7, .int (nI (vs σ nw sg - cnt (vsS σ nw sg) (v0 + 1)))), (6, .int (nI (mst (fun x => kv σ nw sg (nI x)) (99 - (v0 + 1))))), (5, .ref (a25 5 0)), (4, .int (nI sg)), (3, .int (lz σ nw)), (2, .int (fm σ nw)), (0, .ref (a25 1 0)), (1, .ref (a25 0 40))] := hl
                                refine lv_iload hx hb dX3_isSame_534 (lv_at hl 1 rfl) ?_
                                refine lv_aload hx hb dX3_isSame_536 (lv_at hl 3 rfl) ?_
                                refine lv_iload hx hb dX3_isSame_538 (lv_at hl 0 rfl) ?_
                                refine lk_ild hx hb hK hP 5 0 (show 0 < 1 by decide) rfl (by omega) (by decide) dX3_isSame_540 ?_
                                refine li_topi (show hiS σ sg nw (v0 + 1) = nI (kv σ nw sg (nI (v0 + 1))) from rfl) ?_
                                refine li_le0 (tgt := 548) hx hb dX3_isSame_541 (by decide) (by first | omega | (have := hm_le (σ := σ) (nw := nw) (x := nI 1); omega) | (have := kv_le (σ := σ) (nw := nw) (s := sg) (v := nI (v0 + 1)); omega) | (have := kv_le (σ := σ) (nw := nw) (s := sg) (v := nI (mst (fun x => kv σ nw sg (nI x)) (99 - (v0 + 1)))); omega) | (have := mst_le (f := fun x => kv σ nw sg (nI x)) (d := 99 - (v0 + 1)) (by omega); omega)) (fun c38 => ?_) (fun c38 => ?_)
                                · skip
                                  refine lv_iconst (v := nI 0) hx hb dX3_isSame_548 rfl ?_
                                  refine lv_iadd hx hb dX3_isSame_549 ?_
                                  refine li_topi (nI_add _ _) ?_
                                  refine lv_istore (lv' := [(7, .int (nI ((vs σ nw sg - cnt (vsS σ nw sg) (v0 + 1)) + 0))), (8, .int (nI (v0 + 1))), (6, .int (nI (mst (fun x => kv σ nw sg (nI x)) (99 - (v0 + 1))))), (5, .ref (a25 5 0)), (4, .int (nI sg)), (3, .int (lz σ nw)), (2, .int (fm σ nw)), (0, .ref (a25 1 0)), (1, .ref (a25 0 40))]) hx hb dX3_isSame_550 hl (by decide) rfl (fun ls hl => ?_)
                                  refine lv_aload hx hb dX3_isSame_552 (lv_at hl 3 rfl) ?_
                                  refine lv_iload hx hb dX3_isSame_554 (lv_at hl 1 rfl) ?_
                                  refine lk_ild hx hb hK hP 5 0 (show 0 < 1 by decide) rfl (by omega) (by decide) dX3_isSame_556 ?_
                                  refine li_topi (show hiS σ sg nw (v0 + 1) = nI (kv σ nw sg (nI (v0 + 1))) from rfl) ?_
                                  refine li_le0 (tgt := 582) hx hb dX3_isSame_557 (by decide) (by first | omega | (have := hm_le (σ := σ) (nw := nw) (x := nI 1); omega) | (have := kv_le (σ := σ) (nw := nw) (s := sg) (v := nI (v0 + 1)); omega) | (have := kv_le (σ := σ) (nw := nw) (s := sg) (v := nI (mst (fun x => kv σ nw sg (nI x)) (99 - (v0 + 1)))); omega) | (have := mst_le (f := fun x => kv σ nw sg (nI x)) (d := 99 - (v0 + 1)) (by omega); omega)) (fun c39 => ?_) (fun c39 => ?_)
                                  · skip
                                    refine lv_iinc (v := nI v0) (lv' := [(8, .int (nI v0)), (7, .int (nI ((vs σ nw sg - cnt (vsS σ nw sg) (v0 + 1)) + 0))), (6, .int (nI (mst (fun x => kv σ nw sg (nI x)) (99 - (v0 + 1))))), (5, .ref (a25 5 0)), (4, .int (nI sg)), (3, .int (lz σ nw)), (2, .int (fm σ nw)), (0, .ref (a25 1 0)), (1, .ref (a25 0 40))]) hx hb dX3_isSame_582 hl (k := 1) rfl (nI_dec1 _) (by decide) rfl (fun ls hl => ?_)
                                    refine lv_goto (tgt := 529) hx hb dX3_isSame_585 (by decide) ?_
                                    have hl9 : lv_has ls 12 [(8, .int (nI v0)), (7, .int (nI ((vs σ nw sg - cnt (vsS σ nw sg) (v0 + 1)) + 0))), (6, .int (nI (mst (fun x => kv σ nw sg (nI x)) (99 - (v0 + 1))))), (5, .ref (a25 5 0)), (4, .int (nI sg)), (3, .int (lz σ nw)), (2, .int (fm σ nw)), (0, .ref (a25 1 0)), (1, .ref (a25 0 40))] := lv_sub hl [0, 1, 2, 3, 4, 5, 6, 7, 8] rfl
                                    have hl9 : lv_has ls 12 [(8, .int (nI v0)), (7, .int (nI (vs σ nw sg - cnt (vsS σ nw sg) v0))), (6, .int (nI (mst (fun x => kv σ nw sg (nI x)) (99 - (v0 + 1))))), (5, .ref (a25 5 0)), (4, .int (nI sg)), (3, .int (lz σ nw)), (2, .int (fm σ nw)), (0, .ref (a25 1 0)), (1, .ref (a25 0 40))] := lv_re hl9 1 rfl (show nI ((vs σ nw sg - cnt (vsS σ nw sg) (v0 + 1)) + 0) = nI (vs σ nw sg - cnt (vsS σ nw sg) v0) from by first | exact vs_t (by omega) (by assumption) | exact vs_f (by assumption))
                                    have hl9 : lv_has ls 12 [(8, .int (nI v0)), (7, .int (nI (vs σ nw sg - cnt (vsS σ nw sg) v0))), (6, .int (nI (mst (fun x => kv σ nw sg (nI x)) (99 - v0)))), (5, .ref (a25 5 0)), (4, .int (nI sg)), (3, .int (lz σ nw)), (2, .int (fm σ nw)), (0, .ref (a25 1 0)), (1, .ref (a25 0 40))] := lv_re hl9 2 rfl (show nI (mst (fun x => kv σ nw sg (nI x)) (99 - (v0 + 1))) = nI (mst (fun x => kv σ nw sg (nI x)) (99 - v0)) from by first | exact mst_n0 (by omega) (by assumption) | exact mst_y (by omega) (by assumption) (Or.inl (by assumption)) | exact mst_y (by omega) (by assumption) (Or.inr (by assumption)) | exact mst_n1 (by omega) (by omega) (by assumption))
                                    exact ih529 v0 (by omega) (by omega) G locs hP hS ls hl9
                                  · skip
                                    refine lv_iload hx hb dX3_isSame_560 (lv_at hl 2 rfl) ?_
                                    refine li_eq0 (tgt := 578) hx hb dX3_isSame_562 (by decide) (by first | omega | (have := hm_le (σ := σ) (nw := nw) (x := nI 1); omega) | (have := kv_le (σ := σ) (nw := nw) (s := sg) (v := nI (v0 + 1)); omega) | (have := kv_le (σ := σ) (nw := nw) (s := sg) (v := nI (mst (fun x => kv σ nw sg (nI x)) (99 - (v0 + 1)))); omega) | (have := mst_le (f := fun x => kv σ nw sg (nI x)) (d := 99 - (v0 + 1)) (by omega); omega)) (fun c40 => ?_) (fun c40 => ?_)
                                    · skip
                                      refine lv_iload hx hb dX3_isSame_578 (lv_at hl 1 rfl) ?_
                                      refine lv_istore (lv' := [(6, .int (nI (v0 + 1))), (7, .int (nI ((vs σ nw sg - cnt (vsS σ nw sg) (v0 + 1)) + 0))), (8, .int (nI (v0 + 1))), (5, .ref (a25 5 0)), (4, .int (nI sg)), (3, .int (lz σ nw)), (2, .int (fm σ nw)), (0, .ref (a25 1 0)), (1, .ref (a25 0 40))]) hx hb dX3_isSame_580 hl (by decide) rfl (fun ls hl => ?_)
                                      refine lv_iinc (v := nI v0) (lv' := [(8, .int (nI v0)), (6, .int (nI (v0 + 1))), (7, .int (nI ((vs σ nw sg - cnt (vsS σ nw sg) (v0 + 1)) + 0))), (5, .ref (a25 5 0)), (4, .int (nI sg)), (3, .int (lz σ nw)), (2, .int (fm σ nw)), (0, .ref (a25 1 0)), (1, .ref (a25 0 40))]) hx hb dX3_isSame_582 hl (k := 2) rfl (nI_dec1 _) (by decide) rfl (fun ls hl => ?_)
                                      refine lv_goto (tgt := 529) hx hb dX3_isSame_585 (by decide) ?_
                                      have hl9 : lv_has ls 12 [(8, .int (nI v0)), (7, .int (nI ((vs σ nw sg - cnt (vsS σ nw sg) (v0 + 1)) + 0))), (6, .int (nI (v0 + 1))), (5, .ref (a25 5 0)), (4, .int (nI sg)), (3, .int (lz σ nw)), (2, .int (fm σ nw)), (0, .ref (a25 1 0)), (1, .ref (a25 0 40))] := lv_sub hl [0, 2, 1, 3, 4, 5, 6, 7, 8] rfl
                                      have hl9 : lv_has ls 12 [(8, .int (nI v0)), (7, .int (nI (vs σ nw sg - cnt (vsS σ nw sg) v0))), (6, .int (nI (v0 + 1))), (5, .ref (a25 5 0)), (4, .int (nI sg)), (3, .int (lz σ nw)), (2, .int (fm σ nw)), (0, .ref (a25 1 0)), (1, .ref (a25 0 40))] := lv_re hl9 1 rfl (show nI ((vs σ nw sg - cnt (vsS σ nw sg) (v0 + 1)) + 0) = nI (vs σ nw sg - cnt (vsS σ nw sg) v0) from by first | exact vs_t (by omega) (by assumption) | exact vs_f (by assumption))
                                      have hl9 : lv_has ls 12 [(8, .int (nI v0)), (7, .int (nI (vs σ nw sg - cnt (vsS σ nw sg) v0))), (6, .int (nI (mst (fun x => kv σ nw sg (nI x)) (99 - v0)))), (5, .ref (a25 5 0)), (4, .int (nI sg)), (3, .int (lz σ nw)), (2, .int (fm σ nw)), (0, .ref (a25 1 0)), (1, .ref (a25 0 40))] := lv_re hl9 2 rfl (show nI (v0 + 1) = nI (mst (fun x => kv σ nw sg (nI x)) (99 - v0)) from by first | exact mst_n0 (by omega) (by assumption) | exact mst_y (by omega) (by assumption) (Or.inl (by assumption)) | exact mst_y (by omega) (by assumption) (Or.inr (by assumption)) | exact mst_n1 (by omega) (by omega) (by assumption))
                                      exact ih529 v0 (by omega) (by omega) G locs hP hS ls hl9
                                    · skip
                                      refine lv_aload hx hb dX3_isSame_565 (lv_at hl 3 rfl) ?_
                                      refine lv_iload hx hb dX3_isSame_567 (lv_at hl 1 rfl) ?_
                                      refine lk_ild hx hb hK hP 5 0 (show 0 < 1 by decide) rfl (by omega) (by decide) dX3_isSame_569 ?_
                                      refine li_topi (show hiS σ sg nw (v0 + 1) = nI (kv σ nw sg (nI (v0 + 1))) from rfl) ?_
                                      refine lv_aload hx hb dX3_isSame_570 (lv_at hl 3 rfl) ?_
                                      refine lv_iload hx hb dX3_isSame_572 (lv_at hl 2 rfl) ?_
                                      refine lk_ild hx hb hK hP 5 0 (show 0 < 1 by decide) rfl (by have := mst_le (f := fun x => kv σ nw sg (nI x)) (d := 99 - (v0 + 1)) (by omega); omega) (by decide) dX3_isSame_574 ?_
                                      refine li_topi (show hiS σ sg nw (mst (fun x => kv σ nw sg (nI x)) (99 - (v0 + 1))) = nI (kv σ nw sg (nI (mst (fun x => kv σ nw sg (nI x)) (99 - (v0 + 1))))) from rfl) ?_
                                      refine li_lt (tgt := 582) hx hb dX3_isSame_575 (by decide) (by first | omega | (have := hm_le (σ := σ) (nw := nw) (x := nI 1); omega) | (have := kv_le (σ := σ) (nw := nw) (s := sg) (v := nI (v0 + 1)); omega) | (have := kv_le (σ := σ) (nw := nw) (s := sg) (v := nI (mst (fun x => kv σ nw sg (nI x)) (99 - (v0 + 1)))); omega) | (have := mst_le (f := fun x => kv σ nw sg (nI x)) (d := 99 - (v0 + 1)) (by omega); omega)) (by first | omega | (have := hm_le (σ := σ) (nw := nw) (x := nI 1); omega) | (have := kv_le (σ := σ) (nw := nw) (s := sg) (v := nI (v0 + 1)); omega) | (have := kv_le (σ := σ) (nw := nw) (s := sg) (v := nI (mst (fun x => kv σ nw sg (nI x)) (99 - (v0 + 1)))); omega) | (have := mst_le (f := fun x => kv σ nw sg (nI x)) (d := 99 - (v0 + 1)) (by omega); omega)) (fun c41 => ?_) (fun c41 => ?_)
                                      · skip
                                        refine lv_iinc (v := nI v0) (lv' := [(8, .int (nI v0)), (7, .int (nI ((vs σ nw sg - cnt (vsS σ nw sg) (v0 + 1)) + 0))), (6, .int (nI (mst (fun x => kv σ nw sg (nI x)) (99 - (v0 + 1))))), (5, .ref (a25 5 0)), (4, .int (nI sg)), (3, .int (lz σ nw)), (2, .int (fm σ nw)), (0, .ref (a25 1 0)), (1, .ref (a25 0 40))]) hx hb dX3_isSame_582 hl (k := 1) rfl (nI_dec1 _) (by decide) rfl (fun ls hl => ?_)
                                        refine lv_goto (tgt := 529) hx hb dX3_isSame_585 (by decide) ?_
                                        have hl9 : lv_has ls 12 [(8, .int (nI v0)), (7, .int (nI ((vs σ nw sg - cnt (vsS σ nw sg) (v0 + 1)) + 0))), (6, .int (nI (mst (fun x => kv σ nw sg (nI x)) (99 - (v0 + 1))))), (5, .ref (a25 5 0)), (4, .int (nI sg)), (3, .int (lz σ nw)), (2, .int (fm σ nw)), (0, .ref (a25 1 0)), (1, .ref (a25 0 40))] := lv_sub hl [0, 1, 2, 3, 4, 5, 6, 7, 8] rfl
                                        have hl9 : lv_has ls 12 [(8, .int (nI v0)), (7, .int (nI (vs σ nw sg - cnt (vsS σ nw sg) v0))), (6, .int (nI (mst (fun x => kv σ nw sg (nI x)) (99 - (v0 + 1))))), (5, .ref (a25 5 0)), (4, .int (nI sg)), (3, .int (lz σ nw)), (2, .int (fm σ nw)), (0, .ref (a25 1 0)), (1, .ref (a25 0 40))] := lv_re hl9 1 rfl (show nI ((vs σ nw sg - cnt (vsS σ nw sg) (v0 + 1)) + 0) = nI (vs σ nw sg - cnt (vsS σ nw sg) v0) from by first | exact vs_t (by omega) (by assumption) | exact vs_f (by assumption))
                                        have hl9 : lv_has ls 12 [(8, .int (nI v0)), (7, .int (nI (vs σ nw sg - cnt (vsS σ nw sg) v0))), (6, .int (nI (mst (fun x => kv σ nw sg (nI x)) (99 - v0)))), (5, .ref (a25 5 0)), (4, .int (nI sg)), (3, .int (lz σ nw)), (2, .int (fm σ nw)), (0, .ref (a25 1 0)), (1, .ref (a25 0 40))] := lv_re hl9 2 rfl (show nI (mst (fun x => kv σ nw sg (nI x)) (99 - (v0 + 1))) = nI (mst (fun x => kv σ nw sg (nI x)) (99 - v0)) from by first | exact mst_n0 (by omega) (by assumption) | exact mst_y (by omega) (by assumption) (Or.inl (by assumption)) | exact mst_y (by omega) (by assumption) (Or.inr (by assumption)) | exact mst_n1 (by omega) (by omega) (by assumption))
                                        exact ih529 v0 (by omega) (by omega) G locs hP hS ls hl9
                                      · skip
                                        refine lv_iload hx hb dX3_isSame_578 (lv_at hl 1 rfl) ?_
                                        refine lv_istore (lv' := [(6, .int (nI (v0 + 1))), (7, .int (nI ((vs σ nw sg - cnt (vsS σ nw sg) (v0 + 1)) + 0))), (8, .int (nI (v0 + 1))), (5, .ref (a25 5 0)), (4, .int (nI sg)), (3, .int (lz σ nw)), (2, .int (fm σ nw)), (0, .ref (a25 1 0)), (1, .ref (a25 0 40))]) hx hb dX3_isSame_580 hl (by decide) rfl (fun ls hl => ?_)
                                        refine lv_iinc (v := nI v0) (lv' := [(8, .int (nI v0)), (6, .int (nI (v0 + 1))), (7, .int (nI ((vs σ nw sg - cnt (vsS σ nw sg) (v0 + 1)) + 0))), (5, .ref (a25 5 0)), (4, .int (nI sg)), (3, .int (lz σ nw)), (2, .int (fm σ nw)), (0, .ref (a25 1 0)), (1, .ref (a25 0 40))]) hx hb dX3_isSame_582 hl (k := 2) rfl (nI_dec1 _) (by decide) rfl (fun ls hl => ?_)
                                        refine lv_goto (tgt := 529) hx hb dX3_isSame_585 (by decide) ?_
                                        have hl9 : lv_has ls 12 [(8, .int (nI v0)), (7, .int (nI ((vs σ nw sg - cnt (vsS σ nw sg) (v0 + 1)) + 0))), (6, .int (nI (v0 + 1))), (5, .ref (a25 5 0)), (4, .int (nI sg)), (3, .int (lz σ nw)), (2, .int (fm σ nw)), (0, .ref (a25 1 0)), (1, .ref (a25 0 40))] := lv_sub hl [0, 2, 1, 3, 4, 5, 6, 7, 8] rfl
                                        have hl9 : lv_has ls 12 [(8, .int (nI v0)), (7, .int (nI (vs σ nw sg - cnt (vsS σ nw sg) v0))), (6, .int (nI (v0 + 1))), (5, .ref (a25 5 0)), (4, .int (nI sg)), (3, .int (lz σ nw)), (2, .int (fm σ nw)), (0, .ref (a25 1 0)), (1, .ref (a25 0 40))] := lv_re hl9 1 rfl (show nI ((vs σ nw sg - cnt (vsS σ nw sg) (v0 + 1)) + 0) = nI (vs σ nw sg - cnt (vsS σ nw sg) v0) from by first | exact vs_t (by omega) (by assumption) | exact vs_f (by assumption))
                                        have hl9 : lv_has ls 12 [(8, .int (nI v0)), (7, .int (nI (vs σ nw sg - cnt (vsS σ nw sg) v0))), (6, .int (nI (mst (fun x => kv σ nw sg (nI x)) (99 - v0)))), (5, .ref (a25 5 0)), (4, .int (nI sg)), (3, .int (lz σ nw)), (2, .int (fm σ nw)), (0, .ref (a25 1 0)), (1, .ref (a25 0 40))] := lv_re hl9 2 rfl (show nI (v0 + 1) = nI (mst (fun x => kv σ nw sg (nI x)) (99 - v0)) from by first | exact mst_n0 (by omega) (by assumption) | exact mst_y (by omega) (by assumption) (Or.inl (by assumption)) | exact mst_y (by omega) (by assumption) (Or.inr (by assumption)) | exact mst_n1 (by omega) (by omega) (by assumption))
                                        exact ih529 v0 (by omega) (by omega) G locs hP hS ls hl9
                                · skip
                                  refine lv_iconst (v := nI 1) hx hb dX3_isSame_544 rfl ?_
                                  refine lv_goto (tgt := 549) hx hb dX3_isSame_545 (by decide) ?_
                                  refine lv_iadd hx hb dX3_isSame_549 ?_
                                  refine li_topi (nI_add _ _) ?_
                                  refine lv_istore (lv' := [(7, .int (nI ((vs σ nw sg - cnt (vsS σ nw sg) (v0 + 1)) + 1))), (8, .int (nI (v0 + 1))), (6, .int (nI (mst (fun x => kv σ nw sg (nI x)) (99 - (v0 + 1))))), (5, .ref (a25 5 0)), (4, .int (nI sg)), (3, .int (lz σ nw)), (2, .int (fm σ nw)), (0, .ref (a25 1 0)), (1, .ref (a25 0 40))]) hx hb dX3_isSame_550 hl (by decide) rfl (fun ls hl => ?_)
                                  refine lv_aload hx hb dX3_isSame_552 (lv_at hl 3 rfl) ?_
                                  refine lv_iload hx hb dX3_isSame_554 (lv_at hl 1 rfl) ?_
                                  refine lk_ild hx hb hK hP 5 0 (show 0 < 1 by decide) rfl (by omega) (by decide) dX3_isSame_556 ?_
                                  refine li_topi (show hiS σ sg nw (v0 + 1) = nI (kv σ nw sg (nI (v0 + 1))) from rfl) ?_
                                  refine li_le0 (tgt := 582) hx hb dX3_isSame_557 (by decide) (by first | omega | (have := hm_le (σ := σ) (nw := nw) (x := nI 1); omega) | (have := kv_le (σ := σ) (nw := nw) (s := sg) (v := nI (v0 + 1)); omega) | (have := kv_le (σ := σ) (nw := nw) (s := sg) (v := nI (mst (fun x => kv σ nw sg (nI x)) (99 - (v0 + 1)))); omega) | (have := mst_le (f := fun x => kv σ nw sg (nI x)) (d := 99 - (v0 + 1)) (by omega); omega)) (fun c42 => ?_) (fun c42 => ?_)
                                  · skip
                                    refine lv_iinc (v := nI v0) (lv' := [(8, .int (nI v0)), (7, .int (nI ((vs σ nw sg - cnt (vsS σ nw sg) (v0 + 1)) + 1))), (6, .int (nI (mst (fun x => kv σ nw sg (nI x)) (99 - (v0 + 1))))), (5, .ref (a25 5 0)), (4, .int (nI sg)), (3, .int (lz σ nw)), (2, .int (fm σ nw)), (0, .ref (a25 1 0)), (1, .ref (a25 0 40))]) hx hb dX3_isSame_582 hl (k := 1) rfl (nI_dec1 _) (by decide) rfl (fun ls hl => ?_)
                                    refine lv_goto (tgt := 529) hx hb dX3_isSame_585 (by decide) ?_
                                    have hl9 : lv_has ls 12 [(8, .int (nI v0)), (7, .int (nI ((vs σ nw sg - cnt (vsS σ nw sg) (v0 + 1)) + 1))), (6, .int (nI (mst (fun x => kv σ nw sg (nI x)) (99 - (v0 + 1))))), (5, .ref (a25 5 0)), (4, .int (nI sg)), (3, .int (lz σ nw)), (2, .int (fm σ nw)), (0, .ref (a25 1 0)), (1, .ref (a25 0 40))] := lv_sub hl [0, 1, 2, 3, 4, 5, 6, 7, 8] rfl
                                    have hl9 : lv_has ls 12 [(8, .int (nI v0)), (7, .int (nI (vs σ nw sg - cnt (vsS σ nw sg) v0))), (6, .int (nI (mst (fun x => kv σ nw sg (nI x)) (99 - (v0 + 1))))), (5, .ref (a25 5 0)), (4, .int (nI sg)), (3, .int (lz σ nw)), (2, .int (fm σ nw)), (0, .ref (a25 1 0)), (1, .ref (a25 0 40))] := lv_re hl9 1 rfl (show nI ((vs σ nw sg - cnt (vsS σ nw sg) (v0 + 1)) + 1) = nI (vs σ nw sg - cnt (vsS σ nw sg) v0) from by first | exact vs_t (by omega) (by assumption) | exact vs_f (by assumption))
                                    have hl9 : lv_has ls 12 [(8, .int (nI v0)), (7, .int (nI (vs σ nw sg - cnt (vsS σ nw sg) v0))), (6, .int (nI (mst (fun x => kv σ nw sg (nI x)) (99 - v0)))), (5, .ref (a25 5 0)), (4, .int (nI sg)), (3, .int (lz σ nw)), (2, .int (fm σ nw)), (0, .ref (a25 1 0)), (1, .ref (a25 0 40))] := lv_re hl9 2 rfl (show nI (mst (fun x => kv σ nw sg (nI x)) (99 - (v0 + 1))) = nI (mst (fun x => kv σ nw sg (nI x)) (99 - v0)) from by first | exact mst_n0 (by omega) (by assumption) | exact mst_y (by omega) (by assumption) (Or.inl (by assumption)) | exact mst_y (by omega) (by assumption) (Or.inr (by assumption)) | exact mst_n1 (by omega) (by omega) (by assumption))
                                    exact ih529 v0 (by omega) (by omega) G locs hP hS ls hl9
                                  · skip
                                    refine lv_iload hx hb dX3_isSame_560 (lv_at hl 2 rfl) ?_
                                    refine li_eq0 (tgt := 578) hx hb dX3_isSame_562 (by decide) (by first | omega | (have := hm_le (σ := σ) (nw := nw) (x := nI 1); omega) | (have := kv_le (σ := σ) (nw := nw) (s := sg) (v := nI (v0 + 1)); omega) | (have := kv_le (σ := σ) (nw := nw) (s := sg) (v := nI (mst (fun x => kv σ nw sg (nI x)) (99 - (v0 + 1)))); omega) | (have := mst_le (f := fun x => kv σ nw sg (nI x)) (d := 99 - (v0 + 1)) (by omega); omega)) (fun c43 => ?_) (fun c43 => ?_)
                                    · skip
                                      refine lv_iload hx hb dX3_isSame_578 (lv_at hl 1 rfl) ?_
                                      refine lv_istore (lv' := [(6, .int (nI (v0 + 1))), (7, .int (nI ((vs σ nw sg - cnt (vsS σ nw sg) (v0 + 1)) + 1))), (8, .int (nI (v0 + 1))), (5, .ref (a25 5 0)), (4, .int (nI sg)), (3, .int (lz σ nw)), (2, .int (fm σ nw)), (0, .ref (a25 1 0)), (1, .ref (a25 0 40))]) hx hb dX3_isSame_580 hl (by decide) rfl (fun ls hl => ?_)
                                      refine lv_iinc (v := nI v0) (lv' := [(8, .int (nI v0)), (6, .int (nI (v0 + 1))), (7, .int (nI ((vs σ nw sg - cnt (vsS σ nw sg) (v0 + 1)) + 1))), (5, .ref (a25 5 0)), (4, .int (nI sg)), (3, .int (lz σ nw)), (2, .int (fm σ nw)), (0, .ref (a25 1 0)), (1, .ref (a25 0 40))]) hx hb dX3_isSame_582 hl (k := 2) rfl (nI_dec1 _) (by decide) rfl (fun ls hl => ?_)
                                      refine lv_goto (tgt := 529) hx hb dX3_isSame_585 (by decide) ?_
                                      have hl9 : lv_has ls 12 [(8, .int (nI v0)), (7, .int (nI ((vs σ nw sg - cnt (vsS σ nw sg) (v0 + 1)) + 1))), (6, .int (nI (v0 + 1))), (5, .ref (a25 5 0)), (4, .int (nI sg)), (3, .int (lz σ nw)), (2, .int (fm σ nw)), (0, .ref (a25 1 0)), (1, .ref (a25 0 40))] := lv_sub hl [0, 2, 1, 3, 4, 5, 6, 7, 8] rfl
                                      have hl9 : lv_has ls 12 [(8, .int (nI v0)), (7, .int (nI (vs σ nw sg - cnt (vsS σ nw sg) v0))), (6, .int (nI (v0 + 1))), (5, .ref (a25 5 0)), (4, .int (nI sg)), (3, .int (lz σ nw)), (2, .int (fm σ nw)), (0, .ref (a25 1 0)), (1, .ref (a25 0 40))] := lv_re hl9 1 rfl (show nI ((vs σ nw sg - cnt (vsS σ nw sg) (v0 + 1)) + 1) = nI (vs σ nw sg - cnt (vsS σ nw sg) v0) from by first | exact vs_t (by omega) (by assumption) | exact vs_f (by assumption))
                                      have hl9 : lv_has ls 12 [(8, .int (nI v0)), (7, .int (nI (vs σ nw sg - cnt (vsS σ nw sg) v0))), (6, .int (nI (mst (fun x => kv σ nw sg (nI x)) (99 - v0)))), (5, .ref (a25 5 0)), (4, .int (nI sg)), (3, .int (lz σ nw)), (2, .int (fm σ nw)), (0, .ref (a25 1 0)), (1, .ref (a25 0 40))] := lv_re hl9 2 rfl (show nI (v0 + 1) = nI (mst (fun x => kv σ nw sg (nI x)) (99 - v0)) from by first | exact mst_n0 (by omega) (by assumption) | exact mst_y (by omega) (by assumption) (Or.inl (by assumption)) | exact mst_y (by omega) (by assumption) (Or.inr (by assumption)) | exact mst_n1 (by omega) (by omega) (by assumption))
                                      exact ih529 v0 (by omega) (by omega) G locs hP hS ls hl9
                                    · skip
                                      refine lv_aload hx hb dX3_isSame_565 (lv_at hl 3 rfl) ?_
                                      refine lv_iload hx hb dX3_isSame_567 (lv_at hl 1 rfl) ?_
                                      refine lk_ild hx hb hK hP 5 0 (show 0 < 1 by decide) rfl (by omega) (by decide) dX3_isSame_569 ?_
                                      refine li_topi (show hiS σ sg nw (v0 + 1) = nI (kv σ nw sg (nI (v0 + 1))) from rfl) ?_
                                      refine lv_aload hx hb dX3_isSame_570 (lv_at hl 3 rfl) ?_
                                      refine lv_iload hx hb dX3_isSame_572 (lv_at hl 2 rfl) ?_
                                      refine lk_ild hx hb hK hP 5 0 (show 0 < 1 by decide) rfl (by have := mst_le (f := fun x => kv σ nw sg (nI x)) (d := 99 - (v0 + 1)) (by omega); omega) (by decide) dX3_isSame_574 ?_
                                      refine li_topi (show hiS σ sg nw (mst (fun x => kv σ nw sg (nI x)) (99 - (v0 + 1))) = nI (kv σ nw sg (nI (mst (fun x => kv σ nw sg (nI x)) (99 - (v0 + 1))))) from rfl) ?_
                                      refine li_lt (tgt := 582) hx hb dX3_isSame_575 (by decide) (by first | omega | (have := hm_le (σ := σ) (nw := nw) (x := nI 1); omega) | (have := kv_le (σ := σ) (nw := nw) (s := sg) (v := nI (v0 + 1)); omega) | (have := kv_le (σ := σ) (nw := nw) (s := sg) (v := nI (mst (fun x => kv σ nw sg (nI x)) (99 - (v0 + 1)))); omega) | (have := mst_le (f := fun x => kv σ nw sg (nI x)) (d := 99 - (v0 + 1)) (by omega); omega)) (by first | omega | (have := hm_le (σ := σ) (nw := nw) (x := nI 1); omega) | (have := kv_le (σ := σ) (nw := nw) (s := sg) (v := nI (v0 + 1)); omega) | (have := kv_le (σ := σ) (nw := nw) (s := sg) (v := nI (mst (fun x => kv σ nw sg (nI x)) (99 - (v0 + 1)))); omega) | (have := mst_le (f := fun x => kv σ nw sg (nI x)) (d := 99 - (v0 + 1)) (by omega); omega)) (fun c44 => ?_) (fun c44 => ?_)
                                      · skip
                                        refine lv_iinc (v := nI v0) (lv' := [(8, .int (nI v0)), (7, .int (nI ((vs σ nw sg - cnt (vsS σ nw sg) (v0 + 1)) + 1))), (6, .int (nI (mst (fun x => kv σ nw sg (nI x)) (99 - (v0 + 1))))), (5, .ref (a25 5 0)), (4, .int (nI sg)), (3, .int (lz σ nw)), (2, .int (fm σ nw)), (0, .ref (a25 1 0)), (1, .ref (a25 0 40))]) hx hb dX3_isSame_582 hl (k := 1) rfl (nI_dec1 _) (by decide) rfl (fun ls hl => ?_)
                                        refine lv_goto (tgt := 529) hx hb dX3_isSame_585 (by decide) ?_
                                        have hl9 : lv_has ls 12 [(8, .int (nI v0)), (7, .int (nI ((vs σ nw sg - cnt (vsS σ nw sg) (v0 + 1)) + 1))), (6, .int (nI (mst (fun x => kv σ nw sg (nI x)) (99 - (v0 + 1))))), (5, .ref (a25 5 0)), (4, .int (nI sg)), (3, .int (lz σ nw)), (2, .int (fm σ nw)), (0, .ref (a25 1 0)), (1, .ref (a25 0 40))] := lv_sub hl [0, 1, 2, 3, 4, 5, 6, 7, 8] rfl
                                        have hl9 : lv_has ls 12 [(8, .int (nI v0)), (7, .int (nI (vs σ nw sg - cnt (vsS σ nw sg) v0))), (6, .int (nI (mst (fun x => kv σ nw sg (nI x)) (99 - (v0 + 1))))), (5, .ref (a25 5 0)), (4, .int (nI sg)), (3, .int (lz σ nw)), (2, .int (fm σ nw)), (0, .ref (a25 1 0)), (1, .ref (a25 0 40))] := lv_re hl9 1 rfl (show nI ((vs σ nw sg - cnt (vsS σ nw sg) (v0 + 1)) + 1) = nI (vs σ nw sg - cnt (vsS σ nw sg) v0) from by first | exact vs_t (by omega) (by assumption) | exact vs_f (by assumption))
                                        have hl9 : lv_has ls 12 [(8, .int (nI v0)), (7, .int (nI (vs σ nw sg - cnt (vsS σ nw sg) v0))), (6, .int (nI (mst (fun x => kv σ nw sg (nI x)) (99 - v0)))), (5, .ref (a25 5 0)), (4, .int (nI sg)), (3, .int (lz σ nw)), (2, .int (fm σ nw)), (0, .ref (a25 1 0)), (1, .ref (a25 0 40))] := lv_re hl9 2 rfl (show nI (mst (fun x => kv σ nw sg (nI x)) (99 - (v0 + 1))) = nI (mst (fun x => kv σ nw sg (nI x)) (99 - v0)) from by first | exact mst_n0 (by omega) (by assumption) | exact mst_y (by omega) (by assumption) (Or.inl (by assumption)) | exact mst_y (by omega) (by assumption) (Or.inr (by assumption)) | exact mst_n1 (by omega) (by omega) (by assumption))
                                        exact ih529 v0 (by omega) (by omega) G locs hP hS ls hl9
                                      · skip
                                        refine lv_iload hx hb dX3_isSame_578 (lv_at hl 1 rfl) ?_
                                        refine lv_istore (lv' := [(6, .int (nI (v0 + 1))), (7, .int (nI ((vs σ nw sg - cnt (vsS σ nw sg) (v0 + 1)) + 1))), (8, .int (nI (v0 + 1))), (5, .ref (a25 5 0)), (4, .int (nI sg)), (3, .int (lz σ nw)), (2, .int (fm σ nw)), (0, .ref (a25 1 0)), (1, .ref (a25 0 40))]) hx hb dX3_isSame_580 hl (by decide) rfl (fun ls hl => ?_)
                                        refine lv_iinc (v := nI v0) (lv' := [(8, .int (nI v0)), (6, .int (nI (v0 + 1))), (7, .int (nI ((vs σ nw sg - cnt (vsS σ nw sg) (v0 + 1)) + 1))), (5, .ref (a25 5 0)), (4, .int (nI sg)), (3, .int (lz σ nw)), (2, .int (fm σ nw)), (0, .ref (a25 1 0)), (1, .ref (a25 0 40))]) hx hb dX3_isSame_582 hl (k := 2) rfl (nI_dec1 _) (by decide) rfl (fun ls hl => ?_)
                                        refine lv_goto (tgt := 529) hx hb dX3_isSame_585 (by decide) ?_
                                        have hl9 : lv_has ls 12 [(8, .int (nI v0)), (7, .int (nI ((vs σ nw sg - cnt (vsS σ nw sg) (v0 + 1)) + 1))), (6, .int (nI (v0 + 1))), (5, .ref (a25 5 0)), (4, .int (nI sg)), (3, .int (lz σ nw)), (2, .int (fm σ nw)), (0, .ref (a25 1 0)), (1, .ref (a25 0 40))] := lv_sub hl [0, 2, 1, 3, 4, 5, 6, 7, 8] rfl
                                        have hl9 : lv_has ls 12 [(8, .int (nI v0)), (7, .int (nI (vs σ nw sg - cnt (vsS σ nw sg) v0))), (6, .int (nI (v0 + 1))), (5, .ref (a25 5 0)), (4, .int (nI sg)), (3, .int (lz σ nw)), (2, .int (fm σ nw)), (0, .ref (a25 1 0)), (1, .ref (a25 0 40))] := lv_re hl9 1 rfl (show nI ((vs σ nw sg - cnt (vsS σ nw sg) (v0 + 1)) + 1) = nI (vs σ nw sg - cnt (vsS σ nw sg) v0) from by first | exact vs_t (by omega) (by assumption) | exact vs_f (by assumption))
                                        have hl9 : lv_has ls 12 [(8, .int (nI v0)), (7, .int (nI (vs σ nw sg - cnt (vsS σ nw sg) v0))), (6, .int (nI (mst (fun x => kv σ nw sg (nI x)) (99 - v0)))), (5, .ref (a25 5 0)), (4, .int (nI sg)), (3, .int (lz σ nw)), (2, .int (fm σ nw)), (0, .ref (a25 1 0)), (1, .ref (a25 0 40))] := lv_re hl9 2 rfl (show nI (v0 + 1) = nI (mst (fun x => kv σ nw sg (nI x)) (99 - v0)) from by first | exact mst_n0 (by omega) (by assumption) | exact mst_y (by omega) (by assumption) (Or.inl (by assumption)) | exact mst_y (by omega) (by assumption) (Or.inr (by assumption)) | exact mst_n1 (by omega) (by omega) (by assumption))
                                        exact ih529 v0 (by omega) (by omega) G locs hP hS ls hl9
                          have hw9 : hiS σ sg o9 = hiS σ sg nw := by rw [show o9 = nw by omega]
                          have hP : kP D [41, 10, n, nw, nw, 1] a25 (eL cI cZ cW cO (xC cI cZ (a25 0) n pl nw ns σ u) a25 n nw ns σ η (eup T 0 0 (.inl (cI, 100, .inl (hiS σ sg nw))))) G := Eq.mp (congrArg (fun z9 => kP D [41, 10, n, nw, nw, 1] a25 (eL cI cZ cW cO (xC cI cZ (a25 0) n pl nw ns σ u) a25 n nw ns σ η (eup T 0 0 (.inl (cI, 100, .inl z9)))) G) hw9) hP
                          clear hw9
                          have hl9 : lv_has ls 12 [(8, .int (nI 99)), (7, .int (nI 0)), (6, .int (nI 0)), (5, .ref (a25 5 0)), (4, .int (nI sg)), (3, .int (lz σ nw)), (2, .int (fm σ nw)), (0, .ref (a25 1 0)), (1, .ref (a25 0 40))] := lv_sub hl [0, 3, 4, 5, 6, 7, 8, 9, 10] rfl
                          have hl9 : lv_has ls 12 [(8, .int (nI 99)), (7, .int (nI (vs σ nw sg - cnt (vsS σ nw sg) 99))), (6, .int (nI 0)), (5, .ref (a25 5 0)), (4, .int (nI sg)), (3, .int (lz σ nw)), (2, .int (fm σ nw)), (0, .ref (a25 1 0)), (1, .ref (a25 0 40))] := lv_re hl9 1 rfl (show nI 0 = nI (vs σ nw sg - cnt (vsS σ nw sg) 99) from by rw [show vs σ nw sg = cnt (vsS σ nw sg) 99 from rfl, Nat.sub_self])
                          have hl9 : lv_has ls 12 [(8, .int (nI 99)), (7, .int (nI (vs σ nw sg - cnt (vsS σ nw sg) 99))), (6, .int (nI (mst (fun x => kv σ nw sg (nI x)) (99 - 99)))), (5, .ref (a25 5 0)), (4, .int (nI sg)), (3, .int (lz σ nw)), (2, .int (fm σ nw)), (0, .ref (a25 1 0)), (1, .ref (a25 0 40))] := lv_re hl9 2 rfl (show nI 0 = nI (mst (fun x => kv σ nw sg (nI x)) (99 - 99)) from rfl)
                          exact L529_28 (99 + 1) 99 (Nat.lt_succ_self _) (by omega) G locs hP hS ls hl9
                        · skip
                          refine lv_aload hx hb dX3_isSame_497 (lv_at hl 2 rfl) ?_
                          refine lv_iload hx hb dX3_isSame_499 (lv_at hl 0 rfl) ?_
                          refine lk_aldW hx hb hK hP 1 4 (show 4 < 10 by decide) rfl (by omega) (by omega) (rfs_at (by omega)) dX3_isSame_501 ?_
                          refine lv_astore (lv' := [(11, .ref (a25 3 o9)), (10, .int (nI o9)), (9, .int (nI nw)), (8, .ref (a25 1 4)), (7, .int (nI 0)), (6, .int (nI 0)), (5, .ref (a25 5 0)), (4, .int (nI sg)), (3, .int (lz σ nw)), (2, .int (fm σ nw)), (0, .ref (a25 1 0)), (1, .ref (a25 0 40))]) hx hb dX3_isSame_502 hl (by decide) rfl (fun ls hl => ?_)
                          refine lv_aload hx hb dX3_isSame_504 (lv_at hl 6 rfl) ?_
                          refine lv_aload hx hb dX3_isSame_506 (lv_at hl 0 rfl) ?_
                          refine lk_gf4 hx hb hX4 hown hK hP 3 o9 (show o9 < nw by omega) rfl 8 (by decide) f97 rfl dX3_isSame_508 ?_
                          refine lv_iload hx hb dX3_isSame_511 (lv_at hl 7 rfl) ?_
                          refine lk_ild hx hb hK hP 4 o9 (show o9 < nw by omega) rfl (by omega) (by decide) dX3_isSame_513 ?_
                          refine li_topi (x' := σ 16 (6 * o9 + sg)) (kn6_at (by omega)) ?_
                          refine li_topi (show σ 16 (6 * o9 + sg) = nI (nN (σ 16 (6 * o9 + sg))) from by exact (K9_nN hK9 (by omega) (by omega)).1) ?_
                          have hm9 := (K9_nN hK9 (show o9 < nw by omega) (show sg < 6 by omega)).2
                          refine lv_dup2_11 hx hb dX3_isSame_514 rfl rfl ?_
                          refine lk_ild hx hb hK hP 5 0 (show 0 < 1 by decide) rfl (by omega) (by decide) dX3_isSame_515 ?_
                          refine lv_iconst (v := nI 1) hx hb dX3_isSame_516 rfl ?_
                          refine lv_iadd hx hb dX3_isSame_517 ?_
                          refine lk_ist hx hb hK hP hO hS 5 0 (show 0 < 1 by decide) rfl (by omega) (by decide) eT_set dX3_isSame_518 (fun G locs hP hS => ?_)
                          have hP : kP D [41, 10, n, nw, nw, 1] a25 (eL cI cZ cW cO (xC cI cZ (a25 0) n pl nw ns σ u) a25 n nw ns σ η (eup T 0 0 (.inl (cI, 100, .inl (hiS σ sg (o9 + 1)))))) G := kt_row hP (hiS_s hK9 (by omega) (by omega))
                          refine lv_iinc (v := nI (o9 + 1)) (lv' := [(10, .int (nI (o9 + 1))), (11, .ref (a25 3 o9)), (9, .int (nI nw)), (8, .ref (a25 1 4)), (7, .int (nI 0)), (6, .int (nI 0)), (5, .ref (a25 5 0)), (4, .int (nI sg)), (3, .int (lz σ nw)), (2, .int (fm σ nw)), (0, .ref (a25 1 0)), (1, .ref (a25 0 40))]) hx hb dX3_isSame_519 hl (k := 1) rfl (nI_inc _ _) (by decide) rfl (fun ls hl => ?_)
                          refine lv_goto (tgt := 490) hx hb dX3_isSame_522 (by decide) ?_
                          have hl9 : lv_has ls 12 [(10, .int (nI (o9 + 1))), (9, .int (nI nw)), (8, .ref (a25 1 4)), (7, .int (nI 0)), (6, .int (nI 0)), (5, .ref (a25 5 0)), (4, .int (nI sg)), (3, .int (lz σ nw)), (2, .int (fm σ nw)), (0, .ref (a25 1 0)), (1, .ref (a25 0 40))] := lv_sub hl [0, 2, 3, 4, 5, 6, 7, 8, 9, 10, 11] rfl
                          exact ih490 (o9 + 1) (by omega) (by omega) G locs hP hS ls hl9
                    have hw9 : (fun _ => 0 : Nat → Int32) = hiS σ sg 0 := hiS_0
                    have hP : kP D [41, 10, n, nw, nw, 1] a25 (eL cI cZ cW cO (xC cI cZ (a25 0) n pl nw ns σ u) a25 n nw ns σ η (eup T 0 0 (.inl (cI, 100, .inl (hiS σ sg 0))))) G := Eq.mp (congrArg (fun z9 => kP D [41, 10, n, nw, nw, 1] a25 (eL cI cZ cW cO (xC cI cZ (a25 0) n pl nw ns σ u) a25 n nw ns σ η (eup T 0 0 (.inl (cI, 100, .inl z9)))) G) hw9) hP
                    clear hw9
                    have hl9 : lv_has ls 12 [(10, .int (nI 0)), (9, .int (nI nw)), (8, .ref (a25 1 4)), (7, .int (nI 0)), (6, .int (nI 0)), (5, .ref (a25 5 0)), (4, .int (nI sg)), (3, .int (lz σ nw)), (2, .int (fm σ nw)), (0, .ref (a25 1 0)), (1, .ref (a25 0 40))] := lv_sub hl [0, 1, 2, 3, 4, 5, 6, 7, 8, 9, 10] rfl
                    exact L490_26 ((nw - 0) + 1) 0 (Nat.lt_succ_self _) (by omega) G locs hP hS ls hl9
              refine w_wide (k := 30 + 0) (n := 240 + 100 * 0) (by omega) (by omega) ?_
              have hl9 : lv_has ls 12 [(4, .int (nI 0)), (3, .int (lz σ nw)), (2, .int (fm σ nw)), (0, .ref (a 1 0)), (1, .ref (a 0 40))] := lv_sub hl [0, 1, 2, 3, 4] rfl
              exact L454_5 ((ns - 0) + 1) 0 a u (Nat.lt_succ_self _) (by omega) (hO) G locs hP hS ls hl9
            · skip
              refine lv_iconst (v := nI 0) hx hb dX3_isSame_243 rfl ?_
              refine lv_istore (lv' := [(5, .int (nI 0)), (4, .int (nI sx)), (3, .int (lz σ nw)), (2, .int (fm σ nw)), (0, .ref (a 1 0)), (1, .ref (a 0 40))]) hx hb dX3_isSame_244 hl (by decide) rfl (fun ls hl => ?_)
              refine lv_aload_n hx hb dX3_isSame_246 rfl (lv_at hl 4 rfl) ?_
              refine lk_gf3 hx hb hX3 hown hK hP 1 0 (show 0 < 10 by decide) rfl 3 (by decide) f23 rfl dX3_isSame_247 ?_
              refine lv_astore (lv' := [(6, .ref (a 1 4)), (5, .int (nI 0)), (4, .int (nI sx)), (3, .int (lz σ nw)), (2, .int (fm σ nw)), (0, .ref (a 1 0)), (1, .ref (a 0 40))]) hx hb dX3_isSame_250 hl (by decide) rfl (fun ls hl => ?_)
              refine lv_aload hx hb dX3_isSame_252 (lv_at hl 0 rfl) ?_
              refine lk_alen hx hb hK hP 1 4 (show 4 < 10 by decide) 2 rfl rfl dX3_isSame_254 ?_
              refine lv_istore (lv' := [(7, .int (nI nw)), (6, .ref (a 1 4)), (5, .int (nI 0)), (4, .int (nI sx)), (3, .int (lz σ nw)), (2, .int (fm σ nw)), (0, .ref (a 1 0)), (1, .ref (a 0 40))]) hx hb dX3_isSame_255 hl (by decide) rfl (fun ls hl => ?_)
              refine lv_iconst (v := nI 0) hx hb dX3_isSame_257 rfl ?_
              refine lv_istore (lv' := [(8, .int (nI 0)), (7, .int (nI nw)), (6, .ref (a 1 4)), (5, .int (nI 0)), (4, .int (nI sx)), (3, .int (lz σ nw)), (2, .int (fm σ nw)), (0, .ref (a 1 0)), (1, .ref (a 0 40))]) hx hb dX3_isSame_258 hl (by decide) rfl (fun ls hl => ?_)
              have L260_45 : ∀ (fuel : Nat) (o9 : Nat), (nw - o9) < fuel → (o9 ≤ nw) → ∀ (G : Heap) (locs : List Loc), kP D [41, 10, n, nw, nw] a (eL cI cZ cW cO (xC cI cZ (a 0) n pl nw ns σ u) a n nw ns σ η T) G → va_S A H G locs → ∀ (ls : Array Slot), lv_has ls 12 [(8, .int (nI o9)), (7, .int (nI nw)), (6, .ref (a 1 4)), (5, .int (nI (cnt (onS σ sx) o9))), (4, .int (nI sx)), (3, .int (lz σ nw)), (2, .int (fm σ nw)), (0, .ref (a 1 0)), (1, .ref (a 0 40))] → W p l e ({ frames := 7, cells := 37, slots := 851, locals := 104 } : Room) s m args below meth c G locs (20 + sx) (180 + 6 * sx) Q (F0 m 260 ls []) := by
                intro fuel
                induction fuel with
                | zero =>
                  intro o9 hfuel
                  exact absurd hfuel (Nat.not_lt_zero _)
                | succ fuel ih260 =>
                  intro o9 hfuel260 ho G locs hP hS ls hl
                  refine lv_iload hx hb dX3_isSame_260 (lv_at hl 0 rfl) ?_
                  refine lv_iload hx hb dX3_isSame_262 (lv_at hl 1 rfl) ?_
                  refine li_ge (tgt := 343) hx hb dX3_isSame_264 (by decide) (by first | omega | (have := hm_le (σ := σ) (nw := nw) (x := nI 1); omega) | (have := kv_le (σ := σ) (nw := nw) (s := sg) (v := nI (v0 + 1)); omega) | (have := kv_le (σ := σ) (nw := nw) (s := sg) (v := nI (mst (fun x => kv σ nw sg (nI x)) (99 - (v0 + 1)))); omega) | (have := mst_le (f := fun x => kv σ nw sg (nI x)) (d := 99 - (v0 + 1)) (by omega); omega)) (by first | omega | (have := hm_le (σ := σ) (nw := nw) (x := nI 1); omega) | (have := kv_le (σ := σ) (nw := nw) (s := sg) (v := nI (v0 + 1)); omega) | (have := kv_le (σ := σ) (nw := nw) (s := sg) (v := nI (mst (fun x => kv σ nw sg (nI x)) (99 - (v0 + 1)))); omega) | (have := mst_le (f := fun x => kv σ nw sg (nI x)) (d := 99 - (v0 + 1)) (by omega); omega)) (fun c46 => ?_) (fun c46 => ?_)
                  · skip
                    refine lv_bipush (v := nI 6) hx hb dX3_isSame_343 rfl ?_
                    have hG9 := hS.1
                    refine lk_newI hx hb g3 hK hS (N := 6) (by decide) (show 20 + sx + 1 ≤ 37 by omega) (show 180 + 6 * sx + 6 ≤ 851 by omega) dX3_isSame_345 (fun q G hq hv hk hS => ?_)
                    obtain ⟨a47, rfl, ha47, hP, hO⟩ := kt_tmp0 hO hP hv hk hq (hA _ (by omega))
                    have hP : kP D [41, 10, n, nw, nw, 1] a47 (eL cI cZ cW cO (xC cI cZ (a47 0) n pl nw ns σ u) a47 n nw ns σ η (eup T 0 0 (.inl (cI, 6, .inl (fun _ => 0 : Nat → Int32))))) G := hP
                    have hl : lv_has ls 12 [(8, .int (nI o9)), (7, .int (nI nw)), (6, .ref (a47 1 4)), (5, .int (nI (cnt (onS σ sx) o9))), (4, .int (nI sx)), (3, .int (lz σ nw)), (2, .int (fm σ nw)), (0, .ref (a47 1 0)), (1, .ref (a47 0 40))] := by rw [ha47 1 4 (by omega), ha47 1 0 (by omega), ha47 0 40 (by omega)]; exact hl
                    refine lv_dup hx hb dX3_isSame_347 rfl ?_
                    refine lv_iconst (v := nI 0) hx hb dX3_isSame_348 rfl ?_
                    refine lv_aload_n hx hb dX3_isSame_349 rfl (lv_at hl 7 rfl) ?_
                    refine lk_gf3 hx hb hX3 hown hK hP 1 0 (show 0 < 10 by decide) rfl 0 (by decide) f9 rfl dX3_isSame_350 ?_
                    refine lv_iload hx hb dX3_isSame_353 (lv_at hl 4 rfl) ?_
                    refine lk_aldO hx hb hK hP 1 1 (show 1 < 10 by decide) rfl (by omega) (by omega) (rfs_at (by omega)) dX3_isSame_355 ?_
                    refine lv_iconst (v := nI 0) hx hb dX3_isSame_356 rfl ?_
                    refine lk_ild hx hb hK hP 2 sx (show sx < n by omega) rfl (by omega) (by decide) dX3_isSame_357 ?_
                    refine li_topi (x' := σ 0 sx) rfl ?_
                    refine lk_ist hx hb hK hP hO hS 5 0 (show 0 < 1 by decide) rfl (by omega) (by decide) eT_set dX3_isSame_358 (fun G locs hP hS => ?_)
                    refine lv_dup hx hb dX3_isSame_359 rfl ?_
                    refine lv_iconst (v := nI 1) hx hb dX3_isSame_360 rfl ?_
                    refine lv_aload_n hx hb dX3_isSame_361 rfl (lv_at hl 7 rfl) ?_
                    refine lv_iload hx hb dX3_isSame_362 (lv_at hl 4 rfl) ?_
                    obtain ⟨q9, hq9, -⟩ := wK_at (M := MS n nw) (a := a47) (e := eL cI cZ cW cO (xC cI cZ (a47 0) n pl nw ns σ u) a47 n nw ns σ η (eup T 0 0 (.inl (cI, 6, .inl (upd (fun _ => 0 : Nat → Int32) 0 (σ 0 sx)))))) (c := 1) (i := 0) (show 0 < 10 by decide)
                    refine roV (As := [.int (nI sx)]) (q0 := q9) (ci := 3) hx hb hml hown hts (c_X3_lets l D cI cZ cW cO (xC cI cZ (a47 0) n pl nw ns σ u) a47 n nw ns σ η (eup T 0 0 (.inl (cI, 6, .inl (upd (fun _ => 0 : Nat → Int32) 0 (σ 0 sx))))) G sx A (hO.sub kLS) hB (by omega)) (cwV 1 hts gX3_isSame_X3_lets rfl rfl rfl (by decide +kernel) ⟨by decide, by decide⟩) hK hE (hP.sub (M' := MS n nw) kLS).w rfl rfl hq9 rfl hl.1 rfl (Nat.le_of_ble_eq_true rfl) hS dX3_isSame_364 ⟨show 20 + sx + 1 ≤ 37 by omega, show 180 + 6 * sx + 6 ≤ 851 by omega⟩ (fun locs hS => ?_)
                    refine lk_ist hx hb hK hP hO hS 5 0 (show 0 < 1 by decide) rfl (by omega) (by decide) eT_set dX3_isSame_367 (fun G locs hP hS => ?_)
                    refine lv_dup hx hb dX3_isSame_368 rfl ?_
                    refine lv_iconst (v := nI 2) hx hb dX3_isSame_369 rfl ?_
                    refine lv_aload_n hx hb dX3_isSame_370 rfl (lv_at hl 7 rfl) ?_
                    refine lk_gf3 hx hb hX3 hown hK hP 1 0 (show 0 < 10 by decide) rfl 0 (by decide) f9 rfl dX3_isSame_371 ?_
                    refine lv_iload hx hb dX3_isSame_374 (lv_at hl 4 rfl) ?_
                    refine lk_aldO hx hb hK hP 1 1 (show 1 < 10 by decide) rfl (by omega) (by omega) (rfs_at (by omega)) dX3_isSame_376 ?_
                    refine lv_iconst (v := nI 2) hx hb dX3_isSame_377 rfl ?_
                    refine lk_ild hx hb hK hP 2 sx (show sx < n by omega) rfl (by omega) (by decide) dX3_isSame_378 ?_
                    refine li_topi (x' := σ 2 sx) rfl ?_
                    refine lk_ist hx hb hK hP hO hS 5 0 (show 0 < 1 by decide) rfl (by omega) (by decide) eT_set dX3_isSame_379 (fun G locs hP hS => ?_)
                    refine lv_dup hx hb dX3_isSame_380 rfl ?_
                    refine lv_iconst (v := nI 3) hx hb dX3_isSame_381 rfl ?_
                    refine lv_iload hx hb dX3_isSame_382 (lv_at hl 3 rfl) ?_
                    refine lk_ist hx hb hK hP hO hS 5 0 (show 0 < 1 by decide) rfl (by omega) (by decide) eT_set dX3_isSame_384 (fun G locs hP hS => ?_)
                    refine lv_dup hx hb dX3_isSame_385 rfl ?_
                    refine lv_iconst (v := nI 4) hx hb dX3_isSame_386 rfl ?_
                    refine lv_aload_n hx hb dX3_isSame_387 rfl (lv_at hl 7 rfl) ?_
                    refine lk_gf3 hx hb hX3 hown hK hP 1 0 (show 0 < 10 by decide) rfl 0 (by decide) f9 rfl dX3_isSame_388 ?_
                    refine lv_iload hx hb dX3_isSame_391 (lv_at hl 4 rfl) ?_
                    refine lk_aldO hx hb hK hP 1 1 (show 1 < 10 by decide) rfl (by omega) (by omega) (rfs_at (by omega)) dX3_isSame_393 ?_
                    refine lv_iconst (v := nI 3) hx hb dX3_isSame_394 rfl ?_
                    refine lk_ild hx hb hK hP 2 sx (show sx < n by omega) rfl (by omega) (by decide) dX3_isSame_395 ?_
                    refine li_topi (x' := σ 8 sx) rfl ?_
                    refine lk_ist hx hb hK hP hO hS 5 0 (show 0 < 1 by decide) rfl (by omega) (by decide) eT_set dX3_isSame_396 (fun G locs hP hS => ?_)
                    refine lv_dup hx hb dX3_isSame_397 rfl ?_
                    refine lv_iconst (v := nI 5) hx hb dX3_isSame_398 rfl ?_
                    refine lv_aload_n hx hb dX3_isSame_399 rfl (lv_at hl 7 rfl) ?_
                    refine lk_gf3 hx hb hX3 hown hK hP 1 0 (show 0 < 10 by decide) rfl 0 (by decide) f9 rfl dX3_isSame_400 ?_
                    refine lv_iload hx hb dX3_isSame_403 (lv_at hl 4 rfl) ?_
                    refine lk_aldO hx hb hK hP 1 1 (show 1 < 10 by decide) rfl (by omega) (by omega) (rfs_at (by omega)) dX3_isSame_405 ?_
                    refine lv_iconst (v := nI 4) hx hb dX3_isSame_406 rfl ?_
                    refine lk_ild hx hb hK hP 2 sx (show sx < n by omega) rfl (by omega) (by decide) dX3_isSame_407 ?_
                    refine li_topi (x' := σ 9 sx) rfl ?_
                    refine lk_ist hx hb hK hP hO hS 5 0 (show 0 < 1 by decide) rfl (by omega) (by decide) eT_set dX3_isSame_408 (fun G locs hP hS => ?_)
                    refine lv_astore (lv' := [(6, .ref (a47 5 0)), (8, .int (nI o9)), (7, .int (nI nw)), (5, .int (nI (cnt (onS σ sx) o9))), (4, .int (nI sx)), (3, .int (lz σ nw)), (2, .int (fm σ nw)), (0, .ref (a47 1 0)), (1, .ref (a47 0 40))]) hx hb dX3_isSame_409 hl (by decide) rfl (fun ls hl => ?_)
                    have hP : kP D [41, 10, n, nw, nw, 1] a47 (eL cI cZ cW cO (xC cI cZ (a47 0) n pl nw ns σ u) a47 n nw ns σ η (eup T 0 0 (.inl (cI, 6, .inl (stT n nw σ sx))))) G := kt_row hP (fun j hj => by rcases (show j = 0 ∨ j = 1 ∨ j = 2 ∨ j = 3 ∨ j = 4 ∨ j = 5 by omega) with rfl | rfl | rfl | rfl | rfl | rfl <;> first | rfl | (rw [show o9 = nw by omega]; rfl))
                    refine lv_iconst (v := nI 0) hx hb dX3_isSame_411 rfl ?_
                    refine lv_istore (lv' := [(7, .int (nI 0)), (6, .ref (a47 5 0)), (8, .int (nI o9)), (5, .int (nI (cnt (onS σ sx) o9))), (4, .int (nI sx)), (3, .int (lz σ nw)), (2, .int (fm σ nw)), (0, .ref (a47 1 0)), (1, .ref (a47 0 40))]) hx hb dX3_isSame_412 hl (by decide) rfl (fun ls hl => ?_)
                    have L414_48 : ∀ (fuel : Nat) (j : Nat) (u : S3), (6 - j) < fuel → (j ≤ 6) → ∀ (G : Heap) (locs : List Loc), kP D [41, 10, n, nw, nw, 1] a47 (eL cI cZ cW cO (xC cI cZ (a47 0) n pl nw ns σ u) a47 n nw ns σ η (eup T 0 0 (.inl (cI, 6, .inl (stT n nw σ sx))))) G → va_S A H G locs → ∀ (ls : Array Slot), lv_has ls 12 [(7, .int (nI j)), (6, .ref (a47 5 0)), (8, .int (nI o9)), (5, .int (nI (cnt (onS σ sx) o9))), (4, .int (nI sx)), (3, .int (lz σ nw)), (2, .int (fm σ nw)), (0, .ref (a47 1 0)), (1, .ref (a47 0 40))] → W p l e ({ frames := 7, cells := 37, slots := 851, locals := 104 } : Room) s m args below meth c G locs (20 + sx + 1) (180 + 6 * sx + 6) Q (F0 m 414 ls []) := by
                      intro fuel
                      induction fuel with
                      | zero =>
                        intro j u hfuel
                        exact absurd hfuel (Nat.not_lt_zero _)
                      | succ fuel ih414 =>
                        intro j u hfuel414 hj G locs hP hS ls hl
                        refine lv_iload hx hb dX3_isSame_414 (lv_at hl 0 rfl) ?_
                        refine lv_bipush (v := nI 6) hx hb dX3_isSame_416 rfl ?_
                        refine li_ge (tgt := 445) hx hb dX3_isSame_418 (by decide) (by first | omega | (have := hm_le (σ := σ) (nw := nw) (x := nI 1); omega) | (have := kv_le (σ := σ) (nw := nw) (s := sg) (v := nI (v0 + 1)); omega) | (have := kv_le (σ := σ) (nw := nw) (s := sg) (v := nI (mst (fun x => kv σ nw sg (nI x)) (99 - (v0 + 1)))); omega) | (have := mst_le (f := fun x => kv σ nw sg (nI x)) (d := 99 - (v0 + 1)) (by omega); omega)) (by first | omega | (have := hm_le (σ := σ) (nw := nw) (x := nI 1); omega) | (have := kv_le (σ := σ) (nw := nw) (s := sg) (v := nI (v0 + 1)); omega) | (have := kv_le (σ := σ) (nw := nw) (s := sg) (v := nI (mst (fun x => kv σ nw sg (nI x)) (99 - (v0 + 1)))); omega) | (have := mst_le (f := fun x => kv σ nw sg (nI x)) (d := 99 - (v0 + 1)) (by omega); omega)) (fun c49 => ?_) (fun c49 => ?_)
                        · skip
                          refine lv_iinc (v := nI (sx + 1)) (lv' := [(4, .int (nI (sx + 1))), (7, .int (nI j)), (6, .ref (a47 5 0)), (8, .int (nI o9)), (5, .int (nI (cnt (onS σ sx) o9))), (3, .int (lz σ nw)), (2, .int (fm σ nw)), (0, .ref (a47 1 0)), (1, .ref (a47 0 40))]) hx hb dX3_isSame_445 hl (k := 4) rfl (nI_inc _ _) (by decide) rfl (fun ls hl => ?_)
                          refine lv_goto (tgt := 233) hx hb dX3_isSame_448 (by decide) ?_
                          have hP : kP D [41, 10, n, nw, nw] a47 (eL cI cZ cW cO (xC cI cZ (a47 0) n pl nw ns σ u) a47 n nw ns σ η T) G := kt_drop1 hP
                          have hO : kO A [41, 10, n, nw, nw] a47 := hO.sub kM_drop1
                          refine w_wide (k := 20 + (sx + 1)) (n := 180 + 6 * (sx + 1)) (by omega) (by omega) ?_
                          have hl9 : lv_has ls 12 [(4, .int (nI (sx + 1))), (3, .int (lz σ nw)), (2, .int (fm σ nw)), (0, .ref (a47 1 0)), (1, .ref (a47 0 40))] := lv_sub hl [0, 5, 6, 7, 8] rfl
                          exact ih233 (sx + 1) a47 u (by omega) (by omega) (hO) G locs hP hS ls hl9
                        · skip
                          refine lv_aload_n hx hb dX3_isSame_421 rfl (lv_at hl 8 rfl) ?_
                          refine lv_iload hx hb dX3_isSame_422 (lv_at hl 4 rfl) ?_
                          refine lv_iload hx hb dX3_isSame_424 (lv_at hl 0 rfl) ?_
                          refine ayK (As := [.int (nI sx), .int (nI j)]) hx hb hml hown hts (c_X2_stretch l D cI cZ cW cO (a47 0) n pl nw ns σ u.1 u.2.1 u.2.2 G (nI sx) (nI j) (kA [41] a47) (okP_k hO rfl) hBc (kTwo_0 (by omega) (by omega) (by omega) (by decide))) (cwV 2 hts gX3_isSame_X2_stretch rfl rfl rfl (by decide +kernel) ⟨by decide, by decide⟩) hK hE hO rfl hP rfl hl.1 rfl (Nat.le_of_ble_eq_true rfl) hS dX3_isSame_426 ⟨show 20 + sx + 1 ≤ 37 by omega, show 180 + 6 * sx + 6 ≤ 851 by omega⟩ (fun u50 G locs hP hS => ?_)
                          have hP : kP D [41, 10, n, nw, nw, 1] a47 (eL cI cZ cW cO (xC cI cZ (a47 0) n pl nw ns σ u50) a47 n nw ns σ η (eup T 0 0 (.inl (cI, 6, .inl (stT n nw σ sx))))) G := hP
                          refine li_topi (x' := stT n nw σ sx j) (ifk_2 (f := stT n nw σ) (by omega) (by omega) (by omega) (by decide)) ?_
                          refine lv_aload hx hb dX3_isSame_429 (lv_at hl 1 rfl) ?_
                          refine lv_iload hx hb dX3_isSame_431 (lv_at hl 0 rfl) ?_
                          refine lk_ild hx hb hK hP 5 0 (show 0 < 1 by decide) rfl (by omega) (by decide) dX3_isSame_433 ?_
                          refine lv_icmp_eq (tgt := 439) hx hb dX3_isSame_434 (by decide) (fun c51 => ?_) (fun c51 => ?_)
                          · skip
                            refine lv_iinc (v := nI (j + 1)) (lv' := [(7, .int (nI (j + 1))), (6, .ref (a47 5 0)), (8, .int (nI o9)), (5, .int (nI (cnt (onS σ sx) o9))), (4, .int (nI sx)), (3, .int (lz σ nw)), (2, .int (fm σ nw)), (0, .ref (a47 1 0)), (1, .ref (a47 0 40))]) hx hb dX3_isSame_439 hl (k := 0) rfl (nI_inc _ _) (by decide) rfl (fun ls hl => ?_)
                            refine lv_goto (tgt := 414) hx hb dX3_isSame_442 (by decide) ?_
                            have hl9 : lv_has ls 12 [(7, .int (nI (j + 1))), (6, .ref (a47 5 0)), (8, .int (nI o9)), (5, .int (nI (cnt (onS σ sx) o9))), (4, .int (nI sx)), (3, .int (lz σ nw)), (2, .int (fm σ nw)), (0, .ref (a47 1 0)), (1, .ref (a47 0 40))] := lv_sub hl [0, 1, 2, 3, 4, 5, 6, 7, 8] rfl
                            exact ih414 (j + 1) u50 (by omega) (by omega) G locs hP hS ls hl9
                          · exact absurd rfl c51
                    have hl9 : lv_has ls 12 [(7, .int (nI 0)), (6, .ref (a47 5 0)), (8, .int (nI o9)), (5, .int (nI (cnt (onS σ sx) o9))), (4, .int (nI sx)), (3, .int (lz σ nw)), (2, .int (fm σ nw)), (0, .ref (a47 1 0)), (1, .ref (a47 0 40))] := lv_sub hl [0, 1, 2, 3, 4, 5, 6, 7, 8] rfl
                    exact L414_48 ((6 - 0) + 1) 0 u (Nat.lt_succ_self _) (by omega) G locs hP hS ls hl9
                  · skip
                    refine lv_aload hx hb dX3_isSame_267 (lv_at hl 2 rfl) ?_
                    refine lv_iload hx hb dX3_isSame_269 (lv_at hl 0 rfl) ?_
                    refine lk_aldW hx hb hK hP 1 4 (show 4 < 10 by decide) rfl (by omega) (by omega) (rfs_at (by omega)) dX3_isSame_271 ?_
                    refine lv_astore (lv' := [(9, .ref (a 3 o9)), (8, .int (nI o9)), (7, .int (nI nw)), (6, .ref (a 1 4)), (5, .int (nI (cnt (onS σ sx) o9))), (4, .int (nI sx)), (3, .int (lz σ nw)), (2, .int (fm σ nw)), (0, .ref (a 1 0)), (1, .ref (a 0 40))]) hx hb dX3_isSame_272 hl (by decide) rfl (fun ls hl => ?_)
                    refine lv_iload hx hb dX3_isSame_274 (lv_at hl 4 rfl) ?_
                    refine lv_aload hx hb dX3_isSame_276 (lv_at hl 0 rfl) ?_
                    refine lk_gf4 hx hb hX4 hown hK hP 3 o9 (show o9 < nw by omega) rfl 4 (by decide) f74 rfl dX3_isSame_278 ?_
                    refine lv_iconst (v := nI 1) hx hb dX3_isSame_281 rfl ?_
                    refine lv_icmp_ne (tgt := 333) hx hb dX3_isSame_282 (by decide) (fun c52 => ?_) (fun c52 => ?_)
                    · skip
                      refine lv_iconst (v := nI 0) hx hb dX3_isSame_333 rfl ?_
                      refine lv_iadd hx hb dX3_isSame_334 ?_
                      refine li_topi (nI_add _ _) ?_
                      refine lv_istore (lv' := [(5, .int (nI ((cnt (onS σ sx) o9) + 0))), (9, .ref (a 3 o9)), (8, .int (nI o9)), (7, .int (nI nw)), (6, .ref (a 1 4)), (4, .int (nI sx)), (3, .int (lz σ nw)), (2, .int (fm σ nw)), (0, .ref (a 1 0)), (1, .ref (a 0 40))]) hx hb dX3_isSame_335 hl (by decide) rfl (fun ls hl => ?_)
                      refine lv_iinc (v := nI (o9 + 1)) (lv' := [(8, .int (nI (o9 + 1))), (5, .int (nI ((cnt (onS σ sx) o9) + 0))), (9, .ref (a 3 o9)), (7, .int (nI nw)), (6, .ref (a 1 4)), (4, .int (nI sx)), (3, .int (lz σ nw)), (2, .int (fm σ nw)), (0, .ref (a 1 0)), (1, .ref (a 0 40))]) hx hb dX3_isSame_337 hl (k := 2) rfl (nI_inc _ _) (by decide) rfl (fun ls hl => ?_)
                      refine lv_goto (tgt := 260) hx hb dX3_isSame_340 (by decide) ?_
                      have hl9 : lv_has ls 12 [(8, .int (nI (o9 + 1))), (7, .int (nI nw)), (6, .ref (a 1 4)), (5, .int (nI ((cnt (onS σ sx) o9) + 0))), (4, .int (nI sx)), (3, .int (lz σ nw)), (2, .int (fm σ nw)), (0, .ref (a 1 0)), (1, .ref (a 0 40))] := lv_sub hl [0, 3, 4, 1, 5, 6, 7, 8, 9] rfl
                      have hl9 : lv_has ls 12 [(8, .int (nI (o9 + 1))), (7, .int (nI nw)), (6, .ref (a 1 4)), (5, .int (nI (cnt (onS σ sx) (o9 + 1)))), (4, .int (nI sx)), (3, .int (lz σ nw)), (2, .int (fm σ nw)), (0, .ref (a 1 0)), (1, .ref (a 0 40))] := lv_re hl9 3 rfl (show nI ((cnt (onS σ sx) o9) + 0) = nI (cnt (onS σ sx) (o9 + 1)) from by first | exact cnt_t (by simp [onS, c46, c52]) | exact cnt_f (by simp [onS, c46, c52]))
                      exact ih260 (o9 + 1) (by omega) (by omega) G locs hP hS ls hl9
                    · skip
                      refine lv_aload hx hb dX3_isSame_285 (lv_at hl 0 rfl) ?_
                      refine lk_gf4 hx hb hX4 hown hK hP 3 o9 (show o9 < nw by omega) rfl 5 (by decide) f77 rfl dX3_isSame_287 ?_
                      refine lv_aload_n hx hb dX3_isSame_290 rfl (lv_at hl 8 rfl) ?_
                      refine lk_gf3 hx hb hX3 hown hK hP 1 0 (show 0 < 10 by decide) rfl 0 (by decide) f9 rfl dX3_isSame_291 ?_
                      refine lv_iload hx hb dX3_isSame_294 (lv_at hl 5 rfl) ?_
                      refine lk_aldO hx hb hK hP 1 1 (show 1 < 10 by decide) rfl (by omega) (by omega) (rfs_at (by omega)) dX3_isSame_296 ?_
                      refine lv_iconst (v := nI 2) hx hb dX3_isSame_297 rfl ?_
                      refine lk_ild hx hb hK hP 2 sx (show sx < n by omega) rfl (by omega) (by decide) dX3_isSame_298 ?_
                      refine li_topi (x' := σ 2 sx) rfl ?_
                      refine lv_icmp_lt (tgt := 333) hx hb dX3_isSame_299 (by decide) (fun c53 => ?_) (fun c53 => ?_)
                      · skip
                        refine lv_iconst (v := nI 0) hx hb dX3_isSame_333 rfl ?_
                        refine lv_iadd hx hb dX3_isSame_334 ?_
                        refine li_topi (nI_add _ _) ?_
                        refine lv_istore (lv' := [(5, .int (nI ((cnt (onS σ sx) o9) + 0))), (9, .ref (a 3 o9)), (8, .int (nI o9)), (7, .int (nI nw)), (6, .ref (a 1 4)), (4, .int (nI sx)), (3, .int (lz σ nw)), (2, .int (fm σ nw)), (0, .ref (a 1 0)), (1, .ref (a 0 40))]) hx hb dX3_isSame_335 hl (by decide) rfl (fun ls hl => ?_)
                        refine lv_iinc (v := nI (o9 + 1)) (lv' := [(8, .int (nI (o9 + 1))), (5, .int (nI ((cnt (onS σ sx) o9) + 0))), (9, .ref (a 3 o9)), (7, .int (nI nw)), (6, .ref (a 1 4)), (4, .int (nI sx)), (3, .int (lz σ nw)), (2, .int (fm σ nw)), (0, .ref (a 1 0)), (1, .ref (a 0 40))]) hx hb dX3_isSame_337 hl (k := 2) rfl (nI_inc _ _) (by decide) rfl (fun ls hl => ?_)
                        refine lv_goto (tgt := 260) hx hb dX3_isSame_340 (by decide) ?_
                        have hl9 : lv_has ls 12 [(8, .int (nI (o9 + 1))), (7, .int (nI nw)), (6, .ref (a 1 4)), (5, .int (nI ((cnt (onS σ sx) o9) + 0))), (4, .int (nI sx)), (3, .int (lz σ nw)), (2, .int (fm σ nw)), (0, .ref (a 1 0)), (1, .ref (a 0 40))] := lv_sub hl [0, 3, 4, 1, 5, 6, 7, 8, 9] rfl
                        have hl9 : lv_has ls 12 [(8, .int (nI (o9 + 1))), (7, .int (nI nw)), (6, .ref (a 1 4)), (5, .int (nI (cnt (onS σ sx) (o9 + 1)))), (4, .int (nI sx)), (3, .int (lz σ nw)), (2, .int (fm σ nw)), (0, .ref (a 1 0)), (1, .ref (a 0 40))] := lv_re hl9 3 rfl (show nI ((cnt (onS σ sx) o9) + 0) = nI (cnt (onS σ sx) (o9 + 1)) from by first | exact cnt_t (by simp [onS, c46, c52, c53]) | exact cnt_f (by simp [onS, c46, c52, c53]))
                        exact ih260 (o9 + 1) (by omega) (by omega) G locs hP hS ls hl9
                      · skip
                        refine lv_aload hx hb dX3_isSame_302 (lv_at hl 0 rfl) ?_
                        refine lk_gf4 hx hb hX4 hown hK hP 3 o9 (show o9 < nw by omega) rfl 5 (by decide) f77 rfl dX3_isSame_304 ?_
                        refine lv_aload_n hx hb dX3_isSame_307 rfl (lv_at hl 8 rfl) ?_
                        refine lk_gf3 hx hb hX3 hown hK hP 1 0 (show 0 < 10 by decide) rfl 0 (by decide) f9 rfl dX3_isSame_308 ?_
                        refine lv_iload hx hb dX3_isSame_311 (lv_at hl 5 rfl) ?_
                        refine lk_aldO hx hb hK hP 1 1 (show 1 < 10 by decide) rfl (by omega) (by omega) (rfs_at (by omega)) dX3_isSame_313 ?_
                        refine lv_iconst (v := nI 2) hx hb dX3_isSame_314 rfl ?_
                        refine lk_ild hx hb hK hP 2 sx (show sx < n by omega) rfl (by omega) (by decide) dX3_isSame_315 ?_
                        refine li_topi (x' := σ 2 sx) rfl ?_
                        refine lv_aload_n hx hb dX3_isSame_316 rfl (lv_at hl 8 rfl) ?_
                        refine lk_gf3 hx hb hX3 hown hK hP 1 0 (show 0 < 10 by decide) rfl 0 (by decide) f9 rfl dX3_isSame_317 ?_
                        refine lv_iload hx hb dX3_isSame_320 (lv_at hl 5 rfl) ?_
                        refine lk_aldO hx hb hK hP 1 1 (show 1 < 10 by decide) rfl (by omega) (by omega) (rfs_at (by omega)) dX3_isSame_322 ?_
                        refine lv_iconst (v := nI 0) hx hb dX3_isSame_323 rfl ?_
                        refine lk_ild hx hb hK hP 2 sx (show sx < n by omega) rfl (by omega) (by decide) dX3_isSame_324 ?_
                        refine li_topi (x' := σ 0 sx) rfl ?_
                        refine lv_iadd hx hb dX3_isSame_325 ?_
                        refine lv_icmp_ge (tgt := 333) hx hb dX3_isSame_326 (by decide) (fun c54 => ?_) (fun c54 => ?_)
                        · skip
                          refine lv_iconst (v := nI 0) hx hb dX3_isSame_333 rfl ?_
                          refine lv_iadd hx hb dX3_isSame_334 ?_
                          refine li_topi (nI_add _ _) ?_
                          refine lv_istore (lv' := [(5, .int (nI ((cnt (onS σ sx) o9) + 0))), (9, .ref (a 3 o9)), (8, .int (nI o9)), (7, .int (nI nw)), (6, .ref (a 1 4)), (4, .int (nI sx)), (3, .int (lz σ nw)), (2, .int (fm σ nw)), (0, .ref (a 1 0)), (1, .ref (a 0 40))]) hx hb dX3_isSame_335 hl (by decide) rfl (fun ls hl => ?_)
                          refine lv_iinc (v := nI (o9 + 1)) (lv' := [(8, .int (nI (o9 + 1))), (5, .int (nI ((cnt (onS σ sx) o9) + 0))), (9, .ref (a 3 o9)), (7, .int (nI nw)), (6, .ref (a 1 4)), (4, .int (nI sx)), (3, .int (lz σ nw)), (2, .int (fm σ nw)), (0, .ref (a 1 0)), (1, .ref (a 0 40))]) hx hb dX3_isSame_337 hl (k := 2) rfl (nI_inc _ _) (by decide) rfl (fun ls hl => ?_)
                          refine lv_goto (tgt := 260) hx hb dX3_isSame_340 (by decide) ?_
                          have hl9 : lv_has ls 12 [(8, .int (nI (o9 + 1))), (7, .int (nI nw)), (6, .ref (a 1 4)), (5, .int (nI ((cnt (onS σ sx) o9) + 0))), (4, .int (nI sx)), (3, .int (lz σ nw)), (2, .int (fm σ nw)), (0, .ref (a 1 0)), (1, .ref (a 0 40))] := lv_sub hl [0, 3, 4, 1, 5, 6, 7, 8, 9] rfl
                          have hl9 : lv_has ls 12 [(8, .int (nI (o9 + 1))), (7, .int (nI nw)), (6, .ref (a 1 4)), (5, .int (nI (cnt (onS σ sx) (o9 + 1)))), (4, .int (nI sx)), (3, .int (lz σ nw)), (2, .int (fm σ nw)), (0, .ref (a 1 0)), (1, .ref (a 0 40))] := lv_re hl9 3 rfl (show nI ((cnt (onS σ sx) o9) + 0) = nI (cnt (onS σ sx) (o9 + 1)) from by first | exact cnt_t (by simp [onS, c46, c52, c53, c54]) | exact cnt_f (by simp [onS, c46, c52, c53, c54]))
                          exact ih260 (o9 + 1) (by omega) (by omega) G locs hP hS ls hl9
                        · skip
                          refine lv_iconst (v := nI 1) hx hb dX3_isSame_329 rfl ?_
                          refine lv_goto (tgt := 334) hx hb dX3_isSame_330 (by decide) ?_
                          refine lv_iadd hx hb dX3_isSame_334 ?_
                          refine li_topi (nI_add _ _) ?_
                          refine lv_istore (lv' := [(5, .int (nI ((cnt (onS σ sx) o9) + 1))), (9, .ref (a 3 o9)), (8, .int (nI o9)), (7, .int (nI nw)), (6, .ref (a 1 4)), (4, .int (nI sx)), (3, .int (lz σ nw)), (2, .int (fm σ nw)), (0, .ref (a 1 0)), (1, .ref (a 0 40))]) hx hb dX3_isSame_335 hl (by decide) rfl (fun ls hl => ?_)
                          refine lv_iinc (v := nI (o9 + 1)) (lv' := [(8, .int (nI (o9 + 1))), (5, .int (nI ((cnt (onS σ sx) o9) + 1))), (9, .ref (a 3 o9)), (7, .int (nI nw)), (6, .ref (a 1 4)), (4, .int (nI sx)), (3, .int (lz σ nw)), (2, .int (fm σ nw)), (0, .ref (a 1 0)), (1, .ref (a 0 40))]) hx hb dX3_isSame_337 hl (k := 2) rfl (nI_inc _ _) (by decide) rfl (fun ls hl => ?_)
                          refine lv_goto (tgt := 260) hx hb dX3_isSame_340 (by decide) ?_
                          have hl9 : lv_has ls 12 [(8, .int (nI (o9 + 1))), (7, .int (nI nw)), (6, .ref (a 1 4)), (5, .int (nI ((cnt (onS σ sx) o9) + 1))), (4, .int (nI sx)), (3, .int (lz σ nw)), (2, .int (fm σ nw)), (0, .ref (a 1 0)), (1, .ref (a 0 40))] := lv_sub hl [0, 3, 4, 1, 5, 6, 7, 8, 9] rfl
                          have hl9 : lv_has ls 12 [(8, .int (nI (o9 + 1))), (7, .int (nI nw)), (6, .ref (a 1 4)), (5, .int (nI (cnt (onS σ sx) (o9 + 1)))), (4, .int (nI sx)), (3, .int (lz σ nw)), (2, .int (fm σ nw)), (0, .ref (a 1 0)), (1, .ref (a 0 40))] := lv_re hl9 3 rfl (show nI ((cnt (onS σ sx) o9) + 1) = nI (cnt (onS σ sx) (o9 + 1)) from by first | exact cnt_t (by simp [onS, c46, c52, c53, c54]) | exact cnt_f (by simp [onS, c46, c52, c53, c54]))
                          exact ih260 (o9 + 1) (by omega) (by omega) G locs hP hS ls hl9
              have hl9 : lv_has ls 12 [(8, .int (nI 0)), (7, .int (nI nw)), (6, .ref (a 1 4)), (5, .int (nI 0)), (4, .int (nI sx)), (3, .int (lz σ nw)), (2, .int (fm σ nw)), (0, .ref (a 1 0)), (1, .ref (a 0 40))] := lv_sub hl [0, 1, 2, 3, 4, 5, 6, 7, 8] rfl
              have hl9 : lv_has ls 12 [(8, .int (nI 0)), (7, .int (nI nw)), (6, .ref (a 1 4)), (5, .int (nI (cnt (onS σ sx) 0))), (4, .int (nI sx)), (3, .int (lz σ nw)), (2, .int (fm σ nw)), (0, .ref (a 1 0)), (1, .ref (a 0 40))] := lv_re hl9 3 rfl (show nI 0 = nI (cnt (onS σ sx) 0) from rfl)
              exact L260_45 ((nw - 0) + 1) 0 (Nat.lt_succ_self _) (by omega) G locs hP hS ls hl9
        refine w_wide (k := 20 + 0) (n := 180 + 6 * 0) (by omega) (by omega) ?_
        have hl9 : lv_has ls 12 [(4, .int (nI 0)), (3, .int (lz σ k)), (2, .int (fm σ k)), (0, .ref (a 1 0)), (1, .ref (a 0 40))] := lv_sub hl [0, 1, 2, 3, 4] rfl
        have hl9 : lv_has ls 12 [(4, .int (nI 0)), (3, .int (lz σ nw)), (2, .int (fm σ k)), (0, .ref (a 1 0)), (1, .ref (a 0 40))] := lv_re hl9 1 rfl (show lz σ k = lz σ nw from by rw [show k = nw by omega])
        have hl9 : lv_has ls 12 [(4, .int (nI 0)), (3, .int (lz σ nw)), (2, .int (fm σ nw)), (0, .ref (a 1 0)), (1, .ref (a 0 40))] := lv_re hl9 2 rfl (show fm σ k = fm σ nw from by rw [show k = nw by omega])
        exact L233_3 ((n - 0) + 1) 0 a u (Nat.lt_succ_self _) (by omega) (hO) G locs hP hS ls hl9
      · skip
        refine lv_aload_n hx hb dX3_isSame_19 rfl (lv_at hl 3 rfl) ?_
        refine lk_gf3 hx hb hX3 hown hK hP 1 0 (show 0 < 10 by decide) rfl 3 (by decide) f23 rfl dX3_isSame_20 ?_
        refine lv_iload hx hb dX3_isSame_23 (lv_at hl 0 rfl) ?_
        refine lk_aldW hx hb hK hP 1 4 (show 4 < 10 by decide) rfl (by omega) (by omega) (rfs_at (by omega)) dX3_isSame_25 ?_
        refine lv_astore (lv' := [(5, .ref (a 3 k)), (4, .int (nI k)), (3, .int (lz σ k)), (2, .int (fm σ k)), (0, .ref (a 1 0)), (1, .ref (a 0 40))]) hx hb dX3_isSame_26 hl (by decide) rfl (fun ls hl => ?_)
        refine lv_bipush (v := nI 9) hx hb dX3_isSame_28 rfl ?_
        have hG9 := hS.1
        refine lk_newI hx hb g3 hK hS (N := 9) (by decide) (show k + 1 ≤ 37 by omega) (show 9 * k + 9 ≤ 851 by omega) dX3_isSame_30 (fun q G hq hv hk hS => ?_)
        obtain ⟨a55, rfl, ha55, hP, hO⟩ := kt_tmp0 hO hP hv hk hq (hA _ (by omega))
        have hP : kP D [41, 10, n, nw, nw, 1] a55 (eL cI cZ cW cO (xC cI cZ (a55 0) n pl nw ns σ u) a55 n nw ns σ η (eup T 0 0 (.inl (cI, 9, .inl (fun _ => 0 : Nat → Int32))))) G := hP
        have hl : lv_has ls 12 [(5, .ref (a55 3 k)), (4, .int (nI k)), (3, .int (lz σ k)), (2, .int (fm σ k)), (0, .ref (a55 1 0)), (1, .ref (a55 0 40))] := by rw [ha55 3 k (by omega), ha55 1 0 (by omega), ha55 0 40 (by omega)]; exact hl
        refine lv_dup hx hb dX3_isSame_32 rfl ?_
        refine lv_iconst (v := nI 0) hx hb dX3_isSame_33 rfl ?_
        refine lv_aload hx hb dX3_isSame_34 (lv_at hl 0 rfl) ?_
        refine lk_gf4 hx hb hX4 hown hK hP 3 k (show k < nw by omega) rfl 0 (by decide) f57 rfl dX3_isSame_36 ?_
        refine lk_ist hx hb hK hP hO hS 5 0 (show 0 < 1 by decide) rfl (by omega) (by decide) eT_set dX3_isSame_39 (fun G locs hP hS => ?_)
        refine lv_dup hx hb dX3_isSame_40 rfl ?_
        refine lv_iconst (v := nI 1) hx hb dX3_isSame_41 rfl ?_
        refine lv_aload hx hb dX3_isSame_42 (lv_at hl 0 rfl) ?_
        refine lk_gf4 hx hb hX4 hown hK hP 3 k (show k < nw by omega) rfl 1 (by decide) f60 rfl dX3_isSame_44 ?_
        refine lk_ist hx hb hK hP hO hS 5 0 (show 0 < 1 by decide) rfl (by omega) (by decide) eT_set dX3_isSame_47 (fun G locs hP hS => ?_)
        refine lv_dup hx hb dX3_isSame_48 rfl ?_
        refine lv_iconst (v := nI 2) hx hb dX3_isSame_49 rfl ?_
        refine lv_aload hx hb dX3_isSame_50 (lv_at hl 0 rfl) ?_
        refine lk_gf4 hx hb hX4 hown hK hP 3 k (show k < nw by omega) rfl 2 (by decide) f63 rfl dX3_isSame_52 ?_
        refine lk_ist hx hb hK hP hO hS 5 0 (show 0 < 1 by decide) rfl (by omega) (by decide) eT_set dX3_isSame_55 (fun G locs hP hS => ?_)
        refine lv_dup hx hb dX3_isSame_56 rfl ?_
        refine lv_iconst (v := nI 3) hx hb dX3_isSame_57 rfl ?_
        refine lv_aload hx hb dX3_isSame_58 (lv_at hl 0 rfl) ?_
        refine lk_gf4 hx hb hX4 hown hK hP 3 k (show k < nw by omega) rfl 3 (by decide) f66 rfl dX3_isSame_60 ?_
        refine lk_b01 hx hb dX3_isSame_63 dX3_isSame_66 dX3_isSame_67 dX3_isSame_70 (hz k) ?_
        refine lk_ist hx hb hK hP hO hS 5 0 (show 0 < 1 by decide) rfl (by omega) (by decide) eT_set dX3_isSame_71 (fun G locs hP hS => ?_)
        refine lv_dup hx hb dX3_isSame_72 rfl ?_
        refine lv_iconst (v := nI 4) hx hb dX3_isSame_73 rfl ?_
        refine lv_aload hx hb dX3_isSame_74 (lv_at hl 0 rfl) ?_
        refine lk_gf4 hx hb hX4 hown hK hP 3 k (show k < nw by omega) rfl 4 (by decide) f74 rfl dX3_isSame_76 ?_
        refine lk_ist hx hb hK hP hO hS 5 0 (show 0 < 1 by decide) rfl (by omega) (by decide) eT_set dX3_isSame_79 (fun G locs hP hS => ?_)
        refine lv_dup hx hb dX3_isSame_80 rfl ?_
        refine lv_iconst (v := nI 5) hx hb dX3_isSame_81 rfl ?_
        refine lv_aload hx hb dX3_isSame_82 (lv_at hl 0 rfl) ?_
        refine lk_gf4 hx hb hX4 hown hK hP 3 k (show k < nw by omega) rfl 5 (by decide) f77 rfl dX3_isSame_84 ?_
        refine lk_ist hx hb hK hP hO hS 5 0 (show 0 < 1 by decide) rfl (by omega) (by decide) eT_set dX3_isSame_87 (fun G locs hP hS => ?_)
        refine lv_dup hx hb dX3_isSame_88 rfl ?_
        refine lv_bipush (v := nI 6) hx hb dX3_isSame_89 rfl ?_
        refine lv_aload_n hx hb dX3_isSame_91 rfl (lv_at hl 4 rfl) ?_
        refine lv_aload hx hb dX3_isSame_92 (lv_at hl 0 rfl) ?_
        obtain ⟨q9, hq9, -⟩ := wK_at (M := MS n nw) (a := a55) (e := eL cI cZ cW cO (xC cI cZ (a55 0) n pl nw ns σ u) a55 n nw ns σ η (eup T 0 0 (.inl (cI, 9, .inl (upd (upd (upd (upd (upd (upd (fun _ => 0 : Nat → Int32) 0 (σ 4 k)) 1 (σ 10 k)) 2 (σ 5 k)) 3 (σ 11 k)) 4 (σ 12 k)) 5 (σ 13 k)))))) (c := 1) (i := 0) (show 0 < 10 by decide)
        refine roV (As := [.ref (a55 3 k)]) (q0 := q9) (ci := 3) hx hb hml hown hts (c_X3_beside l D cI cZ cW cO (xC cI cZ (a55 0) n pl nw ns σ u) a55 n nw ns σ η (eup T 0 0 (.inl (cI, 9, .inl (upd (upd (upd (upd (upd (upd (fun _ => 0 : Nat → Int32) 0 (σ 4 k)) 1 (σ 10 k)) 2 (σ 5 k)) 3 (σ 11 k)) 4 (σ 12 k)) 5 (σ 13 k))))) G k A (hO.sub kLS) hB (by omega)) (cwV 1 hts gX3_isSame_X3_beside rfl rfl rfl (by decide +kernel) ⟨by decide, by decide⟩) hK hE (hP.sub (M' := MS n nw) kLS).w rfl rfl hq9 rfl hl.1 rfl (Nat.le_of_ble_eq_true rfl) hS dX3_isSame_94 ⟨show k + 1 ≤ 37 by omega, show 9 * k + 9 ≤ 851 by omega⟩ (fun locs hS => ?_)
        refine lk_ist hx hb hK hP hO hS 5 0 (show 0 < 1 by decide) rfl (by omega) (by decide) eT_set dX3_isSame_97 (fun G locs hP hS => ?_)
        refine lv_dup hx hb dX3_isSame_98 rfl ?_
        refine lv_bipush (v := nI 7) hx hb dX3_isSame_99 rfl ?_
        refine lv_aload hx hb dX3_isSame_101 (lv_at hl 0 rfl) ?_
        refine lk_gf4 hx hb hX4 hown hK hP 3 k (show k < nw by omega) rfl 6 (by decide) f100 rfl dX3_isSame_103 ?_
        refine lk_ist hx hb hK hP hO hS 5 0 (show 0 < 1 by decide) rfl (by omega) (by decide) eT_set dX3_isSame_106 (fun G locs hP hS => ?_)
        refine lv_dup hx hb dX3_isSame_107 rfl ?_
        refine lv_bipush (v := nI 8) hx hb dX3_isSame_108 rfl ?_
        refine lv_aload hx hb dX3_isSame_110 (lv_at hl 0 rfl) ?_
        refine lk_gf4 hx hb hX4 hown hK hP 3 k (show k < nw by omega) rfl 7 (by decide) f90 rfl dX3_isSame_112 ?_
        refine lk_ist hx hb hK hP hO hS 5 0 (show 0 < 1 by decide) rfl (by omega) (by decide) eT_set dX3_isSame_115 (fun G locs hP hS => ?_)
        refine lv_astore (lv' := [(6, .ref (a55 5 0)), (5, .ref (a55 3 k)), (4, .int (nI k)), (3, .int (lz σ k)), (2, .int (fm σ k)), (0, .ref (a55 1 0)), (1, .ref (a55 0 40))]) hx hb dX3_isSame_116 hl (by decide) rfl (fun ls hl => ?_)
        have hP : kP D [41, 10, n, nw, nw, 1] a55 (eL cI cZ cW cO (xC cI cZ (a55 0) n pl nw ns σ u) a55 n nw ns σ η (eup T 0 0 (.inl (cI, 9, .inl (waT nw σ k))))) G := kt_row hP (fun j hj => by rcases (show j = 0 ∨ j = 1 ∨ j = 2 ∨ j = 3 ∨ j = 4 ∨ j = 5 ∨ j = 6 ∨ j = 7 ∨ j = 8 by omega) with rfl | rfl | rfl | rfl | rfl | rfl | rfl | rfl | rfl <;> first | rfl)
        refine lv_iconst (v := nI 0) hx hb dX3_isSame_118 rfl ?_
        refine lv_istore (lv' := [(7, .int (nI 0)), (6, .ref (a55 5 0)), (5, .ref (a55 3 k)), (4, .int (nI k)), (3, .int (lz σ k)), (2, .int (fm σ k)), (0, .ref (a55 1 0)), (1, .ref (a55 0 40))]) hx hb dX3_isSame_119 hl (by decide) rfl (fun ls hl => ?_)
        have L121_56 : ∀ (fuel : Nat) (j : Nat) (u : S3), (9 - j) < fuel → (j ≤ 9) → ∀ (G : Heap) (locs : List Loc), kP D [41, 10, n, nw, nw, 1] a55 (eL cI cZ cW cO (xC cI cZ (a55 0) n pl nw ns σ u) a55 n nw ns σ η (eup T 0 0 (.inl (cI, 9, .inl (waT nw σ k))))) G → va_S A H G locs → ∀ (ls : Array Slot), lv_has ls 12 [(7, .int (nI j)), (6, .ref (a55 5 0)), (5, .ref (a55 3 k)), (4, .int (nI k)), (3, .int (lz σ k)), (2, .int (fm σ k)), (0, .ref (a55 1 0)), (1, .ref (a55 0 40))] → W p l e ({ frames := 7, cells := 37, slots := 851, locals := 104 } : Room) s m args below meth c G locs (k + 1) (9 * k + 9) Q (F0 m 121 ls []) := by
          intro fuel
          induction fuel with
          | zero =>
            intro j u hfuel
            exact absurd hfuel (Nat.not_lt_zero _)
          | succ fuel ih121 =>
            intro j u hfuel121 hj G locs hP hS ls hl
            refine lv_iload hx hb dX3_isSame_121 (lv_at hl 0 rfl) ?_
            refine lv_bipush (v := nI 9) hx hb dX3_isSame_123 rfl ?_
            refine li_ge (tgt := 152) hx hb dX3_isSame_125 (by decide) (by first | omega | (have := hm_le (σ := σ) (nw := nw) (x := nI 1); omega) | (have := kv_le (σ := σ) (nw := nw) (s := sg) (v := nI (v0 + 1)); omega) | (have := kv_le (σ := σ) (nw := nw) (s := sg) (v := nI (mst (fun x => kv σ nw sg (nI x)) (99 - (v0 + 1)))); omega) | (have := mst_le (f := fun x => kv σ nw sg (nI x)) (d := 99 - (v0 + 1)) (by omega); omega)) (by first | omega | (have := hm_le (σ := σ) (nw := nw) (x := nI 1); omega) | (have := kv_le (σ := σ) (nw := nw) (s := sg) (v := nI (v0 + 1)); omega) | (have := kv_le (σ := σ) (nw := nw) (s := sg) (v := nI (mst (fun x => kv σ nw sg (nI x)) (99 - (v0 + 1)))); omega) | (have := mst_le (f := fun x => kv σ nw sg (nI x)) (d := 99 - (v0 + 1)) (by omega); omega)) (fun c57 => ?_) (fun c57 => ?_)
            · skip
              refine lv_iconst (v := nI 0) hx hb dX3_isSame_152 rfl ?_
              refine lv_istore (lv' := [(7, .int (nI 0)), (6, .ref (a55 5 0)), (5, .ref (a55 3 k)), (4, .int (nI k)), (3, .int (lz σ k)), (2, .int (fm σ k)), (0, .ref (a55 1 0)), (1, .ref (a55 0 40))]) hx hb dX3_isSame_153 hl (by decide) rfl (fun ls hl => ?_)
              have L155_58 : ∀ (fuel : Nat) (j : Nat) (u : S3), (ns - j) < fuel → (j ≤ ns) → ∀ (G : Heap) (locs : List Loc), kP D [41, 10, n, nw, nw, 1] a55 (eL cI cZ cW cO (xC cI cZ (a55 0) n pl nw ns σ u) a55 n nw ns σ η (eup T 0 0 (.inl (cI, 9, .inl (waT nw σ k))))) G → va_S A H G locs → ∀ (ls : Array Slot), lv_has ls 12 [(7, .int (nI j)), (6, .ref (a55 5 0)), (5, .ref (a55 3 k)), (4, .int (nI k)), (3, .int (lz σ k)), (2, .int (fm σ k)), (0, .ref (a55 1 0)), (1, .ref (a55 0 40))] → W p l e ({ frames := 7, cells := 37, slots := 851, locals := 104 } : Room) s m args below meth c G locs (k + 1) (9 * k + 9) Q (F0 m 155 ls []) := by
                intro fuel
                induction fuel with
                | zero =>
                  intro j u hfuel
                  exact absurd hfuel (Nat.not_lt_zero _)
                | succ fuel ih155 =>
                  intro j u hfuel155 hj G locs hP hS ls hl
                  refine lv_iload hx hb dX3_isSame_155 (lv_at hl 0 rfl) ?_
                  refine lv_aload_n hx hb dX3_isSame_157 rfl (lv_at hl 6 rfl) ?_
                  refine lk_gf3 hx hb hX3 hown hK hP 1 0 (show 0 < 10 by decide) rfl 4 (by decide) f27 rfl dX3_isSame_158 ?_
                  refine lk_alen hx hb hK hP 1 5 (show 5 < 10 by decide) 0 rfl rfl dX3_isSame_161 ?_
                  refine li_ge (tgt := 192) hx hb dX3_isSame_162 (by decide) (by first | omega | (have := hm_le (σ := σ) (nw := nw) (x := nI 1); omega) | (have := kv_le (σ := σ) (nw := nw) (s := sg) (v := nI (v0 + 1)); omega) | (have := kv_le (σ := σ) (nw := nw) (s := sg) (v := nI (mst (fun x => kv σ nw sg (nI x)) (99 - (v0 + 1)))); omega) | (have := mst_le (f := fun x => kv σ nw sg (nI x)) (d := 99 - (v0 + 1)) (by omega); omega)) (by first | omega | (have := hm_le (σ := σ) (nw := nw) (x := nI 1); omega) | (have := kv_le (σ := σ) (nw := nw) (s := sg) (v := nI (v0 + 1)); omega) | (have := kv_le (σ := σ) (nw := nw) (s := sg) (v := nI (mst (fun x => kv σ nw sg (nI x)) (99 - (v0 + 1)))); omega) | (have := mst_le (f := fun x => kv σ nw sg (nI x)) (d := 99 - (v0 + 1)) (by omega); omega)) (fun c59 => ?_) (fun c59 => ?_)
                  · skip
                    refine lv_aload hx hb dX3_isSame_192 (lv_at hl 2 rfl) ?_
                    refine lk_gf4 hx hb hX4 hown hK hP 3 k (show k < nw by omega) rfl 4 (by decide) f74 rfl dX3_isSame_194 ?_
                    refine lv_iconst (v := nI 1) hx hb dX3_isSame_197 rfl ?_
                    refine lv_icmp_eq (tgt := 204) hx hb dX3_isSame_198 (by decide) (fun c60 => ?_) (fun c60 => ?_)
                    · skip
                      refine lv_iload_n hx hb dX3_isSame_204 rfl (lv_at hl 5 rfl) ?_
                      refine lv_aload hx hb dX3_isSame_205 (lv_at hl 2 rfl) ?_
                      refine lk_gf4 hx hb hX4 hown hK hP 3 k (show k < nw by omega) rfl 5 (by decide) f77 rfl dX3_isSame_207 ?_
                      refine va_mmax hx hb (hml.trans hl.1.symm) hown g14 g15 g16 g17 (by decide) (Nat.le_of_ble_eq_true rfl) (show k + 1 ≤ 37 by omega) (show 9 * k + 9 ≤ 851 by omega) dX3_isSame_210 ?_
                      refine lv_istore_n (lv' := [(2, .int (if fm σ k < σ 13 k then σ 13 k else fm σ k)), (7, .int (nI j)), (6, .ref (a55 5 0)), (5, .ref (a55 3 k)), (4, .int (nI k)), (3, .int (lz σ k)), (0, .ref (a55 1 0)), (1, .ref (a55 0 40))]) hx hb dX3_isSame_213 rfl hl (by decide) rfl (fun ls hl => ?_)
                      refine lv_iload_n hx hb dX3_isSame_214 rfl (lv_at hl 5 rfl) ?_
                      refine lv_aload hx hb dX3_isSame_215 (lv_at hl 3 rfl) ?_
                      refine lk_gf4 hx hb hX4 hown hK hP 3 k (show k < nw by omega) rfl 5 (by decide) f77 rfl dX3_isSame_217 ?_
                      refine va_mmin hx hb (hml.trans hl.1.symm) hown g18 g19 g16 g20 (by decide) (Nat.le_of_ble_eq_true rfl) (show k + 1 ≤ 37 by omega) (show 9 * k + 9 ≤ 851 by omega) dX3_isSame_220 ?_
                      refine lv_istore_n (lv' := [(3, .int (if σ 13 k < lz σ k then σ 13 k else lz σ k)), (2, .int (if fm σ k < σ 13 k then σ 13 k else fm σ k)), (7, .int (nI j)), (6, .ref (a55 5 0)), (5, .ref (a55 3 k)), (4, .int (nI k)), (0, .ref (a55 1 0)), (1, .ref (a55 0 40))]) hx hb dX3_isSame_223 rfl hl (by decide) rfl (fun ls hl => ?_)
                      refine lv_iinc (v := nI (k + 1)) (lv' := [(4, .int (nI (k + 1))), (3, .int (if σ 13 k < lz σ k then σ 13 k else lz σ k)), (2, .int (if fm σ k < σ 13 k then σ 13 k else fm σ k)), (7, .int (nI j)), (6, .ref (a55 5 0)), (5, .ref (a55 3 k)), (0, .ref (a55 1 0)), (1, .ref (a55 0 40))]) hx hb dX3_isSame_224 hl (k := 5) rfl (nI_inc _ _) (by decide) rfl (fun ls hl => ?_)
                      refine lv_goto (tgt := 9) hx hb dX3_isSame_227 (by decide) ?_
                      have hP : kP D [41, 10, n, nw, nw] a55 (eL cI cZ cW cO (xC cI cZ (a55 0) n pl nw ns σ u) a55 n nw ns σ η T) G := kt_drop1 hP
                      have hO : kO A [41, 10, n, nw, nw] a55 := hO.sub kM_drop1
                      refine w_wide (k := (k + 1)) (n := 9 * (k + 1)) (by omega) (by omega) ?_
                      have hl9 : lv_has ls 12 [(4, .int (nI (k + 1))), (3, .int (if σ 13 k < lz σ k then σ 13 k else lz σ k)), (2, .int (if fm σ k < σ 13 k then σ 13 k else fm σ k)), (0, .ref (a55 1 0)), (1, .ref (a55 0 40))] := lv_sub hl [0, 1, 2, 6, 7] rfl
                      have hl9 : lv_has ls 12 [(4, .int (nI (k + 1))), (3, .int (lz σ (k + 1))), (2, .int (if fm σ k < σ 13 k then σ 13 k else fm σ k)), (0, .ref (a55 1 0)), (1, .ref (a55 0 40))] := lv_re hl9 1 rfl (show (if σ 13 k < lz σ k then σ 13 k else lz σ k) = lz σ (k + 1) from by simp [lz, c59, c60])
                      have hl9 : lv_has ls 12 [(4, .int (nI (k + 1))), (3, .int (lz σ (k + 1))), (2, .int (fm σ (k + 1))), (0, .ref (a55 1 0)), (1, .ref (a55 0 40))] := lv_re hl9 2 rfl (show (if fm σ k < σ 13 k then σ 13 k else fm σ k) = fm σ (k + 1) from by simp [fm, c59, c60])
                      exact ih9 (k + 1) a55 u (by omega) (by omega) (hO) G locs hP hS ls hl9
                    · skip
                      refine lv_goto (tgt := 224) hx hb dX3_isSame_201 (by decide) ?_
                      refine lv_iinc (v := nI (k + 1)) (lv' := [(4, .int (nI (k + 1))), (7, .int (nI j)), (6, .ref (a55 5 0)), (5, .ref (a55 3 k)), (3, .int (lz σ k)), (2, .int (fm σ k)), (0, .ref (a55 1 0)), (1, .ref (a55 0 40))]) hx hb dX3_isSame_224 hl (k := 3) rfl (nI_inc _ _) (by decide) rfl (fun ls hl => ?_)
                      refine lv_goto (tgt := 9) hx hb dX3_isSame_227 (by decide) ?_
                      have hP : kP D [41, 10, n, nw, nw] a55 (eL cI cZ cW cO (xC cI cZ (a55 0) n pl nw ns σ u) a55 n nw ns σ η T) G := kt_drop1 hP
                      have hO : kO A [41, 10, n, nw, nw] a55 := hO.sub kM_drop1
                      refine w_wide (k := (k + 1)) (n := 9 * (k + 1)) (by omega) (by omega) ?_
                      have hl9 : lv_has ls 12 [(4, .int (nI (k + 1))), (3, .int (lz σ k)), (2, .int (fm σ k)), (0, .ref (a55 1 0)), (1, .ref (a55 0 40))] := lv_sub hl [0, 4, 5, 6, 7] rfl
                      have hl9 : lv_has ls 12 [(4, .int (nI (k + 1))), (3, .int (lz σ (k + 1))), (2, .int (fm σ k)), (0, .ref (a55 1 0)), (1, .ref (a55 0 40))] := lv_re hl9 1 rfl (show lz σ k = lz σ (k + 1) from by simp [lz, c59, c60])
                      have hl9 : lv_has ls 12 [(4, .int (nI (k + 1))), (3, .int (lz σ (k + 1))), (2, .int (fm σ (k + 1))), (0, .ref (a55 1 0)), (1, .ref (a55 0 40))] := lv_re hl9 2 rfl (show fm σ k = fm σ (k + 1) from by simp [fm, c59, c60])
                      exact ih9 (k + 1) a55 u (by omega) (by omega) (hO) G locs hP hS ls hl9
                  · skip
                    refine lv_aload_n hx hb dX3_isSame_165 rfl (lv_at hl 7 rfl) ?_
                    refine lv_iload hx hb dX3_isSame_166 (lv_at hl 3 rfl) ?_
                    refine lv_iload hx hb dX3_isSame_168 (lv_at hl 0 rfl) ?_
                    refine ayK (As := [.int (nI k), .int (nI j)]) hx hb hml hown hts (c_X2_knows l D cI cZ cW cO (a55 0) n pl nw ns σ u.1 u.2.1 u.2.2 G (nI k) (nI j) (kA [41] a55) (okP_k hO rfl) hBc (kKnow_0 (by omega) (by omega) (by omega) (by omega))) (cwV 2 hts gX3_isSame_X2_knows rfl rfl rfl (by decide +kernel) ⟨by decide, by decide⟩) hK hE hO rfl hP rfl hl.1 rfl (Nat.le_of_ble_eq_true rfl) hS dX3_isSame_170 ⟨show k + 1 ≤ 37 by omega, show 9 * k + 9 ≤ 851 by omega⟩ (fun u61 G locs hP hS => ?_)
                    have hP : kP D [41, 10, n, nw, nw, 1] a55 (eL cI cZ cW cO (xC cI cZ (a55 0) n pl nw ns σ u61) a55 n nw ns σ η (eup T 0 0 (.inl (cI, 9, .inl (waT nw σ k))))) G := hP
                    refine li_topi (x' := σ 16 (6 * k + j)) (vKnow_2 (by omega) (by omega) (by omega) (by omega)) ?_
                    refine lv_aload hx hb dX3_isSame_173 (lv_at hl 2 rfl) ?_
                    refine lk_gf4 hx hb hX4 hown hK hP 3 k (show k < nw by omega) rfl 8 (by decide) f97 rfl dX3_isSame_175 ?_
                    refine lv_iload hx hb dX3_isSame_178 (lv_at hl 0 rfl) ?_
                    refine lk_ild hx hb hK hP 4 k (show k < nw by omega) rfl (by omega) (by decide) dX3_isSame_180 ?_
                    refine li_topi (x' := σ 16 (6 * k + j)) (kn6_at (by omega)) ?_
                    refine lv_icmp_eq (tgt := 186) hx hb dX3_isSame_181 (by decide) (fun c62 => ?_) (fun c62 => ?_)
                    · skip
                      refine lv_iinc (v := nI (j + 1)) (lv' := [(7, .int (nI (j + 1))), (6, .ref (a55 5 0)), (5, .ref (a55 3 k)), (4, .int (nI k)), (3, .int (lz σ k)), (2, .int (fm σ k)), (0, .ref (a55 1 0)), (1, .ref (a55 0 40))]) hx hb dX3_isSame_186 hl (k := 0) rfl (nI_inc _ _) (by decide) rfl (fun ls hl => ?_)
                      refine lv_goto (tgt := 155) hx hb dX3_isSame_189 (by decide) ?_
                      have hl9 : lv_has ls 12 [(7, .int (nI (j + 1))), (6, .ref (a55 5 0)), (5, .ref (a55 3 k)), (4, .int (nI k)), (3, .int (lz σ k)), (2, .int (fm σ k)), (0, .ref (a55 1 0)), (1, .ref (a55 0 40))] := lv_sub hl [0, 1, 2, 3, 4, 5, 6, 7] rfl
                      exact ih155 (j + 1) u61 (by omega) (by omega) G locs hP hS ls hl9
                    · exact absurd rfl c62
              have hl9 : lv_has ls 12 [(7, .int (nI 0)), (6, .ref (a55 5 0)), (5, .ref (a55 3 k)), (4, .int (nI k)), (3, .int (lz σ k)), (2, .int (fm σ k)), (0, .ref (a55 1 0)), (1, .ref (a55 0 40))] := lv_sub hl [0, 1, 2, 3, 4, 5, 6, 7] rfl
              exact L155_58 ((ns - 0) + 1) 0 u (Nat.lt_succ_self _) (by omega) G locs hP hS ls hl9
            · skip
              refine lv_aload_n hx hb dX3_isSame_128 rfl (lv_at hl 7 rfl) ?_
              refine lv_iload hx hb dX3_isSame_129 (lv_at hl 3 rfl) ?_
              refine lv_iload hx hb dX3_isSame_131 (lv_at hl 0 rfl) ?_
              refine ayK (As := [.int (nI k), .int (nI j)]) hx hb hml hown hts (c_X2_walker l D cI cZ cW cO (a55 0) n pl nw ns σ u.1 u.2.1 u.2.2 G (nI k) (nI j) (kA [41] a55) (okP_k hO rfl) hBc (hz) (kTwo_0 (by omega) (by omega) (by omega) (by decide))) (cwV 2 hts gX3_isSame_X2_walker rfl rfl rfl (by decide +kernel) ⟨by decide, by decide⟩) hK hE hO rfl hP rfl hl.1 rfl (Nat.le_of_ble_eq_true rfl) hS dX3_isSame_133 ⟨show k + 1 ≤ 37 by omega, show 9 * k + 9 ≤ 851 by omega⟩ (fun u63 G locs hP hS => ?_)
              have hP : kP D [41, 10, n, nw, nw, 1] a55 (eL cI cZ cW cO (xC cI cZ (a55 0) n pl nw ns σ u63) a55 n nw ns σ η (eup T 0 0 (.inl (cI, 9, .inl (waT nw σ k))))) G := hP
              refine li_topi (x' := waT nw σ k j) (ifk_2 (f := waT nw σ) (by omega) (by omega) (by omega) (by decide)) ?_
              refine lv_aload hx hb dX3_isSame_136 (lv_at hl 1 rfl) ?_
              refine lv_iload hx hb dX3_isSame_138 (lv_at hl 0 rfl) ?_
              refine lk_ild hx hb hK hP 5 0 (show 0 < 1 by decide) rfl (by omega) (by decide) dX3_isSame_140 ?_
              refine lv_icmp_eq (tgt := 146) hx hb dX3_isSame_141 (by decide) (fun c64 => ?_) (fun c64 => ?_)
              · skip
                refine lv_iinc (v := nI (j + 1)) (lv' := [(7, .int (nI (j + 1))), (6, .ref (a55 5 0)), (5, .ref (a55 3 k)), (4, .int (nI k)), (3, .int (lz σ k)), (2, .int (fm σ k)), (0, .ref (a55 1 0)), (1, .ref (a55 0 40))]) hx hb dX3_isSame_146 hl (k := 0) rfl (nI_inc _ _) (by decide) rfl (fun ls hl => ?_)
                refine lv_goto (tgt := 121) hx hb dX3_isSame_149 (by decide) ?_
                have hl9 : lv_has ls 12 [(7, .int (nI (j + 1))), (6, .ref (a55 5 0)), (5, .ref (a55 3 k)), (4, .int (nI k)), (3, .int (lz σ k)), (2, .int (fm σ k)), (0, .ref (a55 1 0)), (1, .ref (a55 0 40))] := lv_sub hl [0, 1, 2, 3, 4, 5, 6, 7] rfl
                exact ih121 (j + 1) u63 (by omega) (by omega) G locs hP hS ls hl9
              · exact absurd rfl c64
        have hl9 : lv_has ls 12 [(7, .int (nI 0)), (6, .ref (a55 5 0)), (5, .ref (a55 3 k)), (4, .int (nI k)), (3, .int (lz σ k)), (2, .int (fm σ k)), (0, .ref (a55 1 0)), (1, .ref (a55 0 40))] := lv_sub hl [0, 1, 2, 3, 4, 5, 6, 7] rfl
        exact L121_56 ((9 - 0) + 1) 0 u (Nat.lt_succ_self _) (by omega) G locs hP hS ls hl9
  refine w_wide (k := 0) (n := 9 * 0) (by omega) (by omega) ?_
  have hl9 : lv_has ls 12 [(4, .int (nI 0)), (3, .int (nI 999)), (2, .int (-1)), (0, .ref (a 1 0)), (1, .ref (a 0 40))] := lv_sub hl [0, 1, 2, 3, 4] rfl
  have hl9 : lv_has ls 12 [(4, .int (nI 0)), (3, .int (lz σ 0)), (2, .int (-1)), (0, .ref (a 1 0)), (1, .ref (a 0 40))] := lv_re hl9 1 rfl (show nI 999 = lz σ 0 from rfl)
  have hl9 : lv_has ls 12 [(4, .int (nI 0)), (3, .int (lz σ 0)), (2, .int (fm σ 0)), (0, .ref (a 1 0)), (1, .ref (a 0 40))] := lv_re hl9 2 rfl (show (-1) = fm σ 0 from rfl)
  exact L9_1 ((nw - 0) + 1) 0 a u (Nat.lt_succ_self _) (by omega) (hO) H locs hP hS ls hl9
