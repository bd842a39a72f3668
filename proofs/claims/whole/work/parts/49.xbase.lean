/-! CONTRACTS OF THE CLASS'S CALLS: they return, or throw one of three exceptions -/
abbrev eA : String := "java/lang/IllegalArgumentException"
abbrev eS : String := "java/lang/IllegalStateException"
abbrev eI : String := "java/lang/IndexOutOfBoundsException"
def xE : List String := [eA, eS, eI]
def xN : List String := ["java/lang/RuntimeException", "java/lang/Exception"]
def xY : List String := ["java/lang/RuntimeException", "java/lang/Exception", "java/lang/Throwable"]
def xM (Y : String) : MethodName := ⟨Y, "<init>", "(Ljava/lang/String;)V"⟩
def xStr : List (Nat × String) := [(30, "length is not 1 to 20, or lets is not 1 to 4"), (44, "there are 10 stretches, or a step has gone by"), (57, "no such steward or stretch"), (64, "step is not 0 to 9"), (66, "wind is not 0 to 9"), (71, "pace is not 1 to 3, wick not 0 to 200, or voice not 0 to 9"), (76, "there are 20 walkers"), (91, "no such walker"), (93, "wick is not 1 to 200"), (98, "this walker is home"), (105, "length is not 1 to 9"), (110, "there are 6 songs"), (119, "no such walker or song"), (121, "version is not 0 to 99"), (129, "no such stretch, or what is not 0 to 5"), (134, "no such walker, or what is not 0 to 8"), (139, "no such song, or what is not 0 to 3"), (153, "steps is not 1 to 200"), (155, "the route has no stretch"), (164, "what is not 0 to 10"), (169, "steps is not 1 to 150"), (171, "what is not 0 to 2"), (187, "steward is not 0 to 1"), (189, "steps is not 1 to 100")]
/-- what a throw wants of the state -/
def lwW (U : State) : Prop := (∀ E ∈ xE, va_Nw (.castable E E) U) ∧ (∀ Y ∈ xY, va_Nw (.declares (xM Y)) U) ∧ (∀ E ∈ xE, ∀ F ∈ xE, E ≠ F → va_Nc E F U) ∧ ∀ q ∈ xStr, ∃ sa, vk_R RX2 q.1 q.2 sa U
theorem lwW.warm {s U : State} (hW : s.WarmedH U.vm) (h : lwW s) : lwW U :=
  ⟨fun E hE => va_Nw.warmC hW (h.1 E hE), fun Y hY => va_Nw.warmD hW (h.2.1 Y hY), fun E hE F hF e => (h.2.2.1 E hE F hF e).moved hW.alike, fun q hq => by
    obtain ⟨sa, r⟩ := h.2.2.2 q hq
    exact ⟨sa, r.warm hW⟩⟩
theorem lwW.same {u U : State} (e : u.vm = U.vm) (h : lwW u) : lwW U :=
  ⟨fun E hE => va_Nw.same rfl e (h.1 E hE), fun Y hY => va_Nw.same rfl e (h.2.1 Y hY), fun E hE F hF z => (h.2.2.1 E hE F hF z).moved (by rw [e]; exact Vm.Alike.refl _), fun q hq => by
    obtain ⟨sa, r⟩ := h.2.2.2 q hq
    exact ⟨sa, vk_R.same e.symm r⟩⟩
def lwZ (A : Nat → Prop) (U : State) (H : Heap) : Prop := vx_Zq Bundle.tN "UNASSIGNED_STACK" Bundle.steD A U H ∧ vx_Zq Bundle.tN "SUPPRESSED_SENTINEL" Bundle.listD A U H
def lwT (A : Nat → Prop) (U : State) (H : Heap) : Prop := lwW U ∧ lwZ A U H
theorem lwT.warm {A : Nat → Prop} {H : Heap} {s U : State} (hW : s.WarmedH U.vm) (h : lwT A s H) : lwT A U H := ⟨h.1.warm hW, h.2.1.moved hW.alike, h.2.2.moved hW.alike⟩
theorem lwT.kept {A : Nat → Prop} {H H1 : Heap} {locs : List Loc} {s : State} (h : lwT A s H) (hS : va_S A H H1 locs) : lwT A s H1 := ⟨h.1, h.2.1.kept hS.2.1, h.2.2.kept hS.2.1⟩
def ax_P (D : va_G) (tys : List (ClassId × FieldType)) (w : va_W) (H : Heap) (av : List Value) (A : Nat → Prop) : Array Value → State → Prop := va_Pc av (fun U => U.heap = H ∧ va_P D vwCl w H ∧ va_K D vwCl tys U ∧ lwE U ∧ lwT A U H)
theorem ax_blind {D : va_G} {tys : List (ClassId × FieldType)} {w : va_W} {H : Heap} {av : List Value} {A : Nat → Prop} : FrameBlind (ax_P D tys w H av A) := fun a U g mk q =>
  ⟨q.1, q.2.1, q.2.2.1, va_K.moved (u := U) (U := U.calling g mk a) (Vm.Alike.refl U.vm) q.2.2.2.1, lwE.same (u := U) (U := U.calling g mk a) rfl q.2.2.2.2.1, lwW.same (u := U) (U := U.calling g mk a) rfl q.2.2.2.2.2.1, vx_Zq.moved (u := U) (U := U.calling g mk a) (Vm.Alike.refl U.vm) q.2.2.2.2.2.2.1, vx_Zq.moved (u := U) (U := U.calling g mk a) (Vm.Alike.refl U.vm) q.2.2.2.2.2.2.2⟩
abbrev S3 : Type := Sg × Sg × Sg
def ax_Q (D : va_G) (K : Nat) (v : Int32) (W9 : S3 → va_W) (A : Nat → Prop) : Array Value → State → Outcome → State → Prop := va_Qi (fun (r : Int32) (_ : S3) => K = 0 ∧ r = v) (fun u t => va_P D vwCl (W9 u) t.heap) A
def ax_X (D : va_G) (K : Nat) (nm : Nat → String) (w : va_W) (A : Nat → Prop) : String → State → State → Prop := vx_X (fun (_ : Unit) => ¬ K = 0) (fun E _ t => E = nm K ∧ va_P D vwCl w t.heap) A
def xBad (E : String) : List Cond := [.castable E E, .declares (xM "java/lang/RuntimeException"), .declares (xM "java/lang/Exception"), .declares (xM "java/lang/Throwable")]
def XT (cls : String) (ik ic : Nat) : Prop := Bundle.fit cls = true ∧ (∀ w ∈ (vx_atS RX2 ic cls xN).filter (fun w => !goodWord w), w ∈ xBad cls) ∧ (∀ w ∈ Cond.classLink RX2 ik cls :: Cond.initialized cls :: vx_atS RX2 ic cls xN, vx_ot w = true) ∧ cls ∈ xE
theorem xt_A : XT eA 28 32 := ⟨by decide +kernel, by decide +kernel, by decide +kernel, by decide +kernel⟩
theorem xt_S : XT eS 42 46 := ⟨by decide +kernel, by decide +kernel, by decide +kernel, by decide +kernel⟩
theorem xt_I : XT eI 55 59 := ⟨by decide +kernel, by decide +kernel, by decide +kernel, by decide +kernel⟩
theorem xN_fit : ∀ n ∈ xN, Bundle.fit n = true := by decide +kernel
theorem ax_of {l : Launch} {y : MethodName} {ws ws' : List Cond} {rm : Room} {cc : ByteArray} {maxL : Nat} {av : List Value} {D : va_G} {tys : List (ClassId × FieldType)} {w : va_W} {W9 : S3 → va_W} {K : Nat} {nm : Nat → String} {v : Int32} {A : Nat → Prop} {H : Heap} (hlT : l.stackTraces = false) (hy : plainName y.cls = true) (hyc : y.cls = RX2) (hw : ws = Cond.code y cc maxL (some .int) :: ws') (hlen : (lg_sl av).length ≤ maxL)
    (hfr : 6 ≤ rm.frames) (hlo : 82 ≤ rm.locals) (hce : rm.cells = 1) (hsl : rm.slots = 6)
    (body : ∀ (p : Program) (e : Env) (s : State) (m : MethodId) (args : Array Value) (below : List Frame) (meth : Method) (c : Code) (Q : State → Prop) (ls : Array Slot) (locs : List Loc),
      p.tables.exec = Jvm.exec → c.code = cc → c.maxLocals = maxL → s.vm.findClass y.cls = some m.cls → (∀ w ∈ ws, w.before args s = true) → va_K D vwCl tys s → lwE s → va_P D vwCl w H → lv_has ls maxL (lv_args 0 av) → va_S A H H locs →
      (∀ (pc : Nat) (ls : Array Slot) (H1 : Heap) (locs : List Loc) (u : S3), K = 0 → decode cc pc = .ok (.ireturn, 1) → va_P D vwCl (W9 u) H1 → va_S A H H1 locs → W p l e rm s m args below meth c H1 locs 0 0 Q (F0 m pc ls [.int v])) →
      (∀ (pc : Nat) (ls : Array Slot) (H1 : Heap) (locs : List Loc) (cls text : String) (ik is ic : Nat), ¬ K = 0 → cls = nm K → XT cls ik ic → (Cond.classLink RX2 ik cls).before args s = true → (Cond.initialized cls).before args s = true → (∀ w ∈ (vx_atS RX2 ic cls xN).filter goodWord, w.before args s = true) → (is, text) ∈ xStr → ls.size = maxL →
        decode cc pc = .ok (.new ik, 3) → decode cc (pc + 3) = .ok (.dup, 1) → decode cc (pc + 4) = .ok (.ldc is, 2) → decode cc (pc + 6) = .ok (.invokespecial ic, 3) → decode cc (pc + 9) = .ok (.athrow, 1) → va_P D vwCl w H1 → va_S A H H1 locs → W p l e rm s m args below meth c H1 locs 0 0 Q (F0 m pc ls [])) →
      W p l e rm s m args below meth c H locs 0 0 Q (F0 m 0 ls [])) : vx_Met l y ws rm (ax_P D tys w H av A) (ax_Q D K v W9 A) (ax_X D K nm w A) 1 6 A := by
  refine vx_ofW (cc := cc) (maxL := maxL) (ret := some .int) hy hw ?_
  intro p e s m args below meth c s₁ B hml htab hv
  obtain ⟨rfl, rfl, hP, hK, hE, hT⟩ := hv
  have hx := B.exec
  have hb := B.bytes
  have hr := B.returns
  have hts := atoms_spec (ws := ws) B.pre
  have hown : s.vm.findClass y.cls = some m.cls := findClass_of_methodNamed B.named
  have hlocks := B.notSynchronized
  have hl := lv_entry av (n := maxL) hlen
  rw [lg_entry_eq]
  generalize (lg_sl av ++ List.replicate (maxL - (lg_sl av).length) Slot.unset).toArray = ls at hl ⊢
  refine body p e s m _ below meth c _ ls [] hx hb hml hown hts hK hE hP hl va_S.rf (fun pc ls H1 locs u hK0 hd hP1 hS => vx_ret (w_wide (Nat.zero_le 1) (Nat.zero_le 6) (W.zret (v := v) hx hb hr rfl (fun t ht hW => ⟨⟨v, u, rfl, ⟨hK0, rfl⟩, by show va_P D vwCl (W9 u) t.heap; rw [ht]; exact hP1⟩, hS.F ht⟩) hS.2.2 hd hlocks))) ?_
  intro pc ls H1 locs cls text ik is ic hK0 hcl hXT hk hini hgw hst hsz d0 d3 d4 d6 d9 hP1 hS1
  obtain ⟨sa, hstr⟩ := hT.1.2.2.2 (is, text) hst
  have hat : ∀ w ∈ vx_atS RX2 ic cls xN, w.before av.toArray s = true := vx_hat (B := xBad cls) hgw hXT.2.1 (vx_c (va_Nw.use rfl (hT.1.1 cls hXT.2.2.2)) (vx_c (va_Nw.use rfl (hT.1.2.1 "java/lang/RuntimeException" (by decide))) (vx_c (va_Nw.use rfl (hT.1.2.1 "java/lang/Exception" (by decide))) (vx_c (va_Nw.use rfl (hT.1.2.1 "java/lang/Throwable" (by decide))) vx_n))))
  refine vx_throwS (own := RX2) (names := xN) hx hb hlT (hyc ▸ hown) hXT.1 xN_fit hk hini hstr hat hXT.2.2.1 hT.2.1 hT.2.2 hS1 (hsz.trans hml.symm) d0 d3 d4 d6 d9 (fun x hx => (htab x hx).elim) (by show 2 + 3 < rm.frames; omega) (by show 0 + (13 * (2 + 1) + 43) ≤ rm.locals; omega) (by show 0 + 1 ≤ rm.cells; omega) (by show 0 + 6 ≤ rm.slots; omega) hlocks (fun t hal hsz hkeep => ⟨(), hK0, ⟨hcl, hP1.kept (fun k x hx => hkeep x.1 ((hP1 k x hx).lt))⟩, Nat.le_trans hS1.1 hsz, fun q h1 h2 => (hkeep q (Nat.lt_of_lt_of_le h1 hS1.1)).trans (hS1.2.1 q h1 h2)⟩) hS1.2.2 (by decide) (by decide)
