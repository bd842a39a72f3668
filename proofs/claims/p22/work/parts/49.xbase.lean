/-! CONTRACTS OF THE CLASS'S CALLS: they return, or throw one of three exceptions -/
abbrev eA : String := "java/lang/IllegalArgumentException"
abbrev eS : String := "java/lang/IllegalStateException"
abbrev eI : String := "java/lang/IndexOutOfBoundsException"
def xE : List String := [eA, eS, eI]
def xN : List String := ["java/lang/RuntimeException", "java/lang/Exception"]
def xY : List String := ["java/lang/RuntimeException", "java/lang/Exception", "java/lang/Throwable"]
def xM (Y : String) : MethodName := ⟨Y, "<init>", "(Ljava/lang/String;)V"⟩
def xStr : List (Nat × String) := [(30, "length is not 1 to 20, or lets is not 1 to 4"), (44, "there are 10 stretches, or a step has gone by"), (57, "no such steward or stretch"), (64, "step is not 0 to 9"), (66, "wind is not 0 to 9"), (71, "pace is not 1 to 3, wick not 0 to 200, or voice not 0 to 9"), (76, "there are 20 walkers"), (91, "no such walker"), (93, "wick is not 1 to 200"), (98, "this walker is home"), (105, "length is not 1 to 9"), (110, "there are 6 songs"), (119, "no such walker or song"), (121, "version is not 0 to 99"), (129, "no such stretch, or what is not 0 to 5"), (134, "no such walker, or what is not 0 to 8"), (139, "no such song, or what is not 0 to 3"), (153, "steps is not 1 to 200"), (155, "the route has no stretch"), (164, "what is not 0 to 10"), (169, "steps is not 1 to 150"), (171, "what is not 0 to 2"), (187, "steward is not 0 to 1"), (189, "steps is not 1 to 100")]
abbrev S3 : Type := Sg × Sg × Sg
def xBad (E : String) : List Cond := [.castable E E, .declares (xM "java/lang/RuntimeException"), .declares (xM "java/lang/Exception"), .declares (xM "java/lang/Throwable")]
def XT (cls : String) (ik ic : Nat) : Prop := Bundle.fit cls = true ∧ (∀ w ∈ (vx_atS RX2 ic cls xN).filter (fun w => !goodWord w), w ∈ xBad cls) ∧ (∀ w ∈ Cond.classLink RX2 ik cls :: Cond.initialized cls :: vx_atS RX2 ic cls xN, vx_ot w = true) ∧ cls ∈ xE
theorem xt_A : XT eA 28 32 := ⟨by decide +kernel, by decide +kernel, by decide +kernel, by decide +kernel⟩
theorem xt_S : XT eS 42 46 := ⟨by decide +kernel, by decide +kernel, by decide +kernel, by decide +kernel⟩
theorem xt_I : XT eI 55 59 := ⟨by decide +kernel, by decide +kernel, by decide +kernel, by decide +kernel⟩
/-- a call of the class that refuses nothing -/
def ay_Q (D : va_G) (v : Int32) (W9 : S3 → va_W) (A : Nat → Prop) : Array Value → State → Outcome → State → Prop := va_Qi (fun (r : Int32) (_ : S3) => r = v) (fun u t => va_P D vwCl (W9 u) t.heap) A
theorem ay_of {l : Launch} {y : MethodName} {ws ws' : List Cond} {rm : Room} {cc : ByteArray} {maxL : Nat} {av : List Value} {D : va_G} {tys : List (ClassId × FieldType)} {w : va_W} {W9 : S3 → va_W} {K : Nat} {nm : Nat → String} {v : Int32} {A : Nat → Prop} {H : Heap} (hK0 : K = 0) (hy : plainName y.cls = true) (hyc : y.cls = RX2) (hw : ws = Cond.code y cc maxL (some .int) :: ws') (hlen : (lg_sl av).length ≤ maxL)
    (body : ∀ (p : Program) (e : Env) (s : State) (m : MethodId) (args : Array Value) (below : List Frame) (meth : Method) (c : Code) (Q : State → Prop) (ls : Array Slot) (locs : List Loc),
      p.tables.exec = Jvm.exec → c.code = cc → c.maxLocals = maxL → s.vm.findClass y.cls = some m.cls → (∀ w ∈ ws, w.before args s = true) → va_K D vwCl tys s → lwE s → va_P D vwCl w H → lv_has ls maxL (lv_args 0 av) → va_S A H H locs →
      (∀ (pc : Nat) (ls : Array Slot) (H1 : Heap) (locs : List Loc) (u : S3), K = 0 → decode cc pc = .ok (.ireturn, 1) → va_P D vwCl (W9 u) H1 → va_S A H H1 locs → W p l e rm s m args below meth c H1 locs 0 0 Q (F0 m pc ls [.int v])) →
      (∀ (pc : Nat) (ls : Array Slot) (H1 : Heap) (locs : List Loc) (cls text : String) (ik is ic : Nat), ¬ K = 0 → cls = nm K → XT cls ik ic → (Cond.classLink RX2 ik cls).before args s = true → (Cond.initialized cls).before args s = true → (∀ w ∈ (vx_atS RX2 ic cls xN).filter goodWord, w.before args s = true) → (is, text) ∈ xStr → ls.size = maxL →
        decode cc pc = .ok (.new ik, 3) → decode cc (pc + 3) = .ok (.dup, 1) → decode cc (pc + 4) = .ok (.ldc is, 2) → decode cc (pc + 6) = .ok (.invokespecial ic, 3) → decode cc (pc + 9) = .ok (.athrow, 1) → va_P D vwCl w H1 → va_S A H H1 locs → W p l e rm s m args below meth c H1 locs 0 0 Q (F0 m pc ls [])) →
      W p l e rm s m args below meth c H locs 0 0 Q (F0 m 0 ls [])) : Met l y ws rm (ro_P D tys w H av) (ay_Q D v W9 A) 0 0 A := by
  refine Met.ofW (cc := cc) (maxL := maxL) (ret := some .int) hy hw ?_
  intro p e s m args below meth c s₁ B hml hv
  obtain ⟨rfl, rfl, hP, hK, hE⟩ := hv
  have hx := B.exec
  have hb := B.bytes
  have hr := B.returns
  have hts := atoms_spec (ws := ws) B.pre
  have hown : s.vm.findClass y.cls = some m.cls := findClass_of_methodNamed B.named
  have hlocks := B.notSynchronized
  have hl := lv_entry av (n := maxL) hlen
  rw [lg_entry_eq]
  generalize (lg_sl av ++ List.replicate (maxL - (lg_sl av).length) Slot.unset).toArray = ls at hl ⊢
  exact body p e s m _ below meth c _ ls [] hx hb hml hown hts hK hE hP hl va_S.rf (fun pc ls H1 locs u _ hd hP1 hS => W.zret (v := v) hx hb hr rfl (fun t ht hW => ⟨⟨v, u, rfl, rfl, by show va_P D vwCl (W9 u) t.heap; rw [ht]; exact hP1⟩, hS.F ht⟩) hS.2.2 hd hlocks) (fun _ _ _ _ _ _ _ _ _ h => absurd hK0 h)
