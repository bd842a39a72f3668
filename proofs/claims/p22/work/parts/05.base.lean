/-! BASE: what every contract of this claim shares: read-only methods, methods that change a world of fixed cells, rows at natural numbers. -/
def lwO (t : FieldType) (U : State) : Prop := (Cond.arrayOver t).before #[] U = true
theorem lwO.alike {t : FieldType} {s U : State} (h : s.vm.Alike U.vm) (q : lwO t s) : lwO t U := by
  have e : (Cond.arrayOver t).before #[] (s.setVm U.vm) = true := by rw [Cond.arrayOver_setVmC h]; exact q
  exact e
theorem lwO.same {t : FieldType} {u U : State} (h : u.vm = U.vm) (q : lwO t u) : lwO t U := lwO.alike (by rw [h]; exact Vm.Alike.refl _) q
theorem lwO.warm {t : FieldType} {s U : State} (hW : s.WarmedH U.vm) (q : lwO t s) : lwO t U := lwO.alike hW.alike q
abbrev tyWk : FieldType := .object "LanternWalkLaw$Walker"
/-- the words that a call within a nest, and rows of references, want -/
def lwE (U : State) : Prop := va_Nw (.methodLinkNest RX0 104 yX2_cellOf RX2) U ∧ va_Nw (.methodLinkNest RX2 9 yX1_init RX2) U ∧ va_Nw (.methodLinkNest RL 11 yX3_init RL) U ∧ va_Nw (.methodLinkNest RX3 56 yX4_init RL) U ∧ lwO (.array .int) U ∧ lwO tyWk U
theorem lwE.same {u U : State} (h : u.vm = U.vm) (q : lwE u) : lwE U := ⟨va_Nw.same rfl h q.1, va_Nw.same rfl h q.2.1, va_Nw.same rfl h q.2.2.1, va_Nw.same rfl h q.2.2.2.1, lwO.same h q.2.2.2.2.1, lwO.same h q.2.2.2.2.2⟩
theorem lwE.warm {s U : State} (hW : s.WarmedH U.vm) (q : lwE s) : lwE U := ⟨va_Nw.warmM hW q.1, va_Nw.warmM hW q.2.1, va_Nw.warmM hW q.2.2.1, va_Nw.warmM hW q.2.2.2.1, lwO.warm hW q.2.2.2.2.1, lwO.warm hW q.2.2.2.2.2⟩
/-- the start of a method: its arguments, the heap by its name, the world -/
def ro_P (D : va_G) (tys : List (ClassId × FieldType)) (w : va_W) (H : Heap) (av : List Value) : Array Value → State → Prop := va_Pc av (fun U => U.heap = H ∧ va_P D vwCl w H ∧ va_K D vwCl tys U ∧ lwE U)
theorem ro_blind {D : va_G} {tys : List (ClassId × FieldType)} {w : va_W} {H : Heap} {av : List Value} : FrameBlind (ro_P D tys w H av) := fun a U g mk q => ⟨q.1, q.2.1, q.2.2.1, va_K.moved (u := U) (U := U.calling g mk a) (Vm.Alike.refl U.vm) q.2.2.2.1, lwE.same (u := U) (U := U.calling g mk a) rfl q.2.2.2.2⟩
/-- the end of a method that changes nothing, with the int v -/
def ro_Q (v : Int32) (H : Heap) : Array Value → State → Outcome → State → Prop := va_Qi (fun (r : Int32) (_ : Unit) => r = v) (fun _ t => t.heap = H) (fun _ => False)
/-- the end of a method that leaves the world w' and answers nothing, or the int v -/
def mu_Q (D : va_G) (w' : va_W) (A : Nat → Prop) : Array Value → State → Outcome → State → Prop := va_Qv (fun (_ : Unit) => True) (fun _ t => va_P D vwCl w' t.heap) A
def mi_Q (D : va_G) (v : Int32) (w' : va_W) (A : Nat → Prop) : Array Value → State → Outcome → State → Prop := va_Qi (fun (r : Int32) (_ : Unit) => r = v) (fun _ t => va_P D vwCl w' t.heap) A
section LWB
variable {l : Launch} {y : MethodName} {ws ws' : List Cond} {rm : Room} {cc : ByteArray} {maxL : Nat} {ty : FieldType} {D : va_G} {tys : List (ClassId × FieldType)} {w w' : va_W} {H : Heap} {av : List Value} {v : Int32} {A : Nat → Prop}
/-- a read-only method, from its body -/
theorem ro_of (hy : plainName y.cls = true) (hw : ws = Cond.code y cc maxL (some ty) :: ws') (hlen : (lg_sl av).length ≤ maxL) (hn : narrow ty (.int v) = .int v)
    (body : ∀ (p : Program) (e : Env) (s : State) (m : MethodId) (args : Array Value) (below : List Frame) (meth : Method) (c : Code) (Q : State → Prop) (ls : Array Slot) (locs : List Loc),
      p.tables.exec = Jvm.exec → c.code = cc → c.maxLocals = maxL → s.vm.findClass y.cls = some m.cls → (∀ w ∈ ws, w.before args s = true) → va_K D vwCl tys s → lwE s → va_P D vwCl w H → lv_has ls maxL (lv_args 0 av) → va_S (fun _ => False) H H locs →
      (∀ (pc : Nat) (ls : Array Slot) (locs : List Loc), decode cc pc = .ok (.ireturn, 1) → va_S (fun _ => False) H H locs → W p l e rm s m args below meth c H locs 0 0 Q (F0 m pc ls [.int v])) →
      W p l e rm s m args below meth c H locs 0 0 Q (F0 m 0 ls [])) : Met l y ws rm (ro_P D tys w H av) (ro_Q v H) 0 0 (fun _ => False) := by
  refine Met.ofW (cc := cc) (maxL := maxL) (ret := some ty) hy hw ?_
  intro p e s m args below meth c s₁ B hml hv
  obtain ⟨rfl, rfl, hP, hK, hE⟩ := hv
  have hx := B.exec
  have hb := B.bytes
  have hr := B.returns
  have hts := atoms_spec (ws := ws) B.pre
  have hown : s.vm.findClass y.cls = some m.cls := findClass_of_methodNamed B.named
  have hlocks := B.notSynchronized
  have hl := lv_entry av (n := maxL) hlen
  rw [lg_entry_eq]
  generalize (lg_sl av ++ List.replicate (maxL - (lg_sl av).length) Slot.unset).toArray = ls at hl ⊢
  exact body p e s m _ below meth c _ ls [] hx hb hml hown hts hK hE hP hl va_S.rf (fun pc ls locs hd hS => W.zret (v := v) hx hb hr hn (fun t ht hW => ⟨⟨v, (), rfl, rfl, ht⟩, hS.F ht⟩) hS.2.2 hd hlocks)
/-- a method that changes its world and answers nothing -/
theorem mu_of (hy : plainName y.cls = true) (hw : ws = Cond.code y cc maxL none :: ws') (hlen : (lg_sl av).length ≤ maxL)
    (body : ∀ (p : Program) (e : Env) (s : State) (m : MethodId) (args : Array Value) (below : List Frame) (meth : Method) (c : Code) (Q : State → Prop) (ls : Array Slot) (locs : List Loc),
      p.tables.exec = Jvm.exec → c.code = cc → c.maxLocals = maxL → s.vm.findClass y.cls = some m.cls → (∀ w ∈ ws, w.before args s = true) → va_K D vwCl tys s → lwE s → va_P D vwCl w H → lv_has ls maxL (lv_args 0 av) → va_S A H H locs →
      (∀ (pc : Nat) (ls : Array Slot) (H1 : Heap) (locs : List Loc), decode cc pc = .ok (.return_, 1) → va_P D vwCl w' H1 → va_S A H H1 locs → W p l e rm s m args below meth c H1 locs 0 0 Q (F0 m pc ls [])) →
      W p l e rm s m args below meth c H locs 0 0 Q (F0 m 0 ls [])) : Met l y ws rm (ro_P D tys w H av) (mu_Q D w' A) 0 0 A := by
  refine Met.ofW (cc := cc) (maxL := maxL) (ret := none) hy hw ?_
  intro p e s m args below meth c s₁ B hml hv
  obtain ⟨rfl, rfl, hP, hK, hE⟩ := hv
  have hx := B.exec
  have hb := B.bytes
  have hr := B.returns
  have hts := atoms_spec (ws := ws) B.pre
  have hown : s.vm.findClass y.cls = some m.cls := findClass_of_methodNamed B.named
  have hlocks := B.notSynchronized
  have hl := lv_entry av (n := maxL) hlen
  rw [lg_entry_eq]
  generalize (lg_sl av ++ List.replicate (maxL - (lg_sl av).length) Slot.unset).toArray = ls at hl ⊢
  exact body p e s m _ below meth c _ ls [] hx hb hml hown hts hK hE hP hl va_S.rf (fun pc ls H1 locs hd hP1 hS => W.vret hx hb hr (fun t ht hW => ⟨⟨(), rfl, trivial, by show va_P D vwCl w' t.heap; rw [ht]; exact hP1⟩, hS.F ht⟩) hS.2.2 hd hlocks)
/-- a method that changes its world and answers an int -/
theorem mi_of (hy : plainName y.cls = true) (hw : ws = Cond.code y cc maxL (some ty) :: ws') (hlen : (lg_sl av).length ≤ maxL) (hn : narrow ty (.int v) = .int v)
    (body : ∀ (p : Program) (e : Env) (s : State) (m : MethodId) (args : Array Value) (below : List Frame) (meth : Method) (c : Code) (Q : State → Prop) (ls : Array Slot) (locs : List Loc),
      p.tables.exec = Jvm.exec → c.code = cc → c.maxLocals = maxL → s.vm.findClass y.cls = some m.cls → (∀ w ∈ ws, w.before args s = true) → va_K D vwCl tys s → lwE s → va_P D vwCl w H → lv_has ls maxL (lv_args 0 av) → va_S A H H locs →
      (∀ (pc : Nat) (ls : Array Slot) (H1 : Heap) (locs : List Loc), decode cc pc = .ok (.ireturn, 1) → va_P D vwCl w' H1 → va_S A H H1 locs → W p l e rm s m args below meth c H1 locs 0 0 Q (F0 m pc ls [.int v])) →
      W p l e rm s m args below meth c H locs 0 0 Q (F0 m 0 ls [])) : Met l y ws rm (ro_P D tys w H av) (mi_Q D v w' A) 0 0 A := by
  refine Met.ofW (cc := cc) (maxL := maxL) (ret := some ty) hy hw ?_
  intro p e s m args below meth c s₁ B hml hv
  obtain ⟨rfl, rfl, hP, hK, hE⟩ := hv
  have hx := B.exec
  have hb := B.bytes
  have hr := B.returns
  have hts := atoms_spec (ws := ws) B.pre
  have hown : s.vm.findClass y.cls = some m.cls := findClass_of_methodNamed B.named
  have hlocks := B.notSynchronized
  have hl := lv_entry av (n := maxL) hlen
  rw [lg_entry_eq]
  generalize (lg_sl av ++ List.replicate (maxL - (lg_sl av).length) Slot.unset).toArray = ls at hl ⊢
  exact body p e s m _ below meth c _ ls [] hx hb hml hown hts hK hE hP hl va_S.rf (fun pc ls H1 locs hd hP1 hS => W.zret (v := v) hx hb hr hn (fun t ht hW => ⟨⟨v, (), rfl, rfl, by show va_P D vwCl w' t.heap; rw [ht]; exact hP1⟩, hS.F ht⟩) hS.2.2 hd hlocks)
end LWB
section LWR
variable {p : Program} {l : Launch} {e : Env} {R : Room} {s : State} {m : MethodId} {args : Array Value} {below : List Frame} {meth : Method} {c : Code} {H : Heap} {locs : List Loc} {cells slots : Nat} {Q : State → Prop}
variable {cc : ByteArray} {pc : Nat} {ls : Array Slot} {rest st0 : List Value} {D : va_G} {tys : List (ClassId × FieldType)} {w w' : va_W} {A A0 A1 : Nat → Prop} {H0 : Heap} {b : Nat}
theorem li_topi {x x' : Int32} (h : x = x') (k : W p l e R s m args below meth c H locs cells slots Q (F0 m pc ls (.int x' :: rest))) : W p l e R s m args below meth c H locs cells slots Q (F0 m pc ls (.int x :: rest)) := by rw [h]; exact k
theorem li_nC {k : Nat} (h : k < 2 ^ 31) : (nI k).toNatClampNeg = k := nI_clamp h
/-- reading a row of ints, or of booleans, at a natural number -/
theorem li_ild (hx : p.tables.exec = Jvm.exec) (hb : c.code = cc) (hK : va_K D vwCl tys s) (hP : va_P D vwCl w H) (q0 t0 : Nat) {cA : ClassId} {n : Nat} {f : Nat → Int32} (ha : w[q0]? = some (b, .inl (cA, n, .inl f))) (ht : tys[t0]? = some (cA, .int)) {i : Nat} (hi : i < n) (hn : n ≤ 200) (hdg : decode cc pc = .ok (.iaload, 1))
    (kk : W p l e R s m args below meth c H locs cells slots Q (F0 m (pc + 1) ls (.int (f i) :: rest))) : W p l e R s m args below meth c H locs cells slots Q (F0 m pc ls (.int (nI i) :: .ref b :: rest)) := by
  refine va_iald hx hb hK hP q0 t0 ha ht (vp_in_nI hi (by omega)) hdg ?_
  rw [li_nC (by omega)]
  exact kk
theorem li_zld (hx : p.tables.exec = Jvm.exec) (hb : c.code = cc) (hK : va_K D vwCl tys s) (hP : va_P D vwCl w H) (q0 t0 : Nat) {cA : ClassId} {n : Nat} {f : Nat → Int32} (ha : w[q0]? = some (b, .inl (cA, n, .inl f))) (ht : tys[t0]? = some (cA, .boolean)) {i : Nat} (hi : i < n) (hn : n ≤ 200) (hdg : decode cc pc = .ok (.baload, 1))
    (kk : W p l e R s m args below meth c H locs cells slots Q (F0 m (pc + 1) ls (.int (f i) :: rest))) : W p l e R s m args below meth c H locs cells slots Q (F0 m pc ls (.int (nI i) :: .ref b :: rest)) := by
  refine va_zald hx hb hK hP q0 t0 ha ht (vp_in_nI hi (by omega)) hdg ?_
  rw [li_nC (by omega)]
  exact kk
theorem li_ist (hx : p.tables.exec = Jvm.exec) (hb : c.code = cc) (hK : va_K D vwCl tys s) (hP : va_P D vwCl w H) (hD : va_D A w) (hS : va_S A H0 H locs) (q0 t0 : Nat) {cA : ClassId} {n : Nat} {f : Nat → Int32} (ha : w[q0]? = some (b, .inl (cA, n, .inl f))) (ht : tys[t0]? = some (cA, .int)) {i : Nat} {x : Int32} (hi : i < n) (hn : n ≤ 200) (hw : w.set q0 (b, .inl (cA, n, .inl (upd f i x))) = w') (hdg : decode cc pc = .ok (.iastore, 1))
    (kk : ∀ (H1 : Heap) (locs1 : List Loc), va_P D vwCl w' H1 → va_S A H0 H1 locs1 → W p l e R s m args below meth c H1 locs1 cells slots Q (F0 m (pc + 1) ls rest)) : W p l e R s m args below meth c H locs cells slots Q (F0 m pc ls (.int x :: .int (nI i) :: .ref b :: rest)) := by
  refine va_iast hx hb hK hP hD hS q0 t0 ha ht (vp_in_nI hi (by omega)) hdg (fun H1 locs1 h1 _ h3 => ?_)
  rw [li_nC (by omega), hw] at h1
  exact kk H1 locs1 h1 h3
theorem li_zst (hx : p.tables.exec = Jvm.exec) (hb : c.code = cc) (hK : va_K D vwCl tys s) (hP : va_P D vwCl w H) (hD : va_D A w) (hS : va_S A H0 H locs) (q0 t0 : Nat) {cA : ClassId} {n : Nat} {f : Nat → Int32} (ha : w[q0]? = some (b, .inl (cA, n, .inl f))) (ht : tys[t0]? = some (cA, .boolean)) {i : Nat} {x : Int32} (hi : i < n) (hn : n ≤ 200) (hx1 : vp_nar .boolean x = x) (hw : w.set q0 (b, .inl (cA, n, .inl (upd f i x))) = w') (hdg : decode cc pc = .ok (.bastore, 1))
    (kk : ∀ (H1 : Heap) (locs1 : List Loc), va_P D vwCl w' H1 → va_S A H0 H1 locs1 → W p l e R s m args below meth c H1 locs1 cells slots Q (F0 m (pc + 1) ls rest)) : W p l e R s m args below meth c H locs cells slots Q (F0 m pc ls (.int x :: .int (nI i) :: .ref b :: rest)) := by
  refine va_zast hx hb hK hP hD hS q0 t0 ha ht (vp_in_nI hi (by omega)) hdg (fun H1 locs1 h1 _ h3 => ?_)
  rw [li_nC (by omega), hx1, hw] at h1
  exact kk H1 locs1 h1 h3
theorem li_alen (hx : p.tables.exec = Jvm.exec) (hb : c.code = cc) (hK : va_K D vwCl tys s) (hP : va_P D vwCl w H) (q0 t0 : Nat) {cA : ClassId} {n : Nat} {f : (Nat → Int32) ⊕ (Nat → Int64) ⊕ (Nat → UInt32) ⊕ (Nat → UInt64) ⊕ (Nat → Option Nat)} (ha : w[q0]? = some (b, .inl (cA, n, f))) {ty : FieldType} (ht : tys[t0]? = some (cA, ty)) (hdg : decode cc pc = .ok (.arraylength, 1))
    (kk : W p l e R s m args below meth c H locs cells slots Q (F0 m (pc + 1) ls (.int (nI n) :: rest))) : W p l e R s m args below meth c H locs cells slots Q (F0 m pc ls (.ref b :: rest)) := va_alen hx hb hK hP q0 t0 ha ht rfl hdg kk
/-- comparisons of natural numbers -/
theorem li_ge (hx : p.tables.exec = Jvm.exec) (hb : c.code = cc) {i j : Nat} {off : Int} {tgt : Nat} (hdg : decode cc pc = .ok (.if_icmp .ge off, 3)) (ht : (pc : Int) + off = (tgt : Int)) (hi : i < 2 ^ 31) (hj : j < 2 ^ 31)
    (kt : j ≤ i → W p l e R s m args below meth c H locs cells slots Q (F0 m tgt ls rest)) (kf : i < j → W p l e R s m args below meth c H locs cells slots Q (F0 m (pc + 3) ls rest)) : W p l e R s m args below meth c H locs cells slots Q (F0 m pc ls (.int (nI j) :: .int (nI i) :: rest)) :=
  lv_icmp_ge hx hb hdg ht (fun h => kt ((nI_leI hj hi).mp h)) (fun h => kf (Nat.lt_of_not_le (fun q => h ((nI_leI hj hi).mpr q))))
theorem li_gt (hx : p.tables.exec = Jvm.exec) (hb : c.code = cc) {i j : Nat} {off : Int} {tgt : Nat} (hdg : decode cc pc = .ok (.if_icmp .gt off, 3)) (ht : (pc : Int) + off = (tgt : Int)) (hi : i < 2 ^ 31) (hj : j < 2 ^ 31)
    (kt : j < i → W p l e R s m args below meth c H locs cells slots Q (F0 m tgt ls rest)) (kf : i ≤ j → W p l e R s m args below meth c H locs cells slots Q (F0 m (pc + 3) ls rest)) : W p l e R s m args below meth c H locs cells slots Q (F0 m pc ls (.int (nI j) :: .int (nI i) :: rest)) :=
  lv_icmp_gt hx hb hdg ht (fun h => kt ((nI_ltI hj hi).mp h)) (fun h => kf (Nat.le_of_not_lt (fun q => h ((nI_ltI hj hi).mpr q))))
theorem li_lt (hx : p.tables.exec = Jvm.exec) (hb : c.code = cc) {i j : Nat} {off : Int} {tgt : Nat} (hdg : decode cc pc = .ok (.if_icmp .lt off, 3)) (ht : (pc : Int) + off = (tgt : Int)) (hi : i < 2 ^ 31) (hj : j < 2 ^ 31)
    (kt : i < j → W p l e R s m args below meth c H locs cells slots Q (F0 m tgt ls rest)) (kf : j ≤ i → W p l e R s m args below meth c H locs cells slots Q (F0 m (pc + 3) ls rest)) : W p l e R s m args below meth c H locs cells slots Q (F0 m pc ls (.int (nI j) :: .int (nI i) :: rest)) :=
  lv_icmp_lt hx hb hdg ht (fun h => kt ((nI_ltI hi hj).mp h)) (fun h => kf (Nat.le_of_not_lt (fun q => h ((nI_ltI hi hj).mpr q))))
theorem li_le (hx : p.tables.exec = Jvm.exec) (hb : c.code = cc) {i j : Nat} {off : Int} {tgt : Nat} (hdg : decode cc pc = .ok (.if_icmp .le off, 3)) (ht : (pc : Int) + off = (tgt : Int)) (hi : i < 2 ^ 31) (hj : j < 2 ^ 31)
    (kt : i ≤ j → W p l e R s m args below meth c H locs cells slots Q (F0 m tgt ls rest)) (kf : j < i → W p l e R s m args below meth c H locs cells slots Q (F0 m (pc + 3) ls rest)) : W p l e R s m args below meth c H locs cells slots Q (F0 m pc ls (.int (nI j) :: .int (nI i) :: rest)) :=
  lv_icmp_le hx hb hdg ht (fun h => kt ((nI_leI hi hj).mp h)) (fun h => kf (Nat.lt_of_not_le (fun q => h ((nI_leI hi hj).mpr q))))
theorem li_eq (hx : p.tables.exec = Jvm.exec) (hb : c.code = cc) {i j : Nat} {off : Int} {tgt : Nat} (hdg : decode cc pc = .ok (.if_icmp .eq off, 3)) (ht : (pc : Int) + off = (tgt : Int)) (hi : i < 2 ^ 31) (hj : j < 2 ^ 31)
    (kt : i = j → W p l e R s m args below meth c H locs cells slots Q (F0 m tgt ls rest)) (kf : i ≠ j → W p l e R s m args below meth c H locs cells slots Q (F0 m (pc + 3) ls rest)) : W p l e R s m args below meth c H locs cells slots Q (F0 m pc ls (.int (nI j) :: .int (nI i) :: rest)) :=
  lv_icmp_eq hx hb hdg ht (fun h => kt ((nI_eq hi hj).mp h)) (fun h => kf (fun q => h ((nI_eq hi hj).mpr q)))
theorem li_ne (hx : p.tables.exec = Jvm.exec) (hb : c.code = cc) {i j : Nat} {off : Int} {tgt : Nat} (hdg : decode cc pc = .ok (.if_icmp .ne off, 3)) (ht : (pc : Int) + off = (tgt : Int)) (hi : i < 2 ^ 31) (hj : j < 2 ^ 31)
    (kt : i ≠ j → W p l e R s m args below meth c H locs cells slots Q (F0 m tgt ls rest)) (kf : i = j → W p l e R s m args below meth c H locs cells slots Q (F0 m (pc + 3) ls rest)) : W p l e R s m args below meth c H locs cells slots Q (F0 m pc ls (.int (nI j) :: .int (nI i) :: rest)) :=
  lv_icmp_ne hx hb hdg ht (fun h => kt (fun q => h ((nI_eq hi hj).mpr q))) (fun h => kf ((nI_eq hi hj).mp h))
/-- fields -/
theorem li_gf0 (hx : p.tables.exec = Jvm.exec) (hb : c.code = cc) {own : String} {index : Nat} (h0 : ∀ w ∈ wsX00, w.before args s = true) (hown : s.vm.findClass own = some m.cls) (hK : va_K D vwCl tys s) (hP : va_P D vwCl w H) (q0 : Nat) {fs : List Value} (he : w[q0]? = some (b, .inr (0, fs))) (k : Nat) (hk : k < 17) (hlink : (Cond.fieldLink own index (TX0 k).1 (TX0 k).2.1 (TX0 k).2.2.1).before args s = true) {v : Value} (hv : fs[k]? = some v) (hdg : decode cc pc = .ok (.getfield index, 3))
    (kk : W p l e R s m args below meth c H locs cells slots Q (F0 m (pc + 3) ls (v :: rest))) : W p l e R s m args below meth c H locs cells slots Q (F0 m pc ls (.ref b :: rest)) :=
  va_get (ci := 0) (C := RX0) (T := TX0) (N := 17) hx hb h0 (fun _ h => h) hown hK hP q0 he rfl k hk hlink (fun _ h => h) hv hdg kk
theorem li_gf1 (hx : p.tables.exec = Jvm.exec) (hb : c.code = cc) {own : String} {index : Nat} (h0 : ∀ w ∈ wsX10, w.before args s = true) (hown : s.vm.findClass own = some m.cls) (hK : va_K D vwCl tys s) (hP : va_P D vwCl w H) (q0 : Nat) {fs : List Value} (he : w[q0]? = some (b, .inr (1, fs))) (k : Nat) (hk : k < 11) (hlink : (Cond.fieldLink own index (TX1 k).1 (TX1 k).2.1 (TX1 k).2.2.1).before args s = true) {v : Value} (hv : fs[k]? = some v) (hdg : decode cc pc = .ok (.getfield index, 3))
    (kk : W p l e R s m args below meth c H locs cells slots Q (F0 m (pc + 3) ls (v :: rest))) : W p l e R s m args below meth c H locs cells slots Q (F0 m pc ls (.ref b :: rest)) :=
  va_get (ci := 1) (C := RX1) (T := TX1) (N := 11) hx hb h0 (fun _ h => h) hown hK hP q0 he rfl k hk hlink (fun _ h => h) hv hdg kk
theorem li_gf2 (hx : p.tables.exec = Jvm.exec) (hb : c.code = cc) {own : String} {index : Nat} (h0 : ∀ w ∈ wsX20, w.before args s = true) (hown : s.vm.findClass own = some m.cls) (hK : va_K D vwCl tys s) (hP : va_P D vwCl w H) (q0 : Nat) {fs : List Value} (he : w[q0]? = some (b, .inr (2, fs))) (k : Nat) (hk : k < 3) (hlink : (Cond.fieldLink own index (TX2 k).1 (TX2 k).2.1 (TX2 k).2.2.1).before args s = true) {v : Value} (hv : fs[k]? = some v) (hdg : decode cc pc = .ok (.getfield index, 3))
    (kk : W p l e R s m args below meth c H locs cells slots Q (F0 m (pc + 3) ls (v :: rest))) : W p l e R s m args below meth c H locs cells slots Q (F0 m pc ls (.ref b :: rest)) :=
  va_get (ci := 2) (C := RX2) (T := TX2) (N := 3) hx hb h0 (fun _ h => h) hown hK hP q0 he rfl k hk hlink (fun _ h => h) hv hdg kk
theorem li_pf0 (hx : p.tables.exec = Jvm.exec) (hb : c.code = cc) {own : String} {index : Nat} (h0 : ∀ w ∈ wsX00, w.before args s = true) (hown : s.vm.findClass own = some m.cls) (hK : va_K D vwCl tys s) (hP : va_P D vwCl w H) (hD : va_D A w) (hS : va_S A H0 H locs) (q0 : Nat) {fs : List Value} (he : w[q0]? = some (b, .inr (0, fs))) (k : Nat) (hk : k < 17) (hlink : (Cond.fieldLink own index (TX0 k).1 (TX0 k).2.1 (TX0 k).2.2.1).before args s = true) (hfin : (TX0 k).2.2.2 = false) {v : Value} (hn : narrow (tyX0 k) v = v) (hfit : fits (tyX0 k) v = true) (hl : k < fs.length) (hw : w.set q0 (b, .inr (0, fs.set k v)) = w') (hdg : decode cc pc = .ok (.putfield index, 3))
    (kk : ∀ (H1 : Heap) (locs1 : List Loc), va_P D vwCl w' H1 → va_S A H0 H1 locs1 → W p l e R s m args below meth c H1 locs1 cells slots Q (F0 m (pc + 3) ls rest)) : W p l e R s m args below meth c H locs cells slots Q (F0 m pc ls (v :: .ref b :: rest)) := by
  refine va_put (ci := 0) (C := RX0) (T := TX0) (N := 17) hx hb h0 (fun _ h => h) tyX0 tyX0_ok nmX0 hown hK hP hD hS q0 he rfl k hk hlink (fun _ h => h) hfin (tyX0_ok k hk) hn hfit hl hdg (fun H1 locs1 h1 _ h3 => ?_)
  rw [hw] at h1
  exact kk H1 locs1 h1 h3
theorem li_pf1 (hx : p.tables.exec = Jvm.exec) (hb : c.code = cc) {own : String} {index : Nat} (h0 : ∀ w ∈ wsX10, w.before args s = true) (hown : s.vm.findClass own = some m.cls) (hK : va_K D vwCl tys s) (hP : va_P D vwCl w H) (hD : va_D A w) (hS : va_S A H0 H locs) (q0 : Nat) {fs : List Value} (he : w[q0]? = some (b, .inr (1, fs))) (k : Nat) (hk : k < 11) (hlink : (Cond.fieldLink own index (TX1 k).1 (TX1 k).2.1 (TX1 k).2.2.1).before args s = true) (hfin : (TX1 k).2.2.2 = false) {v : Value} (hn : narrow (tyX1 k) v = v) (hfit : fits (tyX1 k) v = true) (hl : k < fs.length) (hw : w.set q0 (b, .inr (1, fs.set k v)) = w') (hdg : decode cc pc = .ok (.putfield index, 3))
    (kk : ∀ (H1 : Heap) (locs1 : List Loc), va_P D vwCl w' H1 → va_S A H0 H1 locs1 → W p l e R s m args below meth c H1 locs1 cells slots Q (F0 m (pc + 3) ls rest)) : W p l e R s m args below meth c H locs cells slots Q (F0 m pc ls (v :: .ref b :: rest)) := by
  refine va_put (ci := 1) (C := RX1) (T := TX1) (N := 11) hx hb h0 (fun _ h => h) tyX1 tyX1_ok nmX1 hown hK hP hD hS q0 he rfl k hk hlink (fun _ h => h) hfin (tyX1_ok k hk) hn hfit hl hdg (fun H1 locs1 h1 _ h3 => ?_)
  rw [hw] at h1
  exact kk H1 locs1 h1 h3
theorem li_gf3 (hx : p.tables.exec = Jvm.exec) (hb : c.code = cc) {own : String} {index : Nat} (h0 : ∀ w ∈ wsX30, w.before args s = true) (hown : s.vm.findClass own = some m.cls) (hK : va_K D vwCl tys s) (hP : va_P D vwCl w H) (q0 : Nat) {fs : List Value} (he : w[q0]? = some (b, .inr (3, fs))) (k : Nat) (hk : k < 10) (hlink : (Cond.fieldLink own index (TX3 k).1 (TX3 k).2.1 (TX3 k).2.2.1).before args s = true) {v : Value} (hv : fs[k]? = some v) (hdg : decode cc pc = .ok (.getfield index, 3))
    (kk : W p l e R s m args below meth c H locs cells slots Q (F0 m (pc + 3) ls (v :: rest))) : W p l e R s m args below meth c H locs cells slots Q (F0 m pc ls (.ref b :: rest)) :=
  va_get (ci := 3) (C := RX3) (T := TX3) (N := 10) hx hb h0 (fun _ h => h) hown hK hP q0 he rfl k hk hlink (fun _ h => h) hv hdg kk
theorem li_pf3 (hx : p.tables.exec = Jvm.exec) (hb : c.code = cc) {own : String} {index : Nat} (h0 : ∀ w ∈ wsX30, w.before args s = true) (hown : s.vm.findClass own = some m.cls) (hK : va_K D vwCl tys s) (hP : va_P D vwCl w H) (hD : va_D A w) (hS : va_S A H0 H locs) (q0 : Nat) {fs : List Value} (he : w[q0]? = some (b, .inr (3, fs))) (k : Nat) (hk : k < 10) (hlink : (Cond.fieldLink own index (TX3 k).1 (TX3 k).2.1 (TX3 k).2.2.1).before args s = true) (hfin : (TX3 k).2.2.2 = false) {v : Value} (hn : narrow (tyX3 k) v = v) (hfit : fits (tyX3 k) v = true) (hl : k < fs.length) (hw : w.set q0 (b, .inr (3, fs.set k v)) = w') (hdg : decode cc pc = .ok (.putfield index, 3))
    (kk : ∀ (H1 : Heap) (locs1 : List Loc), va_P D vwCl w' H1 → va_S A H0 H1 locs1 → W p l e R s m args below meth c H1 locs1 cells slots Q (F0 m (pc + 3) ls rest)) : W p l e R s m args below meth c H locs cells slots Q (F0 m pc ls (v :: .ref b :: rest)) := by
  refine va_put (ci := 3) (C := RX3) (T := TX3) (N := 10) hx hb h0 (fun _ h => h) tyX3 tyX3_ok nmX3 hown hK hP hD hS q0 he rfl k hk hlink (fun _ h => h) hfin (tyX3_ok k hk) hn hfit hl hdg (fun H1 locs1 h1 _ h3 => ?_)
  rw [hw] at h1
  exact kk H1 locs1 h1 h3
theorem li_gf4 (hx : p.tables.exec = Jvm.exec) (hb : c.code = cc) {own : String} {index : Nat} (h0 : ∀ w ∈ wsX40, w.before args s = true) (hown : s.vm.findClass own = some m.cls) (hK : va_K D vwCl tys s) (hP : va_P D vwCl w H) (q0 : Nat) {fs : List Value} (he : w[q0]? = some (b, .inr (4, fs))) (k : Nat) (hk : k < 9) (hlink : (Cond.fieldLink own index (TX4 k).1 (TX4 k).2.1 (TX4 k).2.2.1).before args s = true) {v : Value} (hv : fs[k]? = some v) (hdg : decode cc pc = .ok (.getfield index, 3))
    (kk : W p l e R s m args below meth c H locs cells slots Q (F0 m (pc + 3) ls (v :: rest))) : W p l e R s m args below meth c H locs cells slots Q (F0 m pc ls (.ref b :: rest)) :=
  va_get (ci := 4) (C := RX4) (T := TX4) (N := 9) hx hb h0 (fun _ h => h) hown hK hP q0 he rfl k hk hlink (fun _ h => h) hv hdg kk
theorem li_pf4 (hx : p.tables.exec = Jvm.exec) (hb : c.code = cc) {own : String} {index : Nat} (h0 : ∀ w ∈ wsX40, w.before args s = true) (hown : s.vm.findClass own = some m.cls) (hK : va_K D vwCl tys s) (hP : va_P D vwCl w H) (hD : va_D A w) (hS : va_S A H0 H locs) (q0 : Nat) {fs : List Value} (he : w[q0]? = some (b, .inr (4, fs))) (k : Nat) (hk : k < 9) (hlink : (Cond.fieldLink own index (TX4 k).1 (TX4 k).2.1 (TX4 k).2.2.1).before args s = true) (hfin : (TX4 k).2.2.2 = false) {v : Value} (hn : narrow (tyX4 k) v = v) (hfit : fits (tyX4 k) v = true) (hl : k < fs.length) (hw : w.set q0 (b, .inr (4, fs.set k v)) = w') (hdg : decode cc pc = .ok (.putfield index, 3))
    (kk : ∀ (H1 : Heap) (locs1 : List Loc), va_P D vwCl w' H1 → va_S A H0 H1 locs1 → W p l e R s m args below meth c H1 locs1 cells slots Q (F0 m (pc + 3) ls rest)) : W p l e R s m args below meth c H locs cells slots Q (F0 m pc ls (v :: .ref b :: rest)) := by
  refine va_put (ci := 4) (C := RX4) (T := TX4) (N := 9) hx hb h0 (fun _ h => h) tyX4 tyX4_ok nmX4 hown hK hP hD hS q0 he rfl k hk hlink (fun _ h => h) hfin (tyX4_ok k hk) hn hfit hl hdg (fun H1 locs1 h1 _ h3 => ?_)
  rw [hw] at h1
  exact kk H1 locs1 h1 h3
end LWR
section LWC
variable {p : Program} {l : Launch} {e : Env} {R : Room} {s : State} {m : MethodId} {args : Array Value} {below : List Frame} {meth : Method} {c : Code} {H : Heap} {locs : List Loc} {cells slots : Nat} {Q : State → Prop}
variable {cc : ByteArray} {pc : Nat} {ls : Array Slot} {rest st0 : List Value} {D : va_G} {tys : List (ClassId × FieldType)} {w w' : va_W} {A A0 A1 : Nat → Prop} {H0 : Heap} {b : Nat}
variable {y : MethodName} {bytes : ByteArray} {maxL nL n index mc ms : Nat} {ret : Option FieldType} {ws : List Cond} {rm : Room} {Ts : List Cond} {own C : String} {As : List Value} {v : Int32} {ci q0 : Nat} {fs : List Value} {q9 : vw_C}
/-- a call of a read-only method of an object (invokevirtual) -/
theorem roV (hx : p.tables.exec = Jvm.exec) (hb : c.code = cc) (hml : c.maxLocals = nL) (hown : s.vm.findClass own = some m.cls) (hts : ∀ w ∈ Ts, w.before args s = true) (hM : Met l y ws rm (ro_P D tys w H (.ref b :: As)) (ro_Q v H) 0 0 (fun _ => False)) (cw : CallW R s args own C index y bytes maxL ret ws rm 0 0 n)
    (hK : va_K D vwCl tys s) (hE : lwE s) (hP : va_P D vwCl w H) (hc : vwCl[ci]? = some q9) (hq : q9.1 = C) (he : w[q0]? = some (b, .inr (ci, fs))) (hn : As.length = n) (hsz : ls.size = nL) (hst : st0 = As.reverse ++ .ref b :: rest) (hW : (rest.map fun v => v.category).sum ≤ 8) (hS : va_S A0 H0 H locs) (hdg : decode cc pc = .ok (.invokevirtual index, 3)) (hf : cells ≤ R.cells ∧ slots ≤ R.slots)
    (kk : ∀ locs1 : List Loc, va_S A0 H0 H locs1 → W p l e R s m args below meth c H locs1 cells slots Q (F0 m (pc + 3) ls (.int v :: rest))) : W p l e R s m args below meth c H locs cells slots Q (F0 m pc ls st0) := by
  subst hq
  refine va_calli (va_runV (As := As) (rest := rest) ⟨hx, hb, hml, hown, hts⟩ hM cw ⟨ro_blind, va_recv hK hP hc he, fun U hU hW => ⟨rfl, hU, hP, va_K.moved hW.alike hK, lwE.warm hW hE⟩⟩ rfl hn hsz hst (lv_room hW) hdg hf) hS (fun q _ h => h.elim) (fun q h => h.elim) (fun r u t H1 locs1 ht hvm hw hB hz1 hk1 hS1 => ?_)
  have h1 : t.heap = H := hB
  have h2 : H1 = H := ht.symm.trans h1
  subst h2
  have h3 : r = v := hw
  subst h3
  exact kk locs1 hS1
/-- .. of a static one -/
theorem roS (hx : p.tables.exec = Jvm.exec) (hb : c.code = cc) (hml : c.maxLocals = nL) (hown : s.vm.findClass own = some m.cls) (hts : ∀ w ∈ Ts, w.before args s = true) (hM : Met l y ws rm (ro_P D tys w H As) (ro_Q v H) 0 0 (fun _ => False)) (cw : CallB R s args own index y bytes maxL ret ws rm 0 0 n ∧ (Cond.static y).before args s = true)
    (hK : va_K D vwCl tys s) (hE : lwE s) (hP : va_P D vwCl w H) (hn : As.length = n) (hsz : ls.size = nL) (hst : st0 = As.reverse ++ rest) (hW : (rest.map fun v => v.category).sum ≤ 8) (hS : va_S A0 H0 H locs) (hdg : decode cc pc = .ok (.invokestatic index, 3)) (hf : cells ≤ R.cells ∧ slots ≤ R.slots)
    (kk : ∀ locs1 : List Loc, va_S A0 H0 H locs1 → W p l e R s m args below meth c H locs1 cells slots Q (F0 m (pc + 3) ls (.int v :: rest))) : W p l e R s m args below meth c H locs cells slots Q (F0 m pc ls st0) := by
  refine va_calli (va_runS (As := As) (rest := rest) ⟨hx, hb, hml, hown, hts⟩ hM cw ⟨ro_blind, fun U hU hW => ⟨rfl, hU, hP, va_K.moved hW.alike hK, lwE.warm hW hE⟩⟩ rfl hn hsz hst (lv_room hW) hdg hf) hS (fun q _ h => h.elim) (fun q h => h.elim) (fun r u t H1 locs1 ht hvm hw hB hz1 hk1 hS1 => ?_)
  have h1 : t.heap = H := hB
  have h2 : H1 = H := ht.symm.trans h1
  subst h2
  have h3 : r = v := hw
  subst h3
  exact kk locs1 hS1
/-- .. of a private static one of a nest mate -/
theorem roSN {host : String} (hx : p.tables.exec = Jvm.exec) (hb : c.code = cc) (hml : c.maxLocals = nL) (hown : s.vm.findClass own = some m.cls) (hts : ∀ w ∈ Ts, w.before args s = true) (hM : Met l y ws rm (ro_P D tys w H As) (ro_Q v H) 0 0 (fun _ => False)) (cw : va_CN R s args own index y host bytes maxL ret ws rm 0 0 n ∧ (Cond.static y).before args s = true ∧ True)
    (hK : va_K D vwCl tys s) (hE : lwE s) (hP : va_P D vwCl w H) (hn : As.length = n) (hsz : ls.size = nL) (hst : st0 = As.reverse ++ rest) (hW : (rest.map fun v => v.category).sum ≤ 8) (hS : va_S A0 H0 H locs) (hdg : decode cc pc = .ok (.invokestatic index, 3)) (hf : cells ≤ R.cells ∧ slots ≤ R.slots)
    (kk : ∀ locs1 : List Loc, va_S A0 H0 H locs1 → W p l e R s m args below meth c H locs1 cells slots Q (F0 m (pc + 3) ls (.int v :: rest))) : W p l e R s m args below meth c H locs cells slots Q (F0 m pc ls st0) := by
  refine va_calli (va_runSN (As := As) (rest := rest) ⟨hx, hb, hml, hown, hts⟩ hM cw ⟨ro_blind, fun U hU hW => ⟨rfl, hU, hP, va_K.moved hW.alike hK, lwE.warm hW hE⟩⟩ rfl hn hsz hst (lv_room hW) hdg hf) hS (fun q _ h => h.elim) (fun q h => h.elim) (fun r u t H1 locs1 ht hvm hw hB hz1 hk1 hS1 => ?_)
  have h1 : t.heap = H := hB
  have h2 : H1 = H := ht.symm.trans h1
  subst h2
  have h3 : r = v := hw
  subst h3
  exact kk locs1 hS1
/-- a call of a method that changes the world w to w' -/
theorem muV (hx : p.tables.exec = Jvm.exec) (hb : c.code = cc) (hml : c.maxLocals = nL) (hown : s.vm.findClass own = some m.cls) (hts : ∀ w ∈ Ts, w.before args s = true) (hM : Met l y ws rm (ro_P D tys w H (.ref b :: As)) (mu_Q D w' A1) 0 0 A1) (cw : CallW R s args own C index y bytes maxL ret ws rm 0 0 n)
    (hK : va_K D vwCl tys s) (hE : lwE s) (hP : va_P D vwCl w H) (hc : vwCl[ci]? = some q9) (hq : q9.1 = C) (he : w[q0]? = some (b, .inr (ci, fs))) (hn : As.length = n) (hsz : ls.size = nL) (hst : st0 = As.reverse ++ .ref b :: rest) (hW : (rest.map fun v => v.category).sum ≤ 8) (hS : va_S A0 H0 H locs) (hA : ∀ q, A1 q → A0 q) (hdg : decode cc pc = .ok (.invokevirtual index, 3)) (hf : cells ≤ R.cells ∧ slots ≤ R.slots)
    (kk : ∀ (H1 : Heap) (locs1 : List Loc), va_P D vwCl w' H1 → H.size ≤ H1.size → (∀ q : Nat, q < H.size → ¬ A1 q → H1[q]? = H[q]?) → va_S A0 H0 H1 locs1 → W p l e R s m args below meth c H1 locs1 cells slots Q (F0 m (pc + 3) ls rest)) : W p l e R s m args below meth c H locs cells slots Q (F0 m pc ls st0) := by
  subst hq
  refine va_callv (va_runV (As := As) (rest := rest) ⟨hx, hb, hml, hown, hts⟩ hM cw ⟨ro_blind, va_recv hK hP hc he, fun U hU hW => ⟨rfl, hU, hP, va_K.moved hW.alike hK, lwE.warm hW hE⟩⟩ rfl hn hsz hst (lv_room hW) hdg hf) hS (fun q _ h => hA q h) hA (fun u t H1 locs1 ht hvm hw hB hz1 hk1 hS => ?_)
  have h1 : va_P D vwCl w' t.heap := hB
  rw [ht] at h1
  exact kk H1 locs1 h1 hz1 hk1 hS
theorem miV (hx : p.tables.exec = Jvm.exec) (hb : c.code = cc) (hml : c.maxLocals = nL) (hown : s.vm.findClass own = some m.cls) (hts : ∀ w ∈ Ts, w.before args s = true) (hM : Met l y ws rm (ro_P D tys w H (.ref b :: As)) (mi_Q D v w' A1) 0 0 A1) (cw : CallW R s args own C index y bytes maxL ret ws rm 0 0 n)
    (hK : va_K D vwCl tys s) (hE : lwE s) (hP : va_P D vwCl w H) (hc : vwCl[ci]? = some q9) (hq : q9.1 = C) (he : w[q0]? = some (b, .inr (ci, fs))) (hn : As.length = n) (hsz : ls.size = nL) (hst : st0 = As.reverse ++ .ref b :: rest) (hW : (rest.map fun v => v.category).sum ≤ 8) (hS : va_S A0 H0 H locs) (hA : ∀ q, A1 q → A0 q) (hdg : decode cc pc = .ok (.invokevirtual index, 3)) (hf : cells ≤ R.cells ∧ slots ≤ R.slots)
    (kk : ∀ (H1 : Heap) (locs1 : List Loc), va_P D vwCl w' H1 → H.size ≤ H1.size → (∀ q : Nat, q < H.size → ¬ A1 q → H1[q]? = H[q]?) → va_S A0 H0 H1 locs1 → W p l e R s m args below meth c H1 locs1 cells slots Q (F0 m (pc + 3) ls (.int v :: rest))) : W p l e R s m args below meth c H locs cells slots Q (F0 m pc ls st0) := by
  subst hq
  refine va_calli (va_runV (As := As) (rest := rest) ⟨hx, hb, hml, hown, hts⟩ hM cw ⟨ro_blind, va_recv hK hP hc he, fun U hU hW => ⟨rfl, hU, hP, va_K.moved hW.alike hK, lwE.warm hW hE⟩⟩ rfl hn hsz hst (lv_room hW) hdg hf) hS (fun q _ h => hA q h) hA (fun r u t H1 locs1 ht hvm hw hB hz1 hk1 hS => ?_)
  have h1 : va_P D vwCl w' t.heap := hB
  rw [ht] at h1
  have h3 : r = v := hw
  subst h3
  exact kk H1 locs1 h1 hz1 hk1 hS
theorem muS (hx : p.tables.exec = Jvm.exec) (hb : c.code = cc) (hml : c.maxLocals = nL) (hown : s.vm.findClass own = some m.cls) (hts : ∀ w ∈ Ts, w.before args s = true) (hM : Met l y ws rm (ro_P D tys w H As) (mu_Q D w' A1) 0 0 A1) (cw : CallB R s args own index y bytes maxL ret ws rm 0 0 n ∧ (Cond.static y).before args s = true)
    (hK : va_K D vwCl tys s) (hE : lwE s) (hP : va_P D vwCl w H) (hn : As.length = n) (hsz : ls.size = nL) (hst : st0 = As.reverse ++ rest) (hW : (rest.map fun v => v.category).sum ≤ 8) (hS : va_S A0 H0 H locs) (hA : ∀ q, A1 q → A0 q) (hdg : decode cc pc = .ok (.invokestatic index, 3)) (hf : cells ≤ R.cells ∧ slots ≤ R.slots)
    (kk : ∀ (H1 : Heap) (locs1 : List Loc), va_P D vwCl w' H1 → H.size ≤ H1.size → (∀ q : Nat, q < H.size → ¬ A1 q → H1[q]? = H[q]?) → va_S A0 H0 H1 locs1 → W p l e R s m args below meth c H1 locs1 cells slots Q (F0 m (pc + 3) ls rest)) : W p l e R s m args below meth c H locs cells slots Q (F0 m pc ls st0) := by
  refine va_callv (va_runS (As := As) (rest := rest) ⟨hx, hb, hml, hown, hts⟩ hM cw ⟨ro_blind, fun U hU hW => ⟨rfl, hU, hP, va_K.moved hW.alike hK, lwE.warm hW hE⟩⟩ rfl hn hsz hst (lv_room hW) hdg hf) hS (fun q _ h => hA q h) hA (fun u t H1 locs1 ht hvm hw hB hz1 hk1 hS => ?_)
  have h1 : va_P D vwCl w' t.heap := hB
  rw [ht] at h1
  exact kk H1 locs1 h1 hz1 hk1 hS
/-- behind a call on a part of the world: the part anew beside the rest -/
theorem li_join {isC isR : List Nat} {wc wr w1 : va_W} {H1 : Heap} (hP : va_P D vwCl w H) (hD : va_D A0 w) (hC : isC.map (fun i => w[i]?) = wc.map some) (hR : isR.map (fun i => w[i]?) = wr.map some) (hdis : ∀ i ∈ isR, i ∉ isC) (hA : ∀ q, A1 q → ∃ (k : Nat) (x : va_E), wc[k]? = some (q, x))
    (hk : ∀ q : Nat, q < H.size → ¬ A1 q → H1[q]? = H[q]?) (hP1 : va_P D vwCl w1 H1) : va_P D vwCl (wr ++ w1) H1 := by
  refine va_P.app (fun k q hq => ?_) hP1
  have h1 : (isR.map (fun i => w[i]?))[k]? = some (some q) := by rw [hR, List.getElem?_map, hq]; rfl
  rw [List.getElem?_map] at h1
  cases hi : isR[k]? with
  | none => rw [hi] at h1; cases h1
  | some i =>
    rw [hi] at h1
    have h2 : w[i]? = some q := Option.some.inj h1
    refine (hP i q h2).kept (hk q.1 (hP i q h2).lt (fun ha => ?_))
    obtain ⟨k2, x, h3⟩ := hA q.1 ha
    have h4 : (isC.map (fun i => w[i]?))[k2]? = some (some (q.1, x)) := by rw [hC, List.getElem?_map, h3]; rfl
    rw [List.getElem?_map] at h4
    cases hj : isC[k2]? with
    | none => rw [hj] at h4; cases h4
    | some j =>
      rw [hj] at h4
      have h5 : w[j]? = some (q.1, x) := Option.some.inj h4
      have h6 := hD.1 i j q (q.1, x) h2 h5 rfl
      subst h6
      exact hdis i (List.mem_of_getElem? hi) (List.mem_of_getElem? hj)
end LWC
/-- a row's numbers behind its length say nothing -/
theorem vp_cell_ext {cA : ClassId} {n : Nat} {f g : Nat → Int32} (h : ∀ j, j < n → f j = g j) : vp_cell cA (n, .inl f) = vp_cell cA (n, .inl g) := by
  rw [vp_cell_i, vp_cell_i]
  have : (fun j => if j < n then Value.int (f j) else .null) = (fun j => if j < n then Value.int (g j) else .null) := by
    funext j
    by_cases hj : j < n
    · simp [hj, h j hj]
    · simp [hj]
  unfold arrV
  congr 1
  apply Array.ext
  · simp
  · intro i h1 h2
    simp at h1
    simp [h i h1]
theorem va_P_row {D : va_G} {w : va_W} {H : Heap} {q0 b : Nat} {cA : ClassId} {n : Nat} {f g : Nat → Int32} (hP : va_P D vwCl w H) (ha : w[q0]? = some (b, .inl (cA, n, .inl f))) (h : ∀ j, j < n → f j = g j) : va_P D vwCl (w.set q0 (b, .inl (cA, n, .inl g))) H := by
  have hl := (List.getElem?_eq_some_iff.mp ha).1
  intro k q hk
  by_cases hkp : k = q0
  · subst hkp
    rw [List.getElem?_set_self hl] at hk
    cases hk
    have h1 : H[b]? = some (vp_cell cA (n, .inl f)) := hP k _ ha
    show H[b]? = some (vp_cell cA (n, .inl g))
    rw [h1, vp_cell_ext h]
  · rw [List.getElem?_set_ne (Ne.symm hkp)] at hk
    exact hP k q hk
