/-! CONTRACTS of methods that make cells, or answer long or double -/
section LWZ
variable {l : Launch} {y : MethodName} {ws ws' : List Cond} {rm : Room} {cc : ByteArray} {maxL mc ms : Nat} {ty : FieldType} {av : List Value} {D : va_G} {tys : List (ClassId × FieldType)} {w w' : va_W} {H : Heap} {v : Int32} {A : Nat → Prop}
theorem w_wide {p : Program} {e : Env} {R : Room} {s : State} {m : MethodId} {args : Array Value} {below : List Frame} {meth : Method} {c : Code} {locs : List Loc} {cells slots : Nat} {Q : State → Prop} {g : JFrame} {k n : Nat} (h1 : cells ≤ k) (h2 : slots ≤ n) (kk : W p l e R s m args below meth c H locs k n Q g) : W p l e R s m args below meth c H locs cells slots Q g := fun T hT X => kk T hT (stand_widen X h1 h2)
/-- what may be written, and what is new -/
def AN (A : Nat → Prop) (H : Heap) : Nat → Prop := fun q => A q ∨ H.size ≤ q
theorem okP.AN {a : Nat → Nat} {N : Nat} (h : okP A a N) : okP (AN A H) a N := ⟨h.1, fun k hk => Or.inl (h.2 k hk)⟩
def ml_Q (D : va_G) (v : Int64) (w' : va_W) (A : Nat → Prop) : Array Value → State → Outcome → State → Prop := va_Ql (fun (r : Int64) (_ : Unit) => r = v) (fun _ t => va_P D vwCl w' t.heap) A
def md_Q (D : va_G) (v : UInt64) (w' : va_W) (A : Nat → Prop) : Array Value → State → Outcome → State → Prop := va_Qd (fun (r : UInt64) (_ : Unit) => r = v) (fun _ t => va_P D vwCl w' t.heap) A
theorem mz_of (hy : plainName y.cls = true) (hw : ws = Cond.code y cc maxL (some ty) :: ws') (hlen : (lg_sl av).length ≤ maxL) (hn : narrow ty (.int v) = .int v)
    (body : ∀ (p : Program) (e : Env) (s : State) (m : MethodId) (args : Array Value) (below : List Frame) (meth : Method) (c : Code) (Q : State → Prop) (ls : Array Slot) (locs : List Loc),
      p.tables.exec = Jvm.exec → c.code = cc → c.maxLocals = maxL → s.vm.findClass y.cls = some m.cls → (∀ w ∈ ws, w.before args s = true) → va_K D vwCl tys s → lwE s → va_P D vwCl w H → lv_has ls maxL (lv_args 0 av) → va_S A H H locs →
      (∀ (pc : Nat) (ls : Array Slot) (H1 : Heap) (locs : List Loc) (k n : Nat), k ≤ mc → n ≤ ms → decode cc pc = .ok (.ireturn, 1) → va_P D vwCl w' H1 → va_S A H H1 locs → W p l e rm s m args below meth c H1 locs k n Q (F0 m pc ls [.int v])) →
      W p l e rm s m args below meth c H locs 0 0 Q (F0 m 0 ls [])) : Met l y ws rm (ro_P D tys w H av) (mi_Q D v w' A) mc ms A := by
  refine Met.ofW (cc := cc) (maxL := maxL) (ret := some ty) hy hw ?_
  intro p e s m args below meth c s₁ B hml hv
  obtain ⟨rfl, rfl, hP, hK, hE⟩ := hv
  have hx := B.exec
  have hb := B.bytes
  have hr := B.returns
  have hts := atoms_spec (ws := ws) B.pre
  have hown : s.vm.findClass y.cls = some m.cls := findClass_of_methodNamed B.named
  have hlocks := B.notSynchronized
  have hl := lv_entry av (n := maxL) hlen
  rw [lg_entry_eq]
  generalize (lg_sl av ++ List.replicate (maxL - (lg_sl av).length) Slot.unset).toArray = ls at hl ⊢
  exact body p e s m _ below meth c _ ls [] hx hb hml hown hts hK hE hP hl va_S.rf (fun pc ls H1 locs k n hk hn2 hd hP1 hS => w_wide hk hn2 (W.zret (v := v) hx hb hr hn (fun t ht hW => ⟨⟨v, (), rfl, rfl, by show va_P D vwCl w' t.heap; rw [ht]; exact hP1⟩, hS.F ht⟩) hS.2.2 hd hlocks))
theorem mlz_of {v : Int64} (hy : plainName y.cls = true) (hw : ws = Cond.code y cc maxL (some .long) :: ws') (hlen : (lg_sl av).length ≤ maxL)
    (body : ∀ (p : Program) (e : Env) (s : State) (m : MethodId) (args : Array Value) (below : List Frame) (meth : Method) (c : Code) (Q : State → Prop) (ls : Array Slot) (locs : List Loc),
      p.tables.exec = Jvm.exec → c.code = cc → c.maxLocals = maxL → s.vm.findClass y.cls = some m.cls → (∀ w ∈ ws, w.before args s = true) → va_K D vwCl tys s → lwE s → va_P D vwCl w H → lv_has ls maxL (lv_args 0 av) → va_S A H H locs →
      (∀ (pc : Nat) (ls : Array Slot) (H1 : Heap) (locs : List Loc), decode cc pc = .ok (.lreturn, 1) → va_P D vwCl w' H1 → va_S A H H1 locs → W p l e rm s m args below meth c H1 locs 0 0 Q (F0 m pc ls [.long v])) →
      W p l e rm s m args below meth c H locs 0 0 Q (F0 m 0 ls [])) : Met l y ws rm (ro_P D tys w H av) (ml_Q D v w' A) 0 0 A := by
  refine Met.ofW (cc := cc) (maxL := maxL) (ret := some .long) hy hw ?_
  intro p e s m args below meth c s₁ B hml hv
  obtain ⟨rfl, rfl, hP, hK, hE⟩ := hv
  have hx := B.exec
  have hb := B.bytes
  have hr := B.returns
  have hts := atoms_spec (ws := ws) B.pre
  have hown : s.vm.findClass y.cls = some m.cls := findClass_of_methodNamed B.named
  have hlocks := B.notSynchronized
  have hl := lv_entry av (n := maxL) hlen
  rw [lg_entry_eq]
  generalize (lg_sl av ++ List.replicate (maxL - (lg_sl av).length) Slot.unset).toArray = ls at hl ⊢
  exact body p e s m _ below meth c _ ls [] hx hb hml hown hts hK hE hP hl va_S.rf (fun pc ls H1 locs hd hP1 hS => W.lret (v := v) hx hb hr (fun t ht hW => ⟨⟨v, (), rfl, rfl, by show va_P D vwCl w' t.heap; rw [ht]; exact hP1⟩, hS.F ht⟩) hS.2.2 hd hlocks)
theorem mdz_of {v : UInt64} (hy : plainName y.cls = true) (hw : ws = Cond.code y cc maxL (some .double) :: ws') (hlen : (lg_sl av).length ≤ maxL)
    (body : ∀ (p : Program) (e : Env) (s : State) (m : MethodId) (args : Array Value) (below : List Frame) (meth : Method) (c : Code) (Q : State → Prop) (ls : Array Slot) (locs : List Loc),
      p.tables.exec = Jvm.exec → c.code = cc → c.maxLocals = maxL → s.vm.findClass y.cls = some m.cls → (∀ w ∈ ws, w.before args s = true) → va_K D vwCl tys s → lwE s → va_P D vwCl w H → lv_has ls maxL (lv_args 0 av) → va_S A H H locs →
      (∀ (pc : Nat) (ls : Array Slot) (H1 : Heap) (locs : List Loc), decode cc pc = .ok (.dreturn, 1) → va_P D vwCl w' H1 → va_S A H H1 locs → W p l e rm s m args below meth c H1 locs 0 0 Q (F0 m pc ls [.double v])) →
      W p l e rm s m args below meth c H locs 0 0 Q (F0 m 0 ls [])) : Met l y ws rm (ro_P D tys w H av) (md_Q D v w' A) 0 0 A := by
  refine Met.ofW (cc := cc) (maxL := maxL) (ret := some .double) hy hw ?_
  intro p e s m args below meth c s₁ B hml hv
  obtain ⟨rfl, rfl, hP, hK, hE⟩ := hv
  have hx := B.exec
  have hb := B.bytes
  have hr := B.returns
  have hts := atoms_spec (ws := ws) B.pre
  have hown : s.vm.findClass y.cls = some m.cls := findClass_of_methodNamed B.named
  have hlocks := B.notSynchronized
  have hl := lv_entry av (n := maxL) hlen
  rw [lg_entry_eq]
  generalize (lg_sl av ++ List.replicate (maxL - (lg_sl av).length) Slot.unset).toArray = ls at hl ⊢
  exact body p e s m _ below meth c _ ls [] hx hb hml hown hts hK hE hP hl va_S.rf (fun pc ls H1 locs hd hP1 hS => W.dret (v := v) hx hb hr (fun t ht hW => ⟨⟨v, (), rfl, rfl, by show va_P D vwCl w' t.heap; rw [ht]; exact hP1⟩, hS.F ht⟩) hS.2.2 hd hlocks)
end LWZ
section LWZ2
variable {p : Program} {l : Launch} {e : Env} {R : Room} {s : State} {m : MethodId} {args : Array Value} {below : List Frame} {meth : Method} {c : Code} {H : Heap} {locs : List Loc} {cells slots : Nat} {Q : State → Prop}
variable {cc : ByteArray} {pc : Nat} {ls : Array Slot} {rest st0 : List Value} {D : va_G} {tys : List (ClassId × FieldType)} {w w' : va_W} {A A0 A1 : Nat → Prop} {H0 : Heap} {b : Nat}
theorem okP.ne13 {A : Nat → Prop} {a : Nat → Nat} {x : Nat × va_E} {cI cZ : ClassId} {th : Int32} {n nw ns : Nat} {σ η : Sg} (hD : va_D A (wM cI cZ a th n nw ns σ η ++ [x])) : ∀ k, k < 13 → a k ≠ x.1 := by
  intro k hk h
  have hw : (wM cI cZ a th n nw ns σ η).length = 13 := rfl
  have h1 : ∃ y, (wM cI cZ a th n nw ns σ η)[k]? = some y := ⟨_, List.getElem?_eq_getElem (by rw [hw]; exact hk)⟩
  obtain ⟨y, h1⟩ := h1
  have h2 := (wM_adr k y h1).2
  have h3 : (wM cI cZ a th n nw ns σ η ++ [x])[k]? = some y := by rw [List.getElem?_append_left (by rw [hw]; exact hk)]; exact h1
  have h4 : (wM cI cZ a th n nw ns σ η ++ [x])[13]? = some x := by rw [List.getElem?_append_right (by rw [hw]; exact Nat.le_refl _), hw]; rfl
  have := hD.1 k 13 y x h3 h4 (by rw [h2]; exact h)
  omega
/-- the model's world and one row more -/
theorem okP.DX {A : Nat → Prop} {a : Nat → Nat} {q : Nat} {cI cZ : ClassId} {th : Int32} {n nw ns : Nat} {σ η : Sg} (h : okP A a 13) (hq : A q) (hne : ∀ k, k < 13 → a k ≠ q) (x : va_E) : va_D A (wM cI cZ a th n nw ns σ η ++ [(q, x)]) := by
  have hw : (wM cI cZ a th n nw ns σ η).length = 13 := rfl
  have key : ∀ (k : Nat) (y : Nat × va_E), (wM cI cZ a th n nw ns σ η ++ [(q, x)])[k]? = some y → (k < 13 ∧ y.1 = a k) ∨ (k = 13 ∧ y.1 = q) := by
    intro k y hk
    by_cases h1 : k < 13
    · rw [List.getElem?_append_left (by rw [hw]; exact h1)] at hk
      exact Or.inl ⟨h1, (wM_adr k y hk).2⟩
    · rw [List.getElem?_append_right (by rw [hw]; omega), hw] at hk
      have hz : k - 13 < 1 := (List.getElem?_eq_some_iff.mp hk).1
      rw [show k - 13 = 0 by omega] at hk
      cases hk
      exact Or.inr ⟨by omega, rfl⟩
  refine ⟨fun i j y z hi hj hyz => ?_, fun k y hk => ?_⟩
  · rcases key i y hi with ⟨a1, a2⟩ | ⟨a1, a2⟩ <;> rcases key j z hj with ⟨b1, b2⟩ | ⟨b1, b2⟩
    · exact h.1 i j a1 b1 (by rw [← a2, ← b2]; exact hyz)
    · exact absurd (by rw [← a2, ← b2]; exact hyz) (hne i a1)
    · exact absurd (by rw [← a2, ← b2]; exact hyz.symm) (hne j b1)
    · omega
  · rcases key k y hk with ⟨a1, a2⟩ | ⟨a1, a2⟩
    · rw [a2]; exact h.2 k a1
    · rw [a2]; exact hq
end LWZ2
/-- light, and the digest, in pure words -/
theorem nd_all : ∀ a : Fin 21, ∀ b : Fin 21, 0 < b.1 → vf_n64 (FP.ddiv (FP.i2d (nI a.1)) (FP.i2d (nI b.1))) := by unfold vf_n64; decide +kernel
def liV (nw : Nat) (σ : Sg) : UInt64 := if hm σ nw (nI 1) = 0 then FP.dconst0 else FP.ddiv (FP.i2d (nI (lb σ nw))) (FP.i2d (nI (hm σ nw (nI 1))))
theorem hm_le {σ : Sg} {nw : Nat} {x : Int32} : hm σ nw x ≤ nw := cnt_le _ _
theorem lb_le {σ : Sg} {nw : Nat} : lb σ nw ≤ nw := cnt_le _ _
theorem nd_li {nw : Nat} {σ : Sg} (h : nw ≤ 20) (h1 : hm σ nw (nI 1) ≠ 0) : vf_n64 (FP.ddiv (FP.i2d (nI (lb σ nw))) (FP.i2d (nI (hm σ nw (nI 1))))) := by
  have a1 := lb_le (σ := σ) (nw := nw)
  have a2 := hm_le (σ := σ) (nw := nw) (x := nI 1)
  exact nd_all ⟨lb σ nw, by omega⟩ ⟨hm σ nw (nI 1), by omega⟩ (by show 0 < hm σ nw (nI 1); omega)
def dg1 (d : Int64) (v : Int32) : Int64 := d * 31 + v.toInt64
def dgN (f : Nat → Int32) (d : Int64) : Nat → Int64
  | 0 => d
  | k + 1 => dg1 (dgN f d k) (f k)
def dgS (n nw : Nat) (σ : Sg) (d : Int64) : Nat → Int64
  | 0 => d
  | s + 1 => dgN (stT n nw σ s) (dgS n nw σ d s) 6
def dgW (nw ns : Nat) (σ : Sg) (d : Int64) : Nat → Int64
  | 0 => d
  | w + 1 => dgN (fun s => σ 16 (6 * w + s)) (dgN (waT nw σ w) (dgW nw ns σ d w) 9) ns
def diV (n pl nw ns : Nat) (σ : Sg) : Int64 := dgN (σ 6) (dgW nw ns σ (dgS n nw σ (dgN (σ 3) (dgN (alT n pl nw ns σ) 659 11) 10) n) nw) ns
theorem lv_reg {ls : Array Slot} {N : Nat} {xs : List (Nat × Value)} {i : Nat} {j : Nat} {v v' : Value} (h : lv_has ls N xs) (hi : xs[i]? = some (j, v)) (e : v = v') : lv_has ls N (xs.set i (j, v')) := by
  subst e
  have : xs.set i (j, v) = xs := by
    apply List.ext_getElem?
    intro k
    rw [List.getElem?_set]
    by_cases q : i = k
    · subst q
      rw [if_pos rfl]
      split
      · exact hi.symm
      · rename_i q2
        rw [List.getElem?_eq_none (by omega)] at hi
        cases hi
    · rw [if_neg q]
  rw [this]
  exact h
section LWZ3
variable {p : Program} {l : Launch} {e : Env} {R : Room} {s : State} {m : MethodId} {args : Array Value} {below : List Frame} {meth : Method} {c : Code} {H : Heap} {locs : List Loc} {cells slots : Nat} {Q : State → Prop} {pc : Nat} {ls : Array Slot} {rest : List Value}
theorem li_topl {x x' : Int64} (h : x = x') (k : W p l e R s m args below meth c H locs cells slots Q (F0 m pc ls (.long x' :: rest))) : W p l e R s m args below meth c H locs cells slots Q (F0 m pc ls (.long x :: rest)) := by rw [h]; exact k
theorem li_topd {x x' : UInt64} (h : x = x') (k : W p l e R s m args below meth c H locs cells slots Q (F0 m pc ls (.double x' :: rest))) : W p l e R s m args below meth c H locs cells slots Q (F0 m pc ls (.double x :: rest)) := by rw [h]; exact k
end LWZ3
