/-! a method without an answer that makes cells; what a whole copy is -/
theorem muz_of {l : Launch} {y : MethodName} {ws ws' : List Cond} {rm : Room} {cc : ByteArray} {maxL mc ms : Nat} {av : List Value} {D : va_G} {tys : List (ClassId × FieldType)} {w w' : va_W} {H : Heap} {A : Nat → Prop} (hy : plainName y.cls = true) (hw : ws = Cond.code y cc maxL none :: ws') (hlen : (lg_sl av).length ≤ maxL)
    (body : ∀ (p : Program) (e : Env) (s : State) (m : MethodId) (args : Array Value) (below : List Frame) (meth : Method) (c : Code) (Q : State → Prop) (ls : Array Slot) (locs : List Loc),
      p.tables.exec = Jvm.exec → c.code = cc → c.maxLocals = maxL → s.vm.findClass y.cls = some m.cls → (∀ w ∈ ws, w.before args s = true) → va_K D vwCl tys s → lwE s → va_P D vwCl w H → lv_has ls maxL (lv_args 0 av) → va_S A H H locs →
      (∀ (pc : Nat) (ls : Array Slot) (H1 : Heap) (locs : List Loc) (k n : Nat), k ≤ mc → n ≤ ms → decode cc pc = .ok (.return_, 1) → va_P D vwCl w' H1 → va_S A H H1 locs → W p l e rm s m args below meth c H1 locs k n Q (F0 m pc ls [])) →
      W p l e rm s m args below meth c H locs 0 0 Q (F0 m 0 ls [])) : Met l y ws rm (ro_P D tys w H av) (mu_Q D w' A) mc ms A := by
  refine Met.ofW (cc := cc) (maxL := maxL) (ret := none) hy hw ?_
  intro p e s m args below meth c s₁ B hml hv
  obtain ⟨rfl, rfl, hP, hK, hE⟩ := hv
  have hx := B.exec
  have hb := B.bytes
  have hr := B.returns
  have hts := atoms_spec (ws := ws) B.pre
  have hown : s.vm.findClass y.cls = some m.cls := findClass_of_methodNamed B.named
  have hlocks := B.notSynchronized
  have hl := lv_entry av (n := maxL) hlen
  rw [lg_entry_eq]
  generalize (lg_sl av ++ List.replicate (maxL - (lg_sl av).length) Slot.unset).toArray = ls at hl ⊢
  exact body p e s m _ below meth c _ ls [] hx hb hml hown hts hK hE hP hl va_S.rf (fun pc ls H1 locs k n hk hn2 hd hP1 hS => w_wide hk hn2 (W.vret hx hb hr (fun t ht hW => ⟨⟨(), rfl, trivial, by show va_P D vwCl w' t.heap; rw [ht]; exact hP1⟩, hS.F ht⟩) hS.2.2 hd hlocks))
theorem cpy_all {f g : Nat → Int32} {N : Nat} (hN : N ≤ 200) (j : Nat) (hj : j < N) : va_cpy f g (nI 0).toNatClampNeg (nI 0).toNatClampNeg (nI N).toNatClampNeg j = f j := by
  rw [nI_clamp (show N < 2 ^ 31 by omega), show (nI 0).toNatClampNeg = 0 from rfl]
  unfold va_cpy
  rw [if_pos ⟨Nat.zero_le _, by omega⟩]
  congr 1
  omega
