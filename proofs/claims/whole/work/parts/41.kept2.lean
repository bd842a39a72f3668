/-! kept: the answer is a row of rows -/
def kB (a b : Nat → Nat) : Prop := ∀ k, k < 13 → b k = a k
def kr_Q (D : va_G) (cI cZ cO : ClassId) (a : Nat → Nat) (th : Int32) (n nw ns : Nat) (σ η : Sg) (A : Nat → Prop) : Array Value → State → Outcome → State → Prop :=
  va_Qr (fun (b : Nat → Nat) => kB a b ∧ okP A b 19) (fun b q t => q = b 13 ∧ va_P D vwCl (wMK cI cZ cO b th n nw ns σ σ η) t.heap) A
theorem kr_of {l : Launch} {y : MethodName} {ws ws' : List Cond} {rm : Room} {cc : ByteArray} {maxL mc ms : Nat} {ty : FieldType} {av : List Value} {D : va_G} {tys : List (ClassId × FieldType)} {w : va_W} {H : Heap} {A : Nat → Prop} {cI cZ cO : ClassId} {a : Nat → Nat} {th : Int32} {n nw ns : Nat} {σ η : Sg} (hy : plainName y.cls = true) (hw : ws = Cond.code y cc maxL (some ty) :: ws') (hlen : (lg_sl av).length ≤ maxL) (hty : (∃ n, ty = .object n) ∨ ∃ t, ty = .array t)
    (body : ∀ (p : Program) (e : Env) (s : State) (m : MethodId) (args : Array Value) (below : List Frame) (meth : Method) (c : Code) (Q : State → Prop) (ls : Array Slot) (locs : List Loc),
      p.tables.exec = Jvm.exec → c.code = cc → c.maxLocals = maxL → s.vm.findClass y.cls = some m.cls → (∀ w ∈ ws, w.before args s = true) → va_K D vwCl tys s → lwE s → va_P D vwCl w H → lv_has ls maxL (lv_args 0 av) → va_S A H H locs →
      (∀ (pc : Nat) (ls : Array Slot) (H1 : Heap) (locs : List Loc) (k k2 : Nat) (b : Nat → Nat), k ≤ mc → k2 ≤ ms → decode cc pc = .ok (.areturn, 1) → kB a b → okP A b 19 → va_P D vwCl (wMK cI cZ cO b th n nw ns σ σ η) H1 → va_S A H H1 locs → W p l e rm s m args below meth c H1 locs k k2 Q (F0 m pc ls [.ref (b 13)])) →
      W p l e rm s m args below meth c H locs 0 0 Q (F0 m 0 ls [])) : Met l y ws rm (ro_P D tys w H av) (kr_Q D cI cZ cO a th n nw ns σ η A) mc ms A := by
  refine Met.ofW (cc := cc) (maxL := maxL) (ret := some ty) hy hw ?_
  intro p e s m args below meth c s₁ B hml hv
  obtain ⟨rfl, rfl, hP, hK, hE⟩ := hv
  have hx := B.exec
  have hb := B.bytes
  have hr := B.returns
  have hts := atoms_spec (ws := ws) B.pre
  have hown : s.vm.findClass y.cls = some m.cls := findClass_of_methodNamed B.named
  have hlocks := B.notSynchronized
  have hl := lv_entry av (n := maxL) hlen
  rw [lg_entry_eq]
  generalize (lg_sl av ++ List.replicate (maxL - (lg_sl av).length) Slot.unset).toArray = ls at hl ⊢
  exact body p e s m _ below meth c _ ls [] hx hb hml hown hts hK hE hP hl va_S.rf (fun pc ls H1 locs k k2 b hk hn2 hd h1 h2 hP1 hS => w_wide hk hn2 (W.aret (v := .ref (b 13)) hx hb hr hty (Or.inr ⟨_, rfl⟩) (fun t ht hW => ⟨⟨b, b 13, rfl, ⟨h1, h2⟩, rfl, by show va_P D vwCl _ t.heap; rw [ht]; exact hP1⟩, hS.F ht⟩) hS.2.2 hd hlocks))
theorem li_fit {cI : ClassId} {N : Nat} (f : Nat → Int32) : ∀ (i : Nat) (v : Value), (vp_cell cI (N, .inl f)).slots[i]? = some v → fits .int v = true := fun i v h => va_fit (cA := cI) (n := N) (F := fun j => .int (f j)) (ty := .int) (fun _ _ => rfl) i v h
