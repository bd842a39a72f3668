/-! a method without an answer that makes cells; what a whole copy is -/
theorem muz_of {l : Launch} {y : MethodName} {ws ws' : List Cond} {rm : Room} {cc : ByteArray} {maxL mc ms : Nat} {av : List Value} {D : va_G} {tys : List (ClassId × FieldType)} {w w' : va_W} {H : Heap} {A : Nat → Prop} (hy : plainName y.cls = true) (hw : ws = Cond.code y cc maxL none :: ws') (hlen : (lg_sl av).length ≤ maxL)
    (body : ∀ (p : Program) (e : Env) (s : State) (m : MethodId) (args : Array Value) (below : List Frame) (meth : Method) (c : Code) (Q : State → Prop) (ls : Array Slot) (locs : List Loc),
      p.tables.exec = Jvm.exec → c.code = cc → c.maxLocals = maxL → s.vm.findClass y.cls = some m.cls → (∀ w ∈ ws, w.before args s = true) → va_K D vwCl tys s → lwE s → va_P D vwCl w H → lv_has ls maxL (lv_args 0 av) → va_S A H H locs →
      (∀ (pc : Nat) (ls : Array Slot) (H1 : Heap) (locs : List Loc) (k n : Nat), k ≤ mc → n ≤ ms → decode cc pc = .ok (.return_, 1) → va_P D vwCl w' H1 → va_S A H H1 locs → W p l e rm s m args below meth c H1 locs k n Q (F0 m pc ls [])) →
      W p l e rm s m args below meth c H locs 0 0 Q (F0 m 0 ls [])) : Met l y ws rm (ro_P D tys w H av) (mu_Q D w' A) mc ms A := by
  refine Met.ofW (cc := cc) (maxL := maxL) (ret := none) hy hw ?_
  intro p e s m args below meth c s₁ B hml hv
  obtain ⟨rfl, rfl, hP, hK, hE⟩ := hv
  have hx := B.exec
  have hb := B.bytes
  have hr := B.returns
  have hts := atoms_spec (ws := ws) B.pre
  have hown : s.vm.findClass y.cls = some m.cls := findClass_of_methodNamed B.named
  have hlocks := B.notSynchronized
  have hl := lv_entry av (n := maxL) hlen
  rw [lg_entry_eq]
  generalize (lg_sl av ++ List.replicate (maxL - (lg_sl av).length) Slot.unset).toArray = ls at hl ⊢
  exact body p e s m _ below meth c _ ls [] hx hb hml hown hts hK hE hP hl va_S.rf (fun pc ls H1 locs k n hk hn2 hd hP1 hS => w_wide hk hn2 (W.vret hx hb hr (fun t ht hW => ⟨⟨(), rfl, trivial, by show va_P D vwCl w' t.heap; rw [ht]; exact hP1⟩, hS.F ht⟩) hS.2.2 hd hlocks))
theorem cpy_all {f g : Nat → Int32} {N : Nat} (hN : N ≤ 200) (j : Nat) (hj : j < N) : va_cpy f g (nI 0).toNatClampNeg (nI 0).toNatClampNeg (nI N).toNatClampNeg j = f j := by
  rw [nI_clamp (show N < 2 ^ 31 by omega), show (nI 0).toNatClampNeg = 0 from rfl]
  unfold va_cpy
  rw [if_pos ⟨Nat.zero_le _, by omega⟩]
  congr 1
  omega
theorem va_D_map {A : Nat → Prop} {w w' : va_W} (hD : va_D A w) (h : w.map (fun q => q.1) = w'.map (fun q => q.1)) : va_D A w' := by
  have key : ∀ (k : Nat) (q : Nat × va_E), w'[k]? = some q → ∃ p, w[k]? = some p ∧ p.1 = q.1 := fun k q hq => by
    have h1 : (w'.map (fun q => q.1))[k]? = some q.1 := by rw [List.getElem?_map, hq]; rfl
    rw [← h, List.getElem?_map] at h1
    cases hp : w[k]? with
    | none => rw [hp] at h1; cases h1
    | some p => rw [hp] at h1; exact ⟨p, rfl, Option.some.inj h1⟩
  refine ⟨fun i j p q hi hj e => ?_, fun k q hk => ?_⟩
  · obtain ⟨p', h1, h2⟩ := key i p hi
    obtain ⟨q', h3, h4⟩ := key j q hj
    exact hD.1 i j p' q' h1 h3 (by rw [h2, h4]; exact e)
  · obtain ⟨p, h1, h2⟩ := key k q hk
    rw [← h2]
    exact hD.2 k p h1
def kAll (b : Nat → Nat) : Nat → Option Nat := va_up (va_up (va_up (va_up (va_up (fun _ => none) 0 (some (b 1))) 1 (some (b 2))) 2 (some (b 4))) 3 (some (b 6))) 4 (some (b 7))
/-- the world while it is brought back: the five rows as they stand -/
def wMB (cI cZ cO : ClassId) (b : Nat → Nat) (th : Int32) (n nw ns : Nat) (R1 S7 P4 K16 T17 : Nat → Int32) (σ' σ η : Sg) (q1 : Nat) : va_W :=
  [(b 0, .inr (3, [.int th, .int (nI n), .ref (b 1), .ref (b 2), .ref (b 3), .int (nI nw), .ref (b 4), .int (nI ns), .ref (b 5), .ref (b 6), .ref (b 7), .ref (b 8), .ref (b 9), .ref (b 10), .ref (b 11), .ref (b 12)])),
   (b 1, .inl (cI, 50, .inl R1)), (b 2, .inl (cI, 2, .inl S7)), (b 3, .inl (cI, 10, .inl (σ' 3))), (b 4, .inl (cI, 160, .inl P4)), (b 5, .inl (cI, 6, .inl (σ' 6))), (b 6, .inl (cI, 120, .inl K16)), (b 7, .inl (cI, 1, .inl T17)),
   (b 8, .inl (cI, 120, .inl (η 0))), (b 9, .inl (cZ, 20, .inl (η 1))), (b 10, .inl (cI, 10, .inl (η 2))), (b 11, .inl (cZ, 20, .inl (η 3))), (b 12, .inl (cI, 20, .inl (η 4))),
   (b 13, .inl (cO, 5, .inr (.inr (.inr (.inr (kRef b)))))), (b 14, .inl (cI, 50, .inl (encR σ))), (b 15, .inl (cI, 2, .inl (σ 7))), (b 16, .inl (cI, 160, .inl (encP nw σ))), (b 17, .inl (cI, 120, .inl (σ 16))), (b 18, .inl (cI, 1, .inl (σ 17))),
   (q1, .inl (cO, 5, .inr (.inr (.inr (.inr (kAll b))))))]
theorem wMB_end {cI cZ cO : ClassId} {b : Nat → Nat} {th : Int32} {n nw ns : Nat} {σ' σ η : Sg} {q1 : Nat} {D : va_G} {G : Heap} (h3 : σ' 3 = σ 3) (h6 : σ' 6 = σ 6) (hP : va_P D vwCl (wMB cI cZ cO b th n nw ns (encR σ) (σ 7) (encP nw σ) (σ 16) (σ 17) σ' σ η q1) G) : va_P D vwCl (wMK cI cZ cO b th n nw ns σ σ η) G := by
  refine hP.sub [0, 1, 2, 3, 4, 5, 6, 7, 8, 9, 10, 11, 12, 13, 14, 15, 16, 17, 18] ?_
  unfold wMB
  rw [h3, h6]
  rfl
