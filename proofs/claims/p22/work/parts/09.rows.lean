/-! ROWS copied, rows filled: static calls on one row or two of a larger world -/
def cpk (f g : Nat → Int32) (k : Nat) : Nat → Int32 := fun j => if j < k then f j else g j
theorem cpk_0 (f g : Nat → Int32) : cpk f g 0 = g := by funext j; simp [cpk]
theorem cpk_s (f g : Nat → Int32) (k : Nat) : upd (cpk f g k) k (f k) = cpk f g (k + 1) := by
  funext j
  unfold upd cpk
  by_cases h : j = k
  · subst h; simp
  · rw [if_neg h]
    by_cases h2 : j < k
    · rw [if_pos h2, if_pos (by omega)]
    · rw [if_neg h2, if_neg (by omega)]
theorem cpk_c (f g : Nat → Int32) (n : Nat) : va_cpy f g 0 0 n = cpk f g n := by
  funext j
  unfold va_cpy cpk
  by_cases h : j < n
  · rw [if_pos ⟨Nat.zero_le _, by omega⟩, if_pos h]
    congr 1
    omega
  · rw [if_neg (fun q => h (by omega)), if_neg h]
theorem D2_ {A : Nat → Prop} {b0 b1 : Nat} {e0 e1 : va_E} (h : b0 ≠ b1) (h0 : A b0) (h1 : A b1) : va_D A [(b0, e0), (b1, e1)] := by
  refine ⟨fun i j p q hi hj hpq => ?_, fun k q hk => ?_⟩
  · match i, j, hi, hj with
    | 0, 0, hi, hj => rfl
    | 0, 1, hi, hj => cases hi; cases hj; exact absurd hpq h
    | 1, 0, hi, hj => cases hi; cases hj; exact absurd hpq.symm h
    | 1, 1, hi, hj => rfl
    | i + 2, _, hi, _ => simp at hi
    | _, j + 2, _, hj => simp at hj
  · match k, hk with
    | 0, hk => cases hk; exact h0
    | 1, hk => cases hk; exact h1
    | k + 2, hk => simp at hk
theorem D1_ {A : Nat → Prop} {b0 : Nat} {e0 : va_E} (h0 : A b0) : va_D A [(b0, e0)] := by
  refine ⟨fun i j p q hi hj hpq => ?_, fun k q hk => ?_⟩
  · match i, j, hi, hj with
    | 0, 0, hi, hj => rfl
    | i + 1, _, hi, _ => simp at hi
    | _, j + 1, _, hj => simp at hj
  · match k, hk with
    | 0, hk => cases hk; exact h0
    | k + 1, hk => simp at hk
/-- a world whose cell q alone has changed -/
theorem va_P_one {D : va_G} {w : va_W} {A0 : Nat → Prop} {H H1 : Heap} {q0 b : Nat} {e e' : va_E} (hP : va_P D vwCl w H) (hD : va_D A0 w) (hq : w[q0]? = some (b, e)) (he : va_at D vwCl (b, e') H1) (hk : ∀ q : Nat, q < H.size → q ≠ b → H1[q]? = H[q]?) : va_P D vwCl (w.set q0 (b, e')) H1 := by
  have hl := (List.getElem?_eq_some_iff.mp hq).1
  intro k q h
  by_cases hkp : k = q0
  · subst hkp
    rw [List.getElem?_set_self hl] at h
    cases h
    exact he
  · rw [List.getElem?_set_ne (Ne.symm hkp)] at h
    exact (hP k q h).kept (hk q.1 (hP k q h).lt (fun z => hkp (hD.1 k q0 q (b, e) h hq z)))
theorem nI_xor {i j : Nat} (hi : i < 2 ^ 31) (hj : j < 2 ^ 31) : 0 ≤ nI i ^^^ nI j := by
  have h : nI i ^^^ nI j = nI (i ^^^ j) := by
    apply Int32.toBitVec_inj.mp
    show BitVec.ofNat 32 i ^^^ BitVec.ofNat 32 j = BitVec.ofNat 32 (i ^^^ j)
    apply BitVec.eq_of_toNat_eq
    have h3 : i ^^^ j < 2 ^ 31 := Nat.xor_lt_two_pow hi hj
    rw [BitVec.toNat_xor, BitVec.toNat_ofNat, BitVec.toNat_ofNat, BitVec.toNat_ofNat, Nat.mod_eq_of_lt (by omega), Nat.mod_eq_of_lt (by omega), Nat.mod_eq_of_lt (by omega)]
  rw [h]
  exact nI_pos' (Nat.xor_lt_two_pow hi hj)
section LWS
variable {p : Program} {l : Launch} {e : Env} {R : Room} {s : State} {m : MethodId} {args : Array Value} {below : List Frame} {meth : Method} {c : Code} {H : Heap} {locs : List Loc} {cells slots : Nat} {Q : State → Prop}
variable {cc : ByteArray} {pc : Nat} {ls : Array Slot} {rest st0 : List Value} {D : va_G} {tys : List (ClassId × FieldType)} {w w' : va_W} {A A0 : Nat → Prop} {H0 : Heap} {b0 b1 : Nat}
variable {y : MethodName} {bytes : ByteArray} {maxL nL n index : Nat} {ret : Option FieldType} {ws : List Cond} {rm : Room} {Ts : List Cond} {own : String} {q0 q1 N : Nat} {cX : ClassId} {f g : Nat → Int32}
/-- a call that copies the row at q0 into the row at q1 -/
theorem cpS (hx : p.tables.exec = Jvm.exec) (hb : c.code = cc) (hml : c.maxLocals = nL) (hown : s.vm.findClass own = some m.cls) (hts : ∀ w ∈ Ts, w.before args s = true)
    (hM : Met l y ws rm (ro_P D tys [(b0, .inl (cX, N, .inl f)), (b1, .inl (cX, N, .inl g))] H [.ref b0, .ref b1]) (mu_Q D [(b0, .inl (cX, N, .inl f)), (b1, .inl (cX, N, .inl (cpk f g N)))] (fun q => q = b0 ∨ q = b1)) 0 0 (fun q => q = b0 ∨ q = b1)) (cw : CallB R s args own index y bytes maxL ret ws rm 0 0 2 ∧ (Cond.static y).before args s = true)
    (hK : va_K D vwCl tys s) (hE : lwE s) (hP : va_P D vwCl w H) (hD : va_D A w) (h0 : w[q0]? = some (b0, .inl (cX, N, .inl f))) (h1 : w[q1]? = some (b1, .inl (cX, N, .inl g))) (hne : q0 ≠ q1) (hw : w.set q1 (b1, .inl (cX, N, .inl f)) = w') (hsz : ls.size = nL) (hW : (rest.map fun v => v.category).sum ≤ 8) (hS : va_S A H0 H locs) (hdg : decode cc pc = .ok (.invokestatic index, 3)) (hf : cells ≤ R.cells ∧ slots ≤ R.slots)
    (kk : ∀ (H1 : Heap) (locs1 : List Loc), va_P D vwCl w' H1 → va_S A H0 H1 locs1 → W p l e R s m args below meth c H1 locs1 cells slots Q (F0 m (pc + 3) ls rest)) : W p l e R s m args below meth c H locs cells slots Q (F0 m pc ls (.ref b1 :: .ref b0 :: rest)) := by
  have hb01 : b0 ≠ b1 := fun z => hne (hD.1 q0 q1 _ _ h0 h1 z)
  have hA0 : A b0 := hD.2 q0 _ h0
  have hA1 : A b1 := hD.2 q1 _ h1
  have hPc : va_P D vwCl [(b0, .inl (cX, N, .inl f)), (b1, .inl (cX, N, .inl g))] H := by
    intro k q hk
    match k, hk with
    | 0, hk => cases hk; exact hP q0 _ h0
    | 1, hk => cases hk; exact hP q1 _ h1
    | k + 2, hk => simp at hk
  refine muS (As := [.ref b0, .ref b1]) hx hb hml hown hts hM cw hK hE hPc rfl hsz rfl hW hS (fun q h => by rcases h with h | h <;> rw [h] <;> assumption) hdg hf (fun H1 locs1 hP1 hz hk hS1 => kk H1 locs1 ?_ hS1)
  have e0 : va_at D vwCl (b0, .inl (cX, N, .inl f)) H1 := hP1 0 _ rfl
  have e1 : va_at D vwCl (b1, .inl (cX, N, .inl (cpk f g N))) H1 := hP1 1 _ rfl
  have h2 : va_P D vwCl (w.set q1 (b1, .inl (cX, N, .inl (cpk f g N)))) H1 := by
    have hl := (List.getElem?_eq_some_iff.mp h1).1
    intro k q hkq
    by_cases hk1 : k = q1
    · subst hk1
      rw [List.getElem?_set_self hl] at hkq
      cases hkq
      exact e1
    · rw [List.getElem?_set_ne (Ne.symm hk1)] at hkq
      by_cases hk0 : k = q0
      · subst hk0
        have := hkq.symm.trans h0
        cases this
        exact e0
      · refine (hP k q hkq).kept (hk q.1 (hP k q hkq).lt (fun z => ?_))
        rcases z with z | z
        · exact hk0 (hD.1 k q0 q _ hkq h0 z)
        · exact hk1 (hD.1 k q1 q _ hkq h1 z)
  have hl := (List.getElem?_eq_some_iff.mp h1).1
  have h3 := va_P_row (q0 := q1) (g := f) h2 (List.getElem?_set_self hl) (fun j hj => by unfold cpk; rw [if_pos hj])
  rw [List.set_set, hw] at h3
  exact h3
/-- a call that fills the row at q0 with x -/
theorem flS {x : Int32} (hx : p.tables.exec = Jvm.exec) (hb : c.code = cc) (hml : c.maxLocals = nL) (hown : s.vm.findClass own = some m.cls) (hts : ∀ w ∈ Ts, w.before args s = true)
    (hM : Met l y ws rm (ro_P D tys [(b0, .inl (cX, N, .inl f))] H [.ref b0, .int x]) (mu_Q D [(b0, .inl (cX, N, .inl (cpk (fun _ => x) f N)))] (fun q => q = b0)) 0 0 (fun q => q = b0)) (cw : CallB R s args own index y bytes maxL ret ws rm 0 0 2 ∧ (Cond.static y).before args s = true)
    (hK : va_K D vwCl tys s) (hE : lwE s) (hP : va_P D vwCl w H) (hD : va_D A w) (h0 : w[q0]? = some (b0, .inl (cX, N, .inl f))) (hw : w.set q0 (b0, .inl (cX, N, .inl (fun _ => x))) = w') (hsz : ls.size = nL) (hW : (rest.map fun v => v.category).sum ≤ 8) (hS : va_S A H0 H locs) (hdg : decode cc pc = .ok (.invokestatic index, 3)) (hf : cells ≤ R.cells ∧ slots ≤ R.slots)
    (kk : ∀ (H1 : Heap) (locs1 : List Loc), va_P D vwCl w' H1 → va_S A H0 H1 locs1 → W p l e R s m args below meth c H1 locs1 cells slots Q (F0 m (pc + 3) ls rest)) : W p l e R s m args below meth c H locs cells slots Q (F0 m pc ls (.int x :: .ref b0 :: rest)) := by
  have hA0 : A b0 := hD.2 q0 _ h0
  have hPc : va_P D vwCl [(b0, .inl (cX, N, .inl f))] H := by
    intro k q hk
    match k, hk with
    | 0, hk => cases hk; exact hP q0 _ h0
    | k + 1, hk => simp at hk
  refine muS (As := [.ref b0, .int x]) hx hb hml hown hts hM cw hK hE hPc rfl hsz rfl hW hS (fun q h => by rw [h]; exact hA0) hdg hf (fun H1 locs1 hP1 hz hk hS1 => kk H1 locs1 ?_ hS1)
  have e0 : va_at D vwCl (b0, .inl (cX, N, .inl (cpk (fun _ => x) f N))) H1 := hP1 0 _ rfl
  have h2 := va_P_one hP hD h0 e0 hk
  have hl := (List.getElem?_eq_some_iff.mp h0).1
  have h3 := va_P_row (q0 := q0) (g := fun _ => x) h2 (List.getElem?_set_self hl) (fun j hj => by unfold cpk; rw [if_pos hj])
  rw [List.set_set, hw] at h3
  exact h3
end LWS
section LWF
theorem metofWF {l : Launch} {y : MethodName} {ws ws' : List Cond} {rm : Room} {Pc : Array Value → State → Prop} {Qc : Array Value → State → Outcome → State → Prop} {mc ms : Nat} {free : Addr → Prop} {cc : ByteArray} {maxL : Nat} {ret : Option FieldType}
    (hy : plainFor y = true) (hw : ws = Cond.code y cc maxL ret :: ws')
    (body : ∀ p e s m args below meth c s₁, BodyLoose p l y (headSpec ws rm) cc maxL ret e s m args below meth c s₁ → c.maxLocals = maxL → Pc args s →
      W p l e (headSpec ws rm).room s m args below meth c s.heap [] 0 0 (MQ below Qc args s mc ms free) (entryFrame m args maxL)) : Met l y ws rm Pc Qc mc ms free := by
  refine MetFree.of_bodySF (code := cc) (maxLocals := maxL) (ret := ret) hy ?_ ?_
  · intro args s m h hn
    obtain ⟨meth, c, h1, h2, h3, h4, h5, h6, -, -⟩ := Cond.code_spec hn (atoms_spec (ws := ws) h _ (by rw [hw]; exact List.mem_cons_self))
    exact ⟨meth, c, h1, h2, h3, h4, h5, h6⟩
  · intro p e s m args below meth c s₁ B hml hP _
    have hh0 : s₁.heap = s.heap := by rw [B.state]; rfl
    obtain ⟨t, a1, o, b1, b2, b3⟩ := body p e s m args below meth c s₁ B hml hP s₁ hh0 (Stand.of_body B)
    exact ⟨t, o, a1, b1, b2, ⟨b3.1, b3.2⟩⟩
variable {l : Launch} {y : MethodName} {ws ws' : List Cond} {rm : Room} {cc : ByteArray} {maxL : Nat} {ty : FieldType} {D : va_G} {tys : List (ClassId × FieldType)} {w w' : va_W} {H : Heap} {av : List Value} {v : Int32} {A : Nat → Prop}
/-- a read-only method, from its body -/
theorem ro_ofF (hy : plainFor y = true) (hw : ws = Cond.code y cc maxL (some ty) :: ws') (hlen : (lg_sl av).length ≤ maxL) (hn : narrow ty (.int v) = .int v)
    (body : ∀ (p : Program) (e : Env) (s : State) (m : MethodId) (args : Array Value) (below : List Frame) (meth : Method) (c : Code) (Q : State → Prop) (ls : Array Slot) (locs : List Loc),
      p.tables.exec = Jvm.exec → c.code = cc → c.maxLocals = maxL → s.vm.findClass y.cls = some m.cls → (∀ w ∈ ws, w.before args s = true) → va_K D vwCl tys s → lwE s → va_P D vwCl w H → lv_has ls maxL (lv_args 0 av) → va_S (fun _ => False) H H locs →
      (∀ (pc : Nat) (ls : Array Slot) (locs : List Loc), decode cc pc = .ok (.ireturn, 1) → va_S (fun _ => False) H H locs → W p l e rm s m args below meth c H locs 0 0 Q (F0 m pc ls [.int v])) →
      W p l e rm s m args below meth c H locs 0 0 Q (F0 m 0 ls [])) : Met l y ws rm (ro_P D tys w H av) (ro_Q v H) 0 0 (fun _ => False) := by
  refine metofWF (cc := cc) (maxL := maxL) (ret := some ty) hy hw ?_
  intro p e s m args below meth c s₁ B hml hv
  obtain ⟨rfl, rfl, hP, hK, hE⟩ := hv
  have hx := B.exec
  have hb := B.bytes
  have hr := B.returns
  have hts := atoms_spec (ws := ws) B.pre
  have hown : s.vm.findClass y.cls = some m.cls := findClass_of_methodNamed B.named
  have hlocks := B.notSynchronized
  have hl := lv_entry av (n := maxL) hlen
  rw [lg_entry_eq]
  generalize (lg_sl av ++ List.replicate (maxL - (lg_sl av).length) Slot.unset).toArray = ls at hl ⊢
  exact body p e s m _ below meth c _ ls [] hx hb hml hown hts hK hE hP hl va_S.rf (fun pc ls locs hd hS => W.zret (v := v) hx hb hr hn (fun t ht hW => ⟨⟨v, (), rfl, rfl, ht⟩, hS.F ht⟩) hS.2.2 hd hlocks)
end LWF
