/-! ROWS for the class's calls: a long answered by a method that changes nothing; what the tests of the arguments say, in whole numbers -/
def rl_Q (v : Int64) (H : Heap) : Array Value → State → Outcome → State → Prop := va_Ql (fun (r : Int64) (_ : Unit) => r = v) (fun _ t => t.heap = H) (fun _ => False)
section LRL
variable {l : Launch} {y : MethodName} {ws ws' : List Cond} {rm : Room} {cc : ByteArray} {maxL : Nat} {D : va_G} {tys : List (ClassId × FieldType)} {w w' : va_W} {H : Heap} {av : List Value} {v : Int64}
theorem rl_of (hy : plainName y.cls = true) (hw : ws = Cond.code y cc maxL (some .long) :: ws') (hlen : (lg_sl av).length ≤ maxL)
    (body : ∀ (p : Program) (e : Env) (s : State) (m : MethodId) (args : Array Value) (below : List Frame) (meth : Method) (c : Code) (Q : State → Prop) (ls : Array Slot) (locs : List Loc),
      p.tables.exec = Jvm.exec → c.code = cc → c.maxLocals = maxL → s.vm.findClass y.cls = some m.cls → (∀ w ∈ ws, w.before args s = true) → va_K D vwCl tys s → lwE s → va_P D vwCl w H → lv_has ls maxL (lv_args 0 av) → va_S (fun _ => False) H H locs →
      (∀ (pc : Nat) (ls : Array Slot) (locs : List Loc), decode cc pc = .ok (.lreturn, 1) → va_S (fun _ => False) H H locs → W p l e rm s m args below meth c H locs 0 0 Q (F0 m pc ls [.long v])) →
      W p l e rm s m args below meth c H locs 0 0 Q (F0 m 0 ls [])) : Met l y ws rm (ro_P D tys w H av) (rl_Q v H) 0 0 (fun _ => False) := by
  refine Met.ofW (cc := cc) (maxL := maxL) (ret := some .long) hy hw ?_
  intro p e s m args below meth c s₁ B hml hv
  obtain ⟨rfl, rfl, hP, hK, hE⟩ := hv
  have hx := B.exec
  have hb := B.bytes
  have hr := B.returns
  have hts := atoms_spec (ws := ws) B.pre
  have hown : s.vm.findClass y.cls = some m.cls := findClass_of_methodNamed B.named
  have hlocks := B.notSynchronized
  have hl := lv_entry av (n := maxL) hlen
  rw [lg_entry_eq]
  generalize (lg_sl av ++ List.replicate (maxL - (lg_sl av).length) Slot.unset).toArray = ls at hl ⊢
  exact body p e s m _ below meth c _ ls [] hx hb hml hown hts hK hE hP hl va_S.rf (fun pc ls locs hd hS => W.lret (v := v) hx hb hr (fun t ht hW => ⟨⟨v, (), rfl, rfl, ht⟩, hS.F ht⟩) hS.2.2 hd hlocks)
end LRL
section LRC
variable {p : Program} {l : Launch} {e : Env} {R : Room} {s : State} {m : MethodId} {args : Array Value} {below : List Frame} {meth : Method} {c : Code} {H : Heap} {locs : List Loc} {cells slots : Nat} {Q : State → Prop}
variable {cc : ByteArray} {pc : Nat} {ls : Array Slot} {rest st0 : List Value} {D : va_G} {tys : List (ClassId × FieldType)} {w w' : va_W} {A A0 A1 : Nat → Prop} {H0 : Heap} {b : Nat}
variable {y : MethodName} {bytes : ByteArray} {maxL nL n index mc ms : Nat} {ret : Option FieldType} {ws : List Cond} {rm : Room} {Ts : List Cond} {own C : String} {As : List Value} {v : Int64} {ci q0 : Nat} {fs : List Value} {q9 : vw_C}
theorem rlV (hx : p.tables.exec = Jvm.exec) (hb : c.code = cc) (hml : c.maxLocals = nL) (hown : s.vm.findClass own = some m.cls) (hts : ∀ w ∈ Ts, w.before args s = true) (hM : Met l y ws rm (ro_P D tys w H (.ref b :: As)) (rl_Q v H) 0 0 (fun _ => False)) (cw : CallW R s args own C index y bytes maxL ret ws rm 0 0 n)
    (hK : va_K D vwCl tys s) (hE : lwE s) (hP : va_P D vwCl w H) (hc : vwCl[ci]? = some q9) (hq : q9.1 = C) (he : w[q0]? = some (b, .inr (ci, fs))) (hn : As.length = n) (hsz : ls.size = nL) (hst : st0 = As.reverse ++ .ref b :: rest) (hW : (rest.map fun v => v.category).sum ≤ 8) (hS : va_S A0 H0 H locs) (hdg : decode cc pc = .ok (.invokevirtual index, 3)) (hf : cells ≤ R.cells ∧ slots ≤ R.slots)
    (kk : ∀ locs1 : List Loc, va_S A0 H0 H locs1 → W p l e R s m args below meth c H locs1 cells slots Q (F0 m (pc + 3) ls (.long v :: rest))) : W p l e R s m args below meth c H locs cells slots Q (F0 m pc ls st0) := by
  subst hq
  refine va_calll (va_runV (As := As) (rest := rest) ⟨hx, hb, hml, hown, hts⟩ hM cw ⟨ro_blind, va_recv hK hP hc he, fun U hU hW => ⟨rfl, hU, hP, va_K.moved hW.alike hK, lwE.warm hW hE⟩⟩ rfl hn hsz hst (lv_room hW) hdg hf) hS (fun q _ h => h.elim) (fun q h => h.elim) (fun r u t H1 locs1 ht hvm hw hB hz1 hk1 hS1 => ?_)
  have h1 : t.heap = H := hB
  have h2 : H1 = H := ht.symm.trans h1
  subst h2
  have h3 : r = v := hw
  subst h3
  exact kk locs1 hS1
theorem rlS (hx : p.tables.exec = Jvm.exec) (hb : c.code = cc) (hml : c.maxLocals = nL) (hown : s.vm.findClass own = some m.cls) (hts : ∀ w ∈ Ts, w.before args s = true) (hM : Met l y ws rm (ro_P D tys w H As) (rl_Q v H) 0 0 (fun _ => False)) (cw : CallB R s args own index y bytes maxL ret ws rm 0 0 n ∧ (Cond.static y).before args s = true)
    (hK : va_K D vwCl tys s) (hE : lwE s) (hP : va_P D vwCl w H) (hn : As.length = n) (hsz : ls.size = nL) (hst : st0 = As.reverse ++ rest) (hW : (rest.map fun v => v.category).sum ≤ 8) (hS : va_S A0 H0 H locs) (hdg : decode cc pc = .ok (.invokestatic index, 3)) (hf : cells ≤ R.cells ∧ slots ≤ R.slots)
    (kk : ∀ locs1 : List Loc, va_S A0 H0 H locs1 → W p l e R s m args below meth c H locs1 cells slots Q (F0 m (pc + 3) ls (.long v :: rest))) : W p l e R s m args below meth c H locs cells slots Q (F0 m pc ls st0) := by
  refine va_calll (va_runS (As := As) (rest := rest) ⟨hx, hb, hml, hown, hts⟩ hM cw ⟨ro_blind, fun U hU hW => ⟨rfl, hU, hP, va_K.moved hW.alike hK, lwE.warm hW hE⟩⟩ rfl hn hsz hst (lv_room hW) hdg hf) hS (fun q _ h => h.elim) (fun q h => h.elim) (fun r u t H1 locs1 ht hvm hw hB hz1 hk1 hS1 => ?_)
  have h1 : t.heap = H := hB
  have h2 : H1 = H := ht.symm.trans h1
  subst h2
  have h3 : r = v := hw
  subst h3
  exact kk locs1 hS1
end LRC
/-- which exception a refusal is -/
def nmK (L : List String) (k : Nat) : String := L.getD (k - 1) ""
theorem tI_0 : (0 : Int32).toInt = 0 := by decide
theorem tI_m1 : (-1 : Int32).toInt = -1 := by decide
theorem eq_tI {x y : Int32} : x = y ↔ x.toInt = y.toInt := Int32.toInt_inj.symm
theorem nat_in {x : Int32} {lo hi : Nat} (h : (lo : Int) ≤ x.toInt ∧ x.toInt ≤ (hi : Int)) (hh : hi < 2 ^ 31) : ∃ j : Nat, lo ≤ j ∧ j ≤ hi ∧ x = nI j := by
  obtain ⟨j, hj, rfl⟩ := nI_of (x := x) (fun z => by rw [Int32.lt_iff_toInt_lt, tI_0] at z; omega)
  rw [nI_toInt hj] at h
  exact ⟨j, by omega, by omega, rfl⟩
/-- a pass, and what is answered, by the way alone -/
def sPassT (n pl nw ns : Nat) (σ : Sg) (p0 : Int32) : Sg := if kPass n p0 = 0 then trj n pl nw ns σ (nN p0) else σ
def vPassT (n pl nw ns : Nat) (σ : Sg) (p0 : Int32) : Int32 := ifk (kPass n p0) (nI (hm (trj n pl nw ns σ (nN p0)) nw (nI 2)) - nI (hm σ nw (nI 2)))
def plAdd (n pl : Nat) (σ : Sg) (x y : Int32) : Nat := if kAdd n σ x y = 0 then pl + nN x else pl
