/-! ROWS OF THE LAW: calls of the class out of a key world, the law's two small methods, calls that make cells -/
def xC (cI cZ : ClassId) (b : Nat → Nat) (n pl nw ns : Nat) (σ : Sg) (u : S3) : Nat → va_E := fun i => ((wX cI cZ b n pl nw ns σ u.1 u.2.1 u.2.2).getD i (0, .inl (cI, 0, .inl (fun _ => 0)))).2
section KX
variable {D : va_G} {M : Km} {a a1 : Ka} {H H1 : Heap} {A : Nat → Prop} {cI cZ cW cO : ClassId} {X : Nat → va_E} {b : Nat → Nat} {n pl nw ns : Nat} {σ : Sg} {u : S3} {e : Ke}
theorem xC_at {k : Nat} {q : Nat × va_E} (h : (wX cI cZ b n pl nw ns σ u.1 u.2.1 u.2.2)[k]? = some q) : k < 41 ∧ q = (b k, xC cI cZ b n pl nw ns σ u k) := by
  obtain ⟨h1, h2⟩ := wX_adr k q h
  refine ⟨h1, Prod.ext h2 ?_⟩
  unfold xC
  rw [List.getD_eq_getElem?_getD, h]
  rfl
theorem kX_of (hP : kP D M a e H) (h41 : km M 0 = 41) (he : ∀ i, e 0 i = xC cI cZ (a 0) n pl nw ns σ u i) : va_P D vwCl (wX cI cZ (a 0) n pl nw ns σ u.1 u.2.1 u.2.2) H := fun k q hq => by
  obtain ⟨h1, h2⟩ := xC_at hq
  rw [h2, ← he]
  exact hP 0 k (by rw [h41]; exact h1)
theorem wX_len : (wX cI cZ b n pl nw ns σ u.1 u.2.1 u.2.2).length = 41 := rfl
theorem kX_to (hP : va_P D vwCl (wX cI cZ b n pl nw ns σ u.1 u.2.1 u.2.2) H) {i : Nat} (hi : i < 41) : va_at D vwCl (b i, xC cI cZ b n pl nw ns σ u i) H := by
  have h0 : ∃ q, (wX cI cZ b n pl nw ns σ u.1 u.2.1 u.2.2)[i]? = some q := ⟨_, List.getElem?_eq_getElem (by rw [wX_len]; exact hi)⟩
  obtain ⟨q, hq⟩ := h0
  have := (xC_at hq).2
  subst this
  exact hP i _ hq
theorem okP_k (hO : kO A M a) (h41 : km M 0 = 41) : okP (kA [41] a) (a 0) 41 :=
  ⟨fun i j hi hj h => (hO.1 0 i 0 j (by rw [h41]; exact hi) (by rw [h41]; exact hj) h).2, fun i hi => ⟨0, i, hi, rfl⟩⟩
theorem kA_k (hO : kO A M a) (h41 : km M 0 = 41) : ∀ q, kA [41] a q → A q := fun q ⟨c, i, hi, e⟩ => by
  match c, hi with
  | 0, hi => rw [e]; exact hO.2 0 i (by rw [h41]; exact hi)
  | c + 1, hi => exact absurd hi (Nat.not_lt_zero _)
/-- behind a call on the class alone -/
theorem kX_join {X' : Nat → va_E} {n9 nw9 ns9 : Nat} {σ9 η9 : Sg} {T : Ke} (hO : kO A M a) (h41 : km M 0 = 41) (hP : kP D M a (eL cI cZ cW cO X a n9 nw9 ns9 σ9 η9 T) H) (hP1 : ∀ i, i < 41 → va_at D vwCl (a 0 i, X' i) H1) (hk : ∀ q : Nat, q < H.size → ¬ kA [41] a q → H1[q]? = H[q]?) : kP D M a (eL cI cZ cW cO X' a n9 nw9 ns9 σ9 η9 T) H1 := by
  intro c i hi
  match c, hi with
  | 0, hi => exact hP1 i (by rw [h41] at hi; exact hi)
  | c + 1, hi =>
    have h0 := hP (c + 1) i hi
    have h1 : eL cI cZ cW cO X' a n9 nw9 ns9 σ9 η9 T (c + 1) i = eL cI cZ cW cO X a n9 nw9 ns9 σ9 η9 T (c + 1) i := by
      match c with
      | 0 => rfl
      | 1 => rfl
      | 2 => rfl
      | 3 => rfl
      | c + 4 => rfl
    rw [h1]
    refine h0.kept (hk _ h0.lt ?_)
    rintro ⟨d, j, hj, e9⟩
    match d, hj with
    | 0, hj => exact absurd (hO.1 (c + 1) i 0 j hi (by rw [h41]; exact hj) e9).1 (by omega)
    | d + 1, hj => exact absurd hj (Nat.not_lt_zero _)
end KX
section LWK
variable {p : Program} {l : Launch} {e : Env} {R : Room} {s : State} {m : MethodId} {args : Array Value} {below : List Frame} {meth : Method} {c : Code} {H : Heap} {locs : List Loc} {cells slots : Nat} {Q : State → Prop}
variable {cc : ByteArray} {pc : Nat} {ls : Array Slot} {rest st0 As : List Value} {D : va_G} {A0 A1 : Nat → Prop} {H0 : Heap} {M M0 M1 : Km} {a : Ka} {cI cZ cW cO : ClassId} {X : Nat → va_E} {T : Ke} {η9 σ9 : Sg} {n9 nw9 ns9 : Nat}
variable {y : MethodName} {ws Ts : List Cond} {rm : Room} {v : Int32} {own : String} {index maxL nL nar mc ms : Nat} {bytes : ByteArray} {ret : Option FieldType} {n pl nw ns n' pl' nw' ns' : Nat} {σ σ' : Sg} {u : S3}
/-- a call of the class: its int, its world anew -/
theorem ayK (hx : p.tables.exec = Jvm.exec) (hb : c.code = cc) (hml : c.maxLocals = nL) (hown : s.vm.findClass own = some m.cls) (hts : ∀ w ∈ Ts, w.before args s = true) (hM : Met l y ws rm (ro_P D (T4 cI cZ cW cO) (wX cI cZ (a 0) n pl nw ns σ u.1 u.2.1 u.2.2) H (.ref (a 0 40) :: As)) (ay_Q D v (fun u : S3 => wX cI cZ (a 0) n' pl' nw' ns' σ' u.1 u.2.1 u.2.2) (kA [41] a)) 0 0 (kA [41] a)) (cw : CallW R s args own RX2 index y bytes maxL ret ws rm 0 0 nar)
    (hK : va_K D vwCl (T4 cI cZ cW cO) s) (hE : lwE s) (hO : kO A0 M a) (h41 : km M 0 = 41) (hP : kP D M a (eL cI cZ cW cO (xC cI cZ (a 0) n pl nw ns σ u) a n9 nw9 ns9 σ9 η9 T) H) (hn : As.length = nar) (hsz : ls.size = nL) (hst : st0 = As.reverse ++ .ref (a 0 40) :: rest) (hW : (rest.map fun v => v.category).sum ≤ 8) (hS : va_S A0 H0 H locs) (hdg : decode cc pc = .ok (.invokevirtual index, 3)) (hf : cells ≤ R.cells ∧ slots ≤ R.slots)
    (kk : ∀ (u' : S3) (H1 : Heap) (locs1 : List Loc), kP D M a (eL cI cZ cW cO (xC cI cZ (a 0) n' pl' nw' ns' σ' u') a n9 nw9 ns9 σ9 η9 T) H1 → va_S A0 H0 H1 locs1 → W p l e R s m args below meth c H1 locs1 cells slots Q (F0 m (pc + 3) ls (.int v :: rest))) : W p l e R s m args below meth c H locs cells slots Q (F0 m pc ls st0) := by
  have hPx : va_P D vwCl (wX cI cZ (a 0) n pl nw ns σ u.1 u.2.1 u.2.2) H := kX_of hP h41 (fun _ => rfl)
  have hA := kA_k hO h41
  refine va_calli (va_runV (As := As) (rest := rest) ⟨hx, hb, hml, hown, hts⟩ hM cw ⟨ro_blind, va_recv (q0 := 40) (ci := 2) hK hPx rfl rfl, fun U hU hW => ⟨rfl, hU, hPx, va_K.moved hW.alike hK, lwE.warm hW hE⟩⟩ rfl hn hsz hst (lv_room hW) hdg hf) hS (fun q _ h => hA q h) hA (fun r u' t H1 locs1 ht hvm hw hB hz1 hk1 hS => ?_)
  have h1 : va_P D vwCl (wX cI cZ (a 0) n' pl' nw' ns' σ' u'.1 u'.2.1 u'.2.2) t.heap := hB
  rw [ht] at h1
  have h3 : r = v := hw
  subst h3
  exact kk u' H1 locs1 (kX_join hO h41 hP (fun i hi => kX_to h1 hi) hk1) hS
theorem mdK {v : UInt64} (hx : p.tables.exec = Jvm.exec) (hb : c.code = cc) (hml : c.maxLocals = nL) (hown : s.vm.findClass own = some m.cls) (hts : ∀ w ∈ Ts, w.before args s = true) (hM : Met l y ws rm (ro_P D (T4 cI cZ cW cO) (wX cI cZ (a 0) n pl nw ns σ u.1 u.2.1 u.2.2) H (.ref (a 0 40) :: As)) (md_Q D v (wX cI cZ (a 0) n pl nw ns σ u.1 u.2.1 u.2.2) (kA [41] a)) 0 0 (kA [41] a)) (cw : CallW R s args own RX2 index y bytes maxL ret ws rm 0 0 nar)
    (hK : va_K D vwCl (T4 cI cZ cW cO) s) (hE : lwE s) (hO : kO A0 M a) (h41 : km M 0 = 41) (hP : kP D M a (eL cI cZ cW cO (xC cI cZ (a 0) n pl nw ns σ u) a n9 nw9 ns9 σ9 η9 T) H) (hn : As.length = nar) (hsz : ls.size = nL) (hst : st0 = As.reverse ++ .ref (a 0 40) :: rest) (hW : (rest.map fun v => v.category).sum ≤ 8) (hS : va_S A0 H0 H locs) (hdg : decode cc pc = .ok (.invokevirtual index, 3)) (hf : cells ≤ R.cells ∧ slots ≤ R.slots)
    (kk : ∀ (H1 : Heap) (locs1 : List Loc), kP D M a (eL cI cZ cW cO (xC cI cZ (a 0) n pl nw ns σ u) a n9 nw9 ns9 σ9 η9 T) H1 → va_S A0 H0 H1 locs1 → W p l e R s m args below meth c H1 locs1 cells slots Q (F0 m (pc + 3) ls (.double v :: rest))) : W p l e R s m args below meth c H locs cells slots Q (F0 m pc ls st0) := by
  have hPx : va_P D vwCl (wX cI cZ (a 0) n pl nw ns σ u.1 u.2.1 u.2.2) H := kX_of hP h41 (fun _ => rfl)
  have hA := kA_k hO h41
  refine va_calld (va_runV (As := As) (rest := rest) ⟨hx, hb, hml, hown, hts⟩ hM cw ⟨ro_blind, va_recv (q0 := 40) (ci := 2) hK hPx rfl rfl, fun U hU hW => ⟨rfl, hU, hPx, va_K.moved hW.alike hK, lwE.warm hW hE⟩⟩ rfl hn hsz hst (lv_room hW) hdg hf) hS (fun q _ h => hA q h) hA (fun r u' t H1 locs1 ht hvm hw hB hz1 hk1 hS => ?_)
  have h1 : va_P D vwCl (wX cI cZ (a 0) n pl nw ns σ u.1 u.2.1 u.2.2) t.heap := hB
  rw [ht] at h1
  have h3 : r = v := hw
  subst h3
  exact kk H1 locs1 (kX_join hO h41 hP (fun i hi => kX_to h1 hi) hk1) hS
/-- a call of the simulation that makes cells -/
def kF (M : Km) (a : Ka) (h0 : Nat) : Nat → Prop := fun q => kA M a q ∨ h0 ≤ q
theorem knK {fs : List Value} {e0 : Ke} {e1 : Ka → Ke} (hx : p.tables.exec = Jvm.exec) (hb : c.code = cc) (hml : c.maxLocals = nL) (hown : s.vm.findClass own = some m.cls) (hts : ∀ w ∈ Ts, w.before args s = true) (hM : Met l y ws rm (ro_P D (T4 cI cZ cW cO) (wK M0 a e0) H (.ref (a 1 0) :: As)) (kn_Q D M0 M1 a e1 H.size (kF M0 a H.size)) mc ms (kF M0 a H.size)) (cw : CallW R s args own RX3 index y bytes maxL ret ws rm mc ms nar)
    (hK : va_K D vwCl (T4 cI cZ cW cO) s) (hE : lwE s) (hP : kP D M0 a e0 H) (h10 : 0 < km M0 1) (he : e0 1 0 = .inr (3, fs)) (hn : As.length = nar) (hsz : ls.size = nL) (hst : st0 = As.reverse ++ .ref (a 1 0) :: rest) (hW : (rest.map fun v => v.category).sum ≤ 8) (hS : va_S A0 H0 H locs) (hA : ∀ q, kF M0 a H.size q → A0 q) (hdg : decode cc pc = .ok (.invokevirtual index, 3)) (hf : cells + mc ≤ R.cells ∧ slots + ms ≤ R.slots)
    (kk : ∀ (b : Ka) (H1 : Heap) (locs1 : List Loc), kP D M1 b (e1 b) H1 → kO (kF M0 a H.size) M1 b → (∀ c i, i < km M1 c → (i < km M0 c ∧ b c i = a c i) ∨ H.size ≤ b c i) → b 1 0 = a 1 0 → H.size ≤ H1.size → (∀ q : Nat, q < H.size → ¬ kF M0 a H.size q → H1[q]? = H[q]?) → va_S A0 H0 H1 locs1 → W p l e R s m args below meth c H1 locs1 (cells + mc) (slots + ms) Q (F0 m (pc + 3) ls rest)) : W p l e R s m args below meth c H locs cells slots Q (F0 m pc ls st0) := by
  obtain ⟨q0, hq0, -⟩ := wK_at (a := a) (e := e0) h10
  rw [he] at hq0
  refine va_callv (va_runV (As := As) (rest := rest) ⟨hx, hb, hml, hown, hts⟩ hM cw ⟨ro_blind, va_recv (q0 := q0) (ci := 3) hK hP.w rfl hq0, fun U hU hW => ⟨rfl, hU, hP.w, va_K.moved hW.alike hK, lwE.warm hW hE⟩⟩ rfl hn hsz hst (lv_room hW) hdg hf) hS (fun q _ h => hA q h) hA (fun b t H1 locs1 ht hvm hw hB hz1 hk1 hS => ?_)
  have h1 : kP D M1 b (e1 b) t.heap := hB
  rw [ht] at h1
  exact kk b H1 locs1 h1 hw.1 hw.2.1 hw.2.2 hz1 hk1 hS
/-- a static call that reads nothing of the world -/
theorem roS0 (hx : p.tables.exec = Jvm.exec) (hb : c.code = cc) (hml : c.maxLocals = nL) (hown : s.vm.findClass own = some m.cls) (hts : ∀ w ∈ Ts, w.before args s = true) (hM : Met l y ws rm (ro_P D (T4 cI cZ cW cO) [] H As) (ro_Q v H) 0 0 (fun _ => False)) (cw : CallB R s args own index y bytes maxL ret ws rm 0 0 nar ∧ (Cond.static y).before args s = true)
    (hK : va_K D vwCl (T4 cI cZ cW cO) s) (hE : lwE s) (hn : As.length = nar) (hsz : ls.size = nL) (hst : st0 = As.reverse ++ rest) (hW : (rest.map fun v => v.category).sum ≤ 8) (hS : va_S A0 H0 H locs) (hdg : decode cc pc = .ok (.invokestatic index, 3)) (hf : cells ≤ R.cells ∧ slots ≤ R.slots)
    (kk : ∀ locs1 : List Loc, va_S A0 H0 H locs1 → W p l e R s m args below meth c H locs1 cells slots Q (F0 m (pc + 3) ls (.int v :: rest))) : W p l e R s m args below meth c H locs cells slots Q (F0 m pc ls st0) :=
  roS hx hb hml hown hts hM cw hK hE (fun k q h => by cases h) hn hsz hst hW hS hdg hf kk
/-- a call that reads the script -/
def rx_P (D : va_G) (tys : List (ClassId × FieldType)) (w : va_W) (H : Heap) (av : List Value) (b L : Nat) (xs : Nat → Int32) : Array Value → State → Prop := va_Pc av (fun U => (U.heap = H ∧ va_P D vwCl w H ∧ va_K D vwCl tys U ∧ lwE U) ∧ va_X b L xs U H)
theorem rx_blind {tys : List (ClassId × FieldType)} {w : va_W} {av : List Value} {b L : Nat} {xs : Nat → Int32} : FrameBlind (rx_P D tys w H av b L xs) := fun a U g mk q => ⟨q.1, (ro_blind (av := av) a U g mk ⟨q.1, q.2.1⟩).2, va_X.moved (u := U) (U := U.calling g mk a) (Vm.Alike.refl U.vm) q.2.2⟩
def cy_Q (H : Heap) : Array Value → State → Outcome → State → Prop := va_Qi (fun (_ : Int32) (_ : Unit) => True) (fun _ t => t.heap = H) (fun _ => False)
theorem cyS {b L : Nat} {xs : Nat → Int32} (hx : p.tables.exec = Jvm.exec) (hb : c.code = cc) (hml : c.maxLocals = nL) (hown : s.vm.findClass own = some m.cls) (hts : ∀ w ∈ Ts, w.before args s = true) (hM : Met l y ws rm (rx_P D (T4 cI cZ cW cO) [] H As b L xs) (cy_Q H) 0 0 (fun _ => False)) (cw : CallB R s args own index y bytes maxL ret ws rm 0 0 nar ∧ (Cond.static y).before args s = true)
    (hK : va_K D vwCl (T4 cI cZ cW cO) s) (hE : lwE s) (hX : va_X b L xs s H) (hn : As.length = nar) (hsz : ls.size = nL) (hst : st0 = As.reverse ++ rest) (hW : (rest.map fun v => v.category).sum ≤ 8) (hS : va_S A0 H0 H locs) (hdg : decode cc pc = .ok (.invokestatic index, 3)) (hf : cells ≤ R.cells ∧ slots ≤ R.slots)
    (kk : ∀ (v : Int32) (locs1 : List Loc), va_S A0 H0 H locs1 → W p l e R s m args below meth c H locs1 cells slots Q (F0 m (pc + 3) ls (.int v :: rest))) : W p l e R s m args below meth c H locs cells slots Q (F0 m pc ls st0) := by
  refine va_calli (va_runS (As := As) (rest := rest) ⟨hx, hb, hml, hown, hts⟩ hM cw ⟨rx_blind, fun U hU hW => ⟨rfl, ⟨hU, (fun k q h => by cases h), va_K.moved hW.alike hK, lwE.warm hW hE⟩, va_X.moved hW.alike hX⟩⟩ rfl hn hsz hst (lv_room hW) hdg hf) hS (fun q _ h => h.elim) (fun q h => h.elim) (fun r u t H1 locs1 ht hvm hw hB hz1 hk1 hS1 => ?_)
  have h1 : t.heap = H := hB
  have h2 : H1 = H := ht.symm.trans h1
  subst h2
  exact kk r locs1 hS1
end LWK
/-- a number below N out of any number -/
def bl (v : Int32) (N : Nat) : Nat := nN (v &&& (2147483647)) % N
theorem and_nI (v : Int32) : (v &&& (2147483647)) = nI (nN (v &&& (2147483647))) ∧ nN (v &&& (2147483647)) < 2 ^ 31 := by
  have h1 : 0 ≤ (v &&& (2147483647)).toInt := by
    have : (v &&& (2147483647 : Int32)).toBitVec.msb = false := by
      rw [Int32.toBitVec_and, BitVec.msb_and]
      simp
      intro _
      decide
    rw [← Int32.toInt_toBitVec, BitVec.toInt_eq_toNat_of_msb this]
    omega
  have h2 : (v &&& (2147483647)).toInt < 2 ^ 31 := Int32.toInt_lt _
  have h3 : nN (v &&& (2147483647)) = (v &&& (2147483647)).toInt.toNat := rfl
  refine ⟨?_, by omega⟩
  apply Int32.toInt_inj.mp
  rw [h3]
  unfold nI
  rw [Int32.toInt_ofNat_of_lt (by omega)]
  omega
theorem bl_eq {v : Int32} {N : Nat} (h0 : 0 < N) (hN : N ≤ 1000) : (v &&& (2147483647)) - (v &&& (2147483647)) / nI N * nI N = nI (bl v N) := by
  obtain ⟨h1, h2⟩ := and_nI v
  rw [h1, pk_rem h2 h0 (by omega)]
  rfl
theorem bl_lt {v : Int32} {N : Nat} (h0 : 0 < N) : bl v N < N := Nat.mod_lt _ h0
theorem cy_of {l : Launch} {y : MethodName} {ws ws' : List Cond} {rm : Room} {cc : ByteArray} {maxL : Nat} {av : List Value} {D : va_G} {tys : List (ClassId × FieldType)} {H : Heap} {b L : Nat} {xs : Nat → Int32} (hy : plainName y.cls = true) (hw : ws = Cond.code y cc maxL (some .int) :: ws') (hlen : (lg_sl av).length ≤ maxL)
    (body : ∀ (p : Program) (e : Env) (s : State) (m : MethodId) (args : Array Value) (below : List Frame) (meth : Method) (c : Code) (Q : State → Prop) (ls : Array Slot) (locs : List Loc),
      p.tables.exec = Jvm.exec → c.code = cc → c.maxLocals = maxL → s.vm.findClass y.cls = some m.cls → (∀ w ∈ ws, w.before args s = true) → va_X b L xs s H → lv_has ls maxL (lv_args 0 av) → va_S (fun _ => False) H H locs →
      (∀ (pc : Nat) (ls : Array Slot) (locs : List Loc) (v : Int32), decode cc pc = .ok (.ireturn, 1) → va_S (fun _ => False) H H locs → W p l e rm s m args below meth c H locs 0 0 Q (F0 m pc ls [.int v])) →
      W p l e rm s m args below meth c H locs 0 0 Q (F0 m 0 ls [])) : Met l y ws rm (rx_P D tys [] H av b L xs) (cy_Q H) 0 0 (fun _ => False) := by
  refine Met.ofW (cc := cc) (maxL := maxL) (ret := some .int) hy hw ?_
  intro p e s m args below meth c s₁ B hml hv
  obtain ⟨rfl, ⟨rfl, hP, hK, hE⟩, hX⟩ := hv
  have hx := B.exec
  have hb := B.bytes
  have hr := B.returns
  have hts := atoms_spec (ws := ws) B.pre
  have hown : s.vm.findClass y.cls = some m.cls := findClass_of_methodNamed B.named
  have hlocks := B.notSynchronized
  have hl := lv_entry av (n := maxL) hlen
  rw [lg_entry_eq]
  generalize (lg_sl av ++ List.replicate (maxL - (lg_sl av).length) Slot.unset).toArray = ls at hl ⊢
  exact body p e s m _ below meth c _ ls [] hx hb hml hown hts hX hl va_S.rf (fun pc ls locs v hd hS => W.zret (v := v) hx hb hr rfl (fun t ht hW => ⟨⟨v, (), rfl, trivial, ht⟩, hS.F ht⟩) hS.2.2 hd hlocks)
theorem c_L_below (l : Launch) (D : va_G) (cI cZ cW cO : ClassId) (H : Heap) (v : Int32) (N : Nat) (h0 : 0 < N) (hN : N ≤ 1000) : Met l yL_below wsL_below ({ frames := 0, cells := 0, slots := 0, locals := 0 } : Room) (ro_P D (T4 cI cZ cW cO) [] H [.int v, .int (nI N)]) (ro_Q (nI (bl v N)) H) 0 0 (fun _ => False) := by
  refine ro_of (cc := cL_below) (maxL := 2) (by decide) rfl (Nat.le_of_ble_eq_true rfl) rfl ?_
  intro p e s m args below meth c Q ls locs hx hb hml hown hts hK hE hP hl hS hEnd
  have hl : lv_has ls 2 [(0, .int v), (1, .int (nI N))] := hl
  have g0 : (Cond.constant RL 7 (2147483647)).before args s = true := hts _ (List.mem_of_getElem? (i := 1) rfl)
  refine lv_iload_n hx hb dL_below_0 rfl (lv_at hl 0 rfl) ?_
  refine lv_ldc hx hb hown g0 dL_below_1 ?_
  refine lv_iand hx hb dL_below_3 ?_
  refine lv_iload_n hx hb dL_below_4 rfl (lv_at hl 1 rfl) ?_
  refine lv_irem hx hb dL_below_5 (fun z => by have h9 := congrArg nN z; rw [nN_nI (by omega)] at h9; exact absurd h9 (by have : nN 0 = 0 := rfl; omega)) ?_
  refine li_topi (bl_eq h0 hN) ?_
  exact hEnd 6 ls locs dL_below_6 hS
theorem c_L_cell (l : Launch) (D : va_G) (cI cZ cW cO : ClassId) (H : Heap) (b L : Nat) (xs : Nat → Int32) (k : Nat) (hL : L ≤ 1000) (hk : k ≤ 1000) : Met l yL_cell wsL_cell ({ frames := 0, cells := 0, slots := 0, locals := 0 } : Room) (rx_P D (T4 cI cZ cW cO) [] H [.ref b, .int (nI k)] b L xs) (cy_Q H) 0 0 (fun _ => False) := by
  refine cy_of (cc := cL_cell) (maxL := 2) (by decide) rfl (Nat.le_of_ble_eq_true rfl) ?_
  intro p e s m args below meth c Q ls locs hx hb hml hown hts hX hl hS hEnd
  have hl : lv_has ls 2 [(0, .ref b), (1, .int (nI k))] := hl
  have hbl : b < H.size := (Array.getElem?_eq_some_iff.mp hX.choose_spec.1).1
  have g0 : (Cond.constant RL 8 (790386105)).before args s = true := hts _ (List.mem_of_getElem? (i := 1) rfl)
  refine lv_iload_n hx hb dL_cell_0 rfl (lv_at hl 1 rfl) ?_
  refine lv_aload_n hx hb dL_cell_1 rfl (lv_at hl 0 rfl) ?_
  refine va_slen hx hb hX hbl (fun z => z) hS dL_cell_2 ?_
  refine li_ge (j := L) (tgt := 12) hx hb dL_cell_3 (by decide) (by omega) (by omega) (fun c1 => ?_) (fun c1 => ?_)
  · refine lv_ldc hx hb hown g0 dL_cell_12 ?_
    refine lv_iload_n hx hb dL_cell_14 rfl (lv_at hl 1 rfl) ?_
    refine lv_iconst (v := nI 3) hx hb dL_cell_15 rfl ?_
    refine lv_iadd hx hb dL_cell_16 ?_
    refine lv_imul hx hb dL_cell_17 ?_
    exact hEnd 18 ls locs _ dL_cell_18 hS
  · refine lv_aload_n hx hb dL_cell_6 rfl (lv_at hl 0 rfl) ?_
    refine lv_iload_n hx hb dL_cell_7 rfl (lv_at hl 1 rfl) ?_
    refine va_sld hx hb hX hbl (fun z => z) hS (vp_in_nI c1 (by omega)) dL_cell_8 ?_
    refine lv_goto (tgt := 18) hx hb dL_cell_9 (by decide) ?_
    exact hEnd 18 ls locs _ dL_cell_18 hS
