/-! KEY WORLDS: cells by kind c and number i; M: how many of each kind; a: their addresses; e: what they hold -/
abbrev Ka : Type := Nat → Nat → Nat
abbrev Ke : Type := Nat → Nat → va_E
abbrev Km : Type := List Nat
abbrev km (M : Km) (c : Nat) : Nat := M.getD c 0
def kyL : List Nat → Nat → List (Nat × Nat)
  | [], _ => []
  | m :: M, c => (List.range m).map (fun i => (c, i)) ++ kyL M (c + 1)
theorem kyL_mem : ∀ {M : List Nat} {c0 : Nat} {k : Nat × Nat}, k ∈ kyL M c0 ↔ ∃ c, k.1 = c0 + c ∧ k.2 < km M c
  | [], c0, k => by
    constructor
    · intro h; cases h
    · rintro ⟨c, -, h⟩
      have e : km [] c = 0 := rfl
      rw [e] at h
      exact absurd h (Nat.not_lt_zero _)
  | m :: M, c0, k => by
    unfold kyL
    rw [List.mem_append, kyL_mem]
    constructor
    · rintro (h | ⟨c, h1, h2⟩)
      · obtain ⟨i, hi, rfl⟩ := List.mem_map.mp h
        exact ⟨0, rfl, List.mem_range.mp hi⟩
      · exact ⟨c + 1, by omega, h2⟩
    · rintro ⟨c, h1, h2⟩
      cases c with
      | zero =>
        refine Or.inl (List.mem_map.mpr ⟨k.2, List.mem_range.mpr h2, ?_⟩)
        obtain ⟨k1, k2⟩ := k
        have h1 : k1 = c0 := h1
        rw [h1]
      | succ c => exact Or.inr ⟨c, by omega, h2⟩
theorem nd_idx {α : Type} : ∀ {L : List α}, L.Nodup → ∀ {i j : Nat} {x : α}, L[i]? = some x → L[j]? = some x → i = j
  | [], _, i, j, x, h, _ => by simp at h
  | y :: L, hn, 0, 0, x, _, _ => rfl
  | y :: L, hn, 0, j + 1, x, h1, h2 => by
    have h1 : some y = some x := h1
    cases h1
    have h2 : L[j]? = some y := h2
    exact absurd (List.mem_of_getElem? h2) (List.nodup_cons.mp hn).1
  | y :: L, hn, i + 1, 0, x, h1, h2 => by
    have h2 : some y = some x := h2
    cases h2
    have h1 : L[i]? = some y := h1
    exact absurd (List.mem_of_getElem? h1) (List.nodup_cons.mp hn).1
  | y :: L, hn, i + 1, j + 1, x, h1, h2 => by
    have h1 : L[i]? = some x := h1
    have h2 : L[j]? = some x := h2
    rw [nd_idx (List.nodup_cons.mp hn).2 h1 h2]
theorem rng_nd (c : Nat) : ∀ m : Nat, ((List.range m).map (fun i => (c, i))).Nodup
  | 0 => List.nodup_nil
  | m + 1 => by
    rw [List.range_succ, List.map_append, List.nodup_append]
    refine ⟨rng_nd c m, ?_, fun x hx y hy => ?_⟩
    · exact List.nodup_cons.mpr ⟨List.not_mem_nil, List.nodup_nil⟩
    · obtain ⟨i, hi, rfl⟩ := List.mem_map.mp hx
      obtain ⟨j, hj, rfl⟩ := List.mem_map.mp hy
      have h1 := List.mem_range.mp hi
      have h2 := List.mem_singleton.mp hj
      intro z
      have z2 : i = j := congrArg Prod.snd z
      omega
theorem kyL_nd : ∀ (M : List Nat) (c0 : Nat), (kyL M c0).Nodup
  | [], _ => List.nodup_nil
  | m :: M, c0 => by
    unfold kyL
    rw [List.nodup_append]
    refine ⟨rng_nd c0 m, kyL_nd M (c0 + 1), fun x hx y hy => ?_⟩
    obtain ⟨i, -, rfl⟩ := List.mem_map.mp hx
    obtain ⟨c, h1, -⟩ := kyL_mem.mp hy
    intro z
    have z1 : c0 = y.1 := congrArg Prod.fst z
    omega
def wK (M : Km) (a : Ka) (e : Ke) : va_W := (kyL M 0).map (fun k => (a k.1 k.2, e k.1 k.2))
def eup (e : Ke) (c i : Nat) (v : va_E) : Ke := fun d j => if d = c ∧ j = i then v else e d j
def aup (a : Ka) (c i q : Nat) : Ka := fun d j => if d = c ∧ j = i then q else a d j
theorem eup_in {e : Ke} {c i : Nat} {v : va_E} : eup e c i v c i = v := if_pos ⟨rfl, rfl⟩
theorem eup_ne {e : Ke} {c i d j : Nat} {v : va_E} (h : ¬ (d = c ∧ j = i)) : eup e c i v d j = e d j := if_neg h
theorem aup_in {a : Ka} {c i q : Nat} : aup a c i q c i = q := if_pos ⟨rfl, rfl⟩
theorem aup_ne {a : Ka} {c i d j q : Nat} (h : ¬ (d = c ∧ j = i)) : aup a c i q d j = a d j := if_neg h
/-- the heap holds the world -/
def kP (D : va_G) (M : Km) (a : Ka) (e : Ke) (H : Heap) : Prop := ∀ c i, i < km M c → va_at D vwCl (a c i, e c i) H
/-- the addresses are apart, and lie in A -/
def kO (A : Nat → Prop) (M : Km) (a : Ka) : Prop := (∀ c i d j, i < km M c → j < km M d → a c i = a d j → c = d ∧ i = j) ∧ ∀ c i, i < km M c → A (a c i)
theorem wK_at {M : Km} {a : Ka} {e : Ke} {c i : Nat} (h : i < km M c) : ∃ q0, (wK M a e)[q0]? = some (a c i, e c i) ∧ ∀ v, (wK M a e).set q0 (a c i, v) = wK M a (eup e c i v) := by
  have hm : (c, i) ∈ kyL M 0 := kyL_mem.mpr ⟨c, (Nat.zero_add c).symm, h⟩
  obtain ⟨q0, hq⟩ := List.getElem?_of_mem hm
  have hl := (List.getElem?_eq_some_iff.mp hq).1
  refine ⟨q0, ?_, fun v => ?_⟩
  · unfold wK
    rw [List.getElem?_map, hq]
    rfl
  · unfold wK
    apply List.ext_getElem?
    intro j
    by_cases hj : q0 = j
    · subst hj
      rw [List.getElem?_set_self (by rw [List.length_map]; exact hl), List.getElem?_map, hq]
      show some (a c i, v) = some (a c i, eup e c i v c i)
      rw [eup_in]
    · rw [List.getElem?_set_ne hj, List.getElem?_map, List.getElem?_map]
      cases hk : (kyL M 0)[j]? with
      | none => rfl
      | some k =>
        show some (a k.1 k.2, e k.1 k.2) = some (a k.1 k.2, eup e c i v k.1 k.2)
        rw [eup_ne]
        rintro ⟨h1, h2⟩
        apply hj
        refine nd_idx (kyL_nd M 0) hq (x := (c, i)) ?_
        rw [hk]
        obtain ⟨k1, k2⟩ := k
        have h1 : k1 = c := h1
        have h2 : k2 = i := h2
        rw [h1, h2]
theorem wK_key {M : Km} {a : Ka} {e : Ke} {j : Nat} {q : Nat × va_E} (h : (wK M a e)[j]? = some q) : ∃ c i, i < km M c ∧ (kyL M 0)[j]? = some (c, i) ∧ q = (a c i, e c i) := by
  unfold wK at h
  rw [List.getElem?_map] at h
  cases hk : (kyL M 0)[j]? with
  | none => rw [hk] at h; cases h
  | some k =>
    rw [hk] at h
    cases h
    obtain ⟨c, h1, h2⟩ := kyL_mem.mp (List.mem_of_getElem? hk)
    have e1 : k.1 = c := by omega
    obtain ⟨k1, k2⟩ := k
    have e1 : k1 = c := e1
    subst e1
    exact ⟨k1, k2, h2, rfl, rfl⟩
section KW
variable {D : va_G} {M M' : Km} {a a' : Ka} {e e' : Ke} {H H1 : Heap} {A A' : Nat → Prop}
theorem kP.w (h : kP D M a e H) : va_P D vwCl (wK M a e) H := fun j q hq => by
  obtain ⟨c, i, hi, -, rfl⟩ := wK_key hq
  exact h c i hi
theorem kP.of (h : va_P D vwCl (wK M a e) H) : kP D M a e H := fun c i hi => by
  obtain ⟨q0, hq, -⟩ := wK_at (a := a) (e := e) hi
  exact h q0 _ hq
theorem kO.dd (h : kO A M a) : va_D A (wK M a e) := by
  refine ⟨fun i j p q hi hj hpq => ?_, fun k q hk => ?_⟩
  · obtain ⟨c, x, hx, h1, rfl⟩ := wK_key hi
    obtain ⟨d, y, hy, h2, rfl⟩ := wK_key hj
    obtain ⟨e1, e2⟩ := h.1 c x d y hx hy hpq
    subst e1; subst e2
    exact nd_idx (kyL_nd M 0) h1 h2
  · obtain ⟨c, x, hx, -, rfl⟩ := wK_key hk
    exact h.2 c x hx
theorem kP.ext (h : kP D M a e H) (he : ∀ c i, i < km M c → e c i = e' c i) : kP D M a e' H := fun c i hi => by
  rw [← he c i hi]
  exact h c i hi
theorem kP.exA (h : kP D M a e H) (ha : ∀ c i, i < km M c → a c i = a' c i) : kP D M a' e H := fun c i hi => by
  rw [← ha c i hi]
  exact h c i hi
theorem kP.sub (h : kP D M a e H) (hM : ∀ c i, i < km M' c → i < km M c) : kP D M' a e H := fun c i hi => h c i (hM c i hi)
theorem kO.sub (h : kO A M a) (hM : ∀ c i, i < km M' c → i < km M c) : kO A M' a := ⟨fun c i d j hi hj => h.1 c i d j (hM c i hi) (hM d j hj), fun c i hi => h.2 c i (hM c i hi)⟩
theorem kO.weak (h : kO A M a) (hA : ∀ q, A q → A' q) : kO A' M a := ⟨h.1, fun c i hi => hA _ (h.2 c i hi)⟩
theorem kP.one (h : kP D M a e H) {c i : Nat} (hi : i < km M c) : va_P D vwCl [(a c i, e c i)] H := fun k q hq => by
  match k, hq with
  | 0, hq => cases hq; exact h c i hi
  | k + 1, hq => simp at hq
theorem kP.lt (h : kP D M a e H) {c i : Nat} (hi : i < km M c) : a c i < H.size := (h c i hi).lt
theorem kP.kept (h : kP D M a e H) (hk : ∀ c i, i < km M c → H1[a c i]? = H[a c i]?) : kP D M a e H1 := fun c i hi => (h c i hi).kept (hk c i hi)
theorem kP.fresh (h : kP D M a e H) (hk : ∀ q, q < H.size → H1[q]? = H[q]?) : kP D M a e H1 := h.kept (fun _ _ hi => hk _ (h.lt hi))
/-- the world's own addresses -/
def kA (M : Km) (a : Ka) : Nat → Prop := fun q => ∃ c i, i < km M c ∧ q = a c i
theorem kO.kA (h : kO A M a) : kO (kA M a) M a := ⟨h.1, fun c i hi => ⟨c, i, hi, rfl⟩⟩
theorem kA_of (h : kO A M a) : ∀ q, kA M a q → A q := fun q ⟨c, i, hi, e⟩ => by rw [e]; exact h.2 c i hi
/-- a call upon the part M' of the world M leaves the rest -/
theorem kP.join (hO : kO A M a) (hM : ∀ c i, i < km M' c → i < km M c) (hP : kP D M a e H) (hP1 : kP D M' a e' H1) (hk : ∀ q : Nat, q < H.size → ¬ kA M' a q → H1[q]? = H[q]?) (he : ∀ c i, i < km M c → ¬ i < km M' c → e' c i = e c i) : kP D M a e' H1 := fun c i hi => by
  by_cases h : i < km M' c
  · exact hP1 c i h
  · rw [he c i hi h]
    refine (hP c i hi).kept (hk _ (hP.lt hi) ?_)
    rintro ⟨d, j, hj, e9⟩
    obtain ⟨e1, e2⟩ := hO.1 c i d j hi (hM d j hj) e9
    subst e1; subst e2
    exact h hj
/-- one cell more -/
theorem kP.new {c i q : Nat} {v : va_E} (hP : kP D M a e H) (hv : va_at D vwCl (q, v) H1) (hk : ∀ x, x < H.size → H1[x]? = H[x]?) (hM : ∀ d j, j < km M' d → ¬ (d = c ∧ j = i) → j < km M d) : kP D M' (aup a c i q) (eup e c i v) H1 := fun d j hj => by
  by_cases h : d = c ∧ j = i
  · obtain ⟨h1, h2⟩ := h
    subst h1; subst h2
    rw [aup_in, eup_in]
    exact hv
  · rw [aup_ne h, eup_ne h]
    exact (hP d j (hM d j hj h)).kept (hk _ (hP.lt (hM d j hj h)))
theorem kO.new {c i q : Nat} (hO : kO A M a) (hP : kP D M a e H) (hq : H.size ≤ q) (hA : A q) (hM : ∀ d j, j < km M' d → ¬ (d = c ∧ j = i) → j < km M d) : kO A M' (aup a c i q) := by
  refine ⟨fun d j f k hj hk h => ?_, fun d j hj => ?_⟩
  · by_cases h1 : d = c ∧ j = i <;> by_cases h2 : f = c ∧ k = i
    · exact ⟨h1.1.trans h2.1.symm, h1.2.trans h2.2.symm⟩
    · obtain ⟨e1, e2⟩ := h1
      subst e1; subst e2
      rw [aup_in, aup_ne h2] at h
      have := hP.lt (hM f k hk h2)
      omega
    · obtain ⟨e1, e2⟩ := h2
      subst e1; subst e2
      rw [aup_in, aup_ne h1] at h
      have := hP.lt (hM d j hj h1)
      omega
    · rw [aup_ne h1, aup_ne h2] at h
      exact hO.1 d j f k (hM d j hj h1) (hM f k hk h2) h
  · by_cases h1 : d = c ∧ j = i
    · obtain ⟨e1, e2⟩ := h1
      subst e1; subst e2
      rw [aup_in]
      exact hA
    · rw [aup_ne h1]
      exact hO.2 d j (hM d j hj h1)
end KW
section LKW
variable {p : Program} {l : Launch} {e0 : Env} {R : Room} {s : State} {m : MethodId} {args : Array Value} {below : List Frame} {meth : Method} {c : Code} {H : Heap} {locs : List Loc} {cells slots : Nat} {Q : State → Prop}
variable {cc : ByteArray} {pc : Nat} {ls : Array Slot} {rest st0 : List Value} {D : va_G} {A : Nat → Prop} {H0 : Heap} {cI cZ cW cO : ClassId} {M M' : Km} {a : Ka} {e e' : Ke}
theorem lk_ild (hx : p.tables.exec = Jvm.exec) (hb : c.code = cc) (hK : va_K D vwCl (T4 cI cZ cW cO) s) (hP : kP D M a e H) (k i : Nat) (hi : i < km M k) {N : Nat} {f : Nat → Int32} (he : e k i = .inl (cI, N, .inl f)) {j : Nat} (hj : j < N) (hN : N ≤ 200) (hdg : decode cc pc = .ok (.iaload, 1))
    (kk : W p l e0 R s m args below meth c H locs cells slots Q (F0 m (pc + 1) ls (.int (f j) :: rest))) : W p l e0 R s m args below meth c H locs cells slots Q (F0 m pc ls (.int (nI j) :: .ref (a k i) :: rest)) :=
  li_ild hx hb hK (hP.one hi) 0 0 (by rw [he]; rfl) rfl hj hN hdg kk
theorem lk_zld (hx : p.tables.exec = Jvm.exec) (hb : c.code = cc) (hK : va_K D vwCl (T4 cI cZ cW cO) s) (hP : kP D M a e H) (k i : Nat) (hi : i < km M k) {N : Nat} {f : Nat → Int32} (he : e k i = .inl (cZ, N, .inl f)) {j : Nat} (hj : j < N) (hN : N ≤ 200) (hdg : decode cc pc = .ok (.baload, 1))
    (kk : W p l e0 R s m args below meth c H locs cells slots Q (F0 m (pc + 1) ls (.int (f j) :: rest))) : W p l e0 R s m args below meth c H locs cells slots Q (F0 m pc ls (.int (nI j) :: .ref (a k i) :: rest)) :=
  li_zld hx hb hK (hP.one hi) 0 1 (by rw [he]; rfl) rfl hj hN hdg kk
theorem lk_ist (hx : p.tables.exec = Jvm.exec) (hb : c.code = cc) (hK : va_K D vwCl (T4 cI cZ cW cO) s) (hP : kP D M a e H) (hO : kO A M a) (hS : va_S A H0 H locs) (k i : Nat) (hi : i < km M k) {N : Nat} {f : Nat → Int32} (he : e k i = .inl (cI, N, .inl f)) {j : Nat} {x : Int32} (hj : j < N) (hN : N ≤ 200) (hw : eup e k i (.inl (cI, N, .inl (upd f j x))) = e') (hdg : decode cc pc = .ok (.iastore, 1))
    (kk : ∀ (H1 : Heap) (locs1 : List Loc), kP D M a e' H1 → va_S A H0 H1 locs1 → W p l e0 R s m args below meth c H1 locs1 cells slots Q (F0 m (pc + 1) ls rest)) : W p l e0 R s m args below meth c H locs cells slots Q (F0 m pc ls (.int x :: .int (nI j) :: .ref (a k i) :: rest)) := by
  obtain ⟨q0, hq, hset⟩ := wK_at (a := a) (e := e) hi
  refine li_ist hx hb hK hP.w hO.dd hS q0 0 (by rw [hq, he]) rfl hj hN (hset _) hdg (fun H1 locs1 h1 h2 => kk H1 locs1 ?_ h2)
  rw [hw] at h1
  exact kP.of h1
theorem lk_zst (hx : p.tables.exec = Jvm.exec) (hb : c.code = cc) (hK : va_K D vwCl (T4 cI cZ cW cO) s) (hP : kP D M a e H) (hO : kO A M a) (hS : va_S A H0 H locs) (k i : Nat) (hi : i < km M k) {N : Nat} {f : Nat → Int32} (he : e k i = .inl (cZ, N, .inl f)) {j : Nat} {x : Int32} (hj : j < N) (hN : N ≤ 200) (hx1 : vp_nar .boolean x = x) (hw : eup e k i (.inl (cZ, N, .inl (upd f j x))) = e') (hdg : decode cc pc = .ok (.bastore, 1))
    (kk : ∀ (H1 : Heap) (locs1 : List Loc), kP D M a e' H1 → va_S A H0 H1 locs1 → W p l e0 R s m args below meth c H1 locs1 cells slots Q (F0 m (pc + 1) ls rest)) : W p l e0 R s m args below meth c H locs cells slots Q (F0 m pc ls (.int x :: .int (nI j) :: .ref (a k i) :: rest)) := by
  obtain ⟨q0, hq, hset⟩ := wK_at (a := a) (e := e) hi
  refine li_zst hx hb hK hP.w hO.dd hS q0 1 (by rw [hq, he]) rfl hj hN hx1 (hset _) hdg (fun H1 locs1 h1 h2 => kk H1 locs1 ?_ h2)
  rw [hw] at h1
  exact kP.of h1
theorem lk_alen (hx : p.tables.exec = Jvm.exec) (hb : c.code = cc) (hK : va_K D vwCl (T4 cI cZ cW cO) s) (hP : kP D M a e H) (k i : Nat) (hi : i < km M k) (t0 : Nat) {cA : ClassId} {N : Nat} {f : (Nat → Int32) ⊕ (Nat → Int64) ⊕ (Nat → UInt32) ⊕ (Nat → UInt64) ⊕ (Nat → Option Nat)} (he : e k i = .inl (cA, N, f)) {ty : FieldType} (ht : (T4 cI cZ cW cO)[t0]? = some (cA, ty)) (hdg : decode cc pc = .ok (.arraylength, 1))
    (kk : W p l e0 R s m args below meth c H locs cells slots Q (F0 m (pc + 1) ls (.int (nI N) :: rest))) : W p l e0 R s m args below meth c H locs cells slots Q (F0 m pc ls (.ref (a k i) :: rest)) :=
  li_alen hx hb hK (hP.one hi) 0 t0 (by rw [he]; rfl) ht hdg kk
/-- reading a row of rows, a row of walkers -/
theorem lk_aldO (hx : p.tables.exec = Jvm.exec) (hb : c.code = cc) (hK : va_K D vwCl (T4 cI cZ cW cO) s) (hP : kP D M a e H) (k i : Nat) (hi : i < km M k) {N v : Nat} {f : Nat → Option Nat} (he : e k i = .inl (cO, N, .inr (.inr (.inr (.inr f))))) {j : Nat} (hj : j < N) (hN : N ≤ 200) (hf : f j = some v) (hdg : decode cc pc = .ok (.aaload, 1))
    (kk : W p l e0 R s m args below meth c H locs cells slots Q (F0 m (pc + 1) ls (.ref v :: rest))) : W p l e0 R s m args below meth c H locs cells slots Q (F0 m pc ls (.int (nI j) :: .ref (a k i) :: rest)) := by
  have hc : (nI j).toNatClampNeg = j := nI_clamp (by omega)
  have h0 := hP k i hi
  rw [he] at h0
  exact W.aald (v := .ref v) (ty := .array .int) hx hb h0 ((hK.2 3 _ rfl).1 N (fun j => va_rf (f j))) rfl (fun q => by cases q) (by show ¬ (nI j < 0 ∨ (arrV cO N (fun j => va_rf (f j))).slots.size ≤ (nI j).toNatClampNeg); rw [arrV_size, hc]; exact fun z => z.elim (nI_pos (by omega)) (fun y => by omega)) (by rw [hc]; show (arrV cO N (fun j => va_rf (f j))).slots[j]? = _; rw [arrV_read _ _ hj, hf]; rfl) rfl rfl hdg kk
theorem lk_aldW (hx : p.tables.exec = Jvm.exec) (hb : c.code = cc) (hK : va_K D vwCl (T4 cI cZ cW cO) s) (hP : kP D M a e H) (k i : Nat) (hi : i < km M k) {N v : Nat} {f : Nat → Option Nat} (he : e k i = .inl (cW, N, .inr (.inr (.inr (.inr f))))) {j : Nat} (hj : j < N) (hN : N ≤ 200) (hf : f j = some v) (hdg : decode cc pc = .ok (.aaload, 1))
    (kk : W p l e0 R s m args below meth c H locs cells slots Q (F0 m (pc + 1) ls (.ref v :: rest))) : W p l e0 R s m args below meth c H locs cells slots Q (F0 m pc ls (.int (nI j) :: .ref (a k i) :: rest)) := by
  have hc : (nI j).toNatClampNeg = j := nI_clamp (by omega)
  have h0 := hP k i hi
  rw [he] at h0
  exact W.aald (v := .ref v) (ty := tyWk) hx hb h0 ((hK.2 2 _ rfl).1 N (fun j => va_rf (f j))) rfl (fun q => by cases q) (by show ¬ (nI j < 0 ∨ (arrV cW N (fun j => va_rf (f j))).slots.size ≤ (nI j).toNatClampNeg); rw [arrV_size, hc]; exact fun z => z.elim (nI_pos (by omega)) (fun y => by omega)) (by rw [hc]; show (arrV cW N (fun j => va_rf (f j))).slots[j]? = _; rw [arrV_read _ _ hj, hf]; rfl) rfl rfl hdg kk
/-- fields of the simulation, of a walker -/
theorem lk_gf3 (hx : p.tables.exec = Jvm.exec) (hb : c.code = cc) {own : String} {index : Nat} (h0 : ∀ w ∈ wsX30, w.before args s = true) (hown : s.vm.findClass own = some m.cls) (hK : va_K D vwCl (T4 cI cZ cW cO) s) (hP : kP D M a e H) (k i : Nat) (hi : i < km M k) {fs : List Value} (he : e k i = .inr (3, fs)) (q : Nat) (hq : q < 10) (hlink : (Cond.fieldLink own index (TX3 q).1 (TX3 q).2.1 (TX3 q).2.2.1).before args s = true) {v : Value} (hv : fs[q]? = some v) (hdg : decode cc pc = .ok (.getfield index, 3))
    (kk : W p l e0 R s m args below meth c H locs cells slots Q (F0 m (pc + 3) ls (v :: rest))) : W p l e0 R s m args below meth c H locs cells slots Q (F0 m pc ls (.ref (a k i) :: rest)) :=
  li_gf3 hx hb h0 hown hK (hP.one hi) 0 (by rw [he]; rfl) q hq hlink hv hdg kk
theorem lk_gf4 (hx : p.tables.exec = Jvm.exec) (hb : c.code = cc) {own : String} {index : Nat} (h0 : ∀ w ∈ wsX40, w.before args s = true) (hown : s.vm.findClass own = some m.cls) (hK : va_K D vwCl (T4 cI cZ cW cO) s) (hP : kP D M a e H) (k i : Nat) (hi : i < km M k) {fs : List Value} (he : e k i = .inr (4, fs)) (q : Nat) (hq : q < 9) (hlink : (Cond.fieldLink own index (TX4 q).1 (TX4 q).2.1 (TX4 q).2.2.1).before args s = true) {v : Value} (hv : fs[q]? = some v) (hdg : decode cc pc = .ok (.getfield index, 3))
    (kk : W p l e0 R s m args below meth c H locs cells slots Q (F0 m (pc + 3) ls (v :: rest))) : W p l e0 R s m args below meth c H locs cells slots Q (F0 m pc ls (.ref (a k i) :: rest)) :=
  li_gf4 hx hb h0 hown hK (hP.one hi) 0 (by rw [he]; rfl) q hq hlink hv hdg kk
theorem lk_pf3 (hx : p.tables.exec = Jvm.exec) (hb : c.code = cc) {own : String} {index : Nat} (h0 : ∀ w ∈ wsX30, w.before args s = true) (hown : s.vm.findClass own = some m.cls) (hK : va_K D vwCl (T4 cI cZ cW cO) s) (hP : kP D M a e H) (hO : kO A M a) (hS : va_S A H0 H locs) (k i : Nat) (hi : i < km M k) {fs : List Value} (he : e k i = .inr (3, fs)) (q : Nat) (hq : q < 10) (hlink : (Cond.fieldLink own index (TX3 q).1 (TX3 q).2.1 (TX3 q).2.2.1).before args s = true) (hfin : (TX3 q).2.2.2 = false) {v : Value} (hn : narrow (tyX3 q) v = v) (hfit : fits (tyX3 q) v = true) (hl : q < fs.length) (hw : eup e k i (.inr (3, fs.set q v)) = e') (hdg : decode cc pc = .ok (.putfield index, 3))
    (kk : ∀ (H1 : Heap) (locs1 : List Loc), kP D M a e' H1 → va_S A H0 H1 locs1 → W p l e0 R s m args below meth c H1 locs1 cells slots Q (F0 m (pc + 3) ls rest)) : W p l e0 R s m args below meth c H locs cells slots Q (F0 m pc ls (v :: .ref (a k i) :: rest)) := by
  obtain ⟨q0, hq0, hset⟩ := wK_at (a := a) (e := e) hi
  refine li_pf3 hx hb h0 hown hK hP.w hO.dd hS q0 (by rw [hq0, he]) q hq hlink hfin hn hfit hl (hset _) hdg (fun H1 locs1 h1 h2 => kk H1 locs1 ?_ h2)
  rw [hw] at h1
  exact kP.of h1
theorem lk_pf4 (hx : p.tables.exec = Jvm.exec) (hb : c.code = cc) {own : String} {index : Nat} (h0 : ∀ w ∈ wsX40, w.before args s = true) (hown : s.vm.findClass own = some m.cls) (hK : va_K D vwCl (T4 cI cZ cW cO) s) (hP : kP D M a e H) (hO : kO A M a) (hS : va_S A H0 H locs) (k i : Nat) (hi : i < km M k) {fs : List Value} (he : e k i = .inr (4, fs)) (q : Nat) (hq : q < 9) (hlink : (Cond.fieldLink own index (TX4 q).1 (TX4 q).2.1 (TX4 q).2.2.1).before args s = true) (hfin : (TX4 q).2.2.2 = false) {v : Value} (hn : narrow (tyX4 q) v = v) (hfit : fits (tyX4 q) v = true) (hl : q < fs.length) (hw : eup e k i (.inr (4, fs.set q v)) = e') (hdg : decode cc pc = .ok (.putfield index, 3))
    (kk : ∀ (H1 : Heap) (locs1 : List Loc), kP D M a e' H1 → va_S A H0 H1 locs1 → W p l e0 R s m args below meth c H1 locs1 cells slots Q (F0 m (pc + 3) ls rest)) : W p l e0 R s m args below meth c H locs cells slots Q (F0 m pc ls (v :: .ref (a k i) :: rest)) := by
  obtain ⟨q0, hq0, hset⟩ := wK_at (a := a) (e := e) hi
  refine li_pf4 hx hb h0 hown hK hP.w hO.dd hS q0 (by rw [hq0, he]) q hq hlink hfin hn hfit hl (hset _) hdg (fun H1 locs1 h1 h2 => kk H1 locs1 ?_ h2)
  rw [hw] at h1
  exact kP.of h1
/-- new rows: a cell at a place that nobody has -/
theorem lk_newI (hx : p.tables.exec = Jvm.exec) (hb : c.code = cc) (harr : (Cond.arrayClass .int).before args s = true) (hK : va_K D vwCl (T4 cI cZ cW cO) s) (hS : va_S A H0 H locs) {N : Nat} (hN : N ≤ 1000) (hcells : cells + 1 ≤ R.cells) (hslots : slots + N ≤ R.slots) (hdg : decode cc pc = .ok (.newarray .int, 2))
    (kk : ∀ (q : Nat) (G : Heap), q = H.size → va_at D vwCl (q, .inl (cI, N, .inl (fun _ => 0))) G → (∀ x, x < H.size → G[x]? = H[x]?) → va_S A H0 G locs → W p l e0 R s m args below meth c G locs (cells + 1) (slots + N) Q (F0 m (pc + 2) ls (.ref q :: rest))) : W p l e0 R s m args below meth c H locs cells slots Q (F0 m pc ls (.int (nI N) :: rest)) := by
  refine va_newaK (atype := .int) hx hb harr rfl hdg rfl (nI_pos (by omega)) (nI_clamp (by omega)) (by show N * 4 ≤ 536870912; omega) hcells hslots rfl (fun G cA h1 h2 h3 h4 h5 => ?_)
  have e1 : s.vm.findClass "[I" = some cI := va_nm_int (hK.2 0 _ rfl).2
  cases Option.some.inj (e1.symm.trans h5)
  refine kk _ G rfl ?_ h3 ⟨Nat.le_trans hS.1 (by omega), fun x g1 g2 => (h3 x (Nat.lt_of_lt_of_le g1 hS.1)).trans (hS.2.1 x g1 g2), hS.2.2⟩
  show G[H.size]? = some (vp_cell _ _)
  rw [h1, vp_cell_i]
  rfl
theorem lk_newZ (hx : p.tables.exec = Jvm.exec) (hb : c.code = cc) (harr : (Cond.arrayClass .boolean).before args s = true) (hK : va_K D vwCl (T4 cI cZ cW cO) s) (hS : va_S A H0 H locs) {N : Nat} (hN : N ≤ 1000) (hcells : cells + 1 ≤ R.cells) (hslots : slots + N ≤ R.slots) (hdg : decode cc pc = .ok (.newarray .boolean, 2))
    (kk : ∀ (q : Nat) (G : Heap), q = H.size → va_at D vwCl (q, .inl (cZ, N, .inl (fun _ => 0))) G → (∀ x, x < H.size → G[x]? = H[x]?) → va_S A H0 G locs → W p l e0 R s m args below meth c G locs (cells + 1) (slots + N) Q (F0 m (pc + 2) ls (.ref q :: rest))) : W p l e0 R s m args below meth c H locs cells slots Q (F0 m pc ls (.int (nI N) :: rest)) := by
  refine va_newaK (atype := .boolean) hx hb harr rfl hdg rfl (nI_pos (by omega)) (nI_clamp (by omega)) (by show N * 1 ≤ 536870912; omega) hcells hslots rfl (fun G cA h1 h2 h3 h4 h5 => ?_)
  have e1 : s.vm.findClass "[Z" = some cZ := va_nm_boolean (hK.2 1 _ rfl).2
  cases Option.some.inj (e1.symm.trans h5)
  refine kk _ G rfl ?_ h3 ⟨Nat.le_trans hS.1 (by omega), fun x g1 g2 => (h3 x (Nat.lt_of_lt_of_le g1 hS.1)).trans (hS.2.1 x g1 g2), hS.2.2⟩
  show G[H.size]? = some (vp_cell _ _)
  rw [h1, vp_cell_i]
  rfl
theorem push_at {cA : ClassId} {N : Nat} {G : Heap} (hG : H.push ({ cls := cA, slots := Array.replicate N .null, vm := .none } : Cell) = G) : va_at D vwCl (H.size, .inl (cA, N, .inr (.inr (.inr (.inr (fun _ => none)))))) G ∧ (∀ x, x < H.size → G[x]? = H[x]?) ∧ G.size = H.size + 1 := by
  refine ⟨?_, fun q hq => by rw [← hG, Array.getElem?_push, if_neg (Nat.ne_of_lt hq)], by rw [← hG, Array.size_push]⟩
  show G[H.size]? = some (vp_cell _ _)
  rw [vp_cell_q, ← hG, Array.getElem?_push_size, ← arrV_new]
  rfl
theorem lk_newO (hx : p.tables.exec = Jvm.exec) (hb : c.code = cc) {own : String} {index : Nat} (hown : s.vm.findClass own = some m.cls) (hclink : (Cond.classLink own index "[I").before args s = true) (hE : lwE s) (hK : va_K D vwCl (T4 cI cZ cW cO) s) (hS : va_S A H0 H locs)
    {N : Nat} (hN : N ≤ 200) (hcells : cells + 1 ≤ R.cells) (hslots : slots + N ≤ R.slots) (hdg : decode cc pc = .ok (.anewarray index, 3))
    (kk : ∀ (q : Nat) (G : Heap), q = H.size → va_at D vwCl (q, .inl (cO, N, .inr (.inr (.inr (.inr (fun _ => none)))))) G → (∀ x, x < H.size → G[x]? = H[x]?) → va_S A H0 G locs →
      W p l e0 R s m args below meth c G locs (cells + 1) (slots + N) Q (F0 m (pc + 3) ls (.ref q :: rest))) : W p l e0 R s m args below meth c H locs cells slots Q (F0 m pc ls (.int (nI N) :: rest)) := by
  have hn : (nI N).toNatClampNeg = N := nI_clamp (by omega)
  refine W.anewA (t := .int) hx hb hown hclink hE.2.2.2.2.1 rfl hdg rfl (nI_pos (by omega)) (by rw [hn]; omega) hcells (by rw [hn]; exact hslots) fun cA kA comp f1 f2 f3 f4 => ?_
  have f5 : s.vm.findClass ("[" ++ (FieldType.array .int).toString) = some cO := (hK.2 3 _ rfl).2
  cases f5.symm.trans f1
  rw [hn]
  generalize hG : H.push ({ cls := cO, slots := Array.replicate N .null, vm := .none } : Cell) = G
  obtain ⟨g1, g2, g3⟩ := push_at (D := D) hG
  exact kk H.size G rfl g1 g2 ⟨Nat.le_trans hS.1 (by omega), fun x h1 h2 => (g2 x (Nat.lt_of_lt_of_le h1 hS.1)).trans (hS.2.1 x h1 h2), hS.2.2⟩
theorem lk_newW (hx : p.tables.exec = Jvm.exec) (hb : c.code = cc) {own : String} {index : Nat} (hown : s.vm.findClass own = some m.cls) (hclink : (Cond.classLink own index RX4).before args s = true) (hE : lwE s) (hK : va_K D vwCl (T4 cI cZ cW cO) s) (hS : va_S A H0 H locs)
    {N : Nat} (hN : N ≤ 200) (hcells : cells + 1 ≤ R.cells) (hslots : slots + N ≤ R.slots) (hdg : decode cc pc = .ok (.anewarray index, 3))
    (kk : ∀ (q : Nat) (G : Heap), q = H.size → va_at D vwCl (q, .inl (cW, N, .inr (.inr (.inr (.inr (fun _ => none)))))) G → (∀ x, x < H.size → G[x]? = H[x]?) → va_S A H0 G locs →
      W p l e0 R s m args below meth c G locs (cells + 1) (slots + N) Q (F0 m (pc + 3) ls (.ref q :: rest))) : W p l e0 R s m args below meth c H locs cells slots Q (F0 m pc ls (.int (nI N) :: rest)) := by
  have hn : (nI N).toNatClampNeg = N := nI_clamp (by omega)
  refine W.anew (C := RX4) hx hb hown hclink hE.2.2.2.2.2 rfl hdg rfl (nI_pos (by omega)) (by rw [hn]; omega) hcells (by rw [hn]; exact hslots) fun cA kA comp f1 f2 f3 f4 => ?_
  obtain ⟨kA', comp', -, -, -, f5⟩ := (hK.2 2 _ rfl).2
  cases f5.symm.trans f1
  rw [hn]
  generalize hG : H.push ({ cls := cW, slots := Array.replicate N .null, vm := .none } : Cell) = G
  obtain ⟨g1, g2, g3⟩ := push_at (D := D) hG
  exact kk H.size G rfl g1 g2 ⟨Nat.le_trans hS.1 (by omega), fun x h1 h2 => (g2 x (Nat.lt_of_lt_of_le h1 hS.1)).trans (hS.2.1 x h1 h2), hS.2.2⟩
/-- writing into a row of rows, a row of walkers -/
theorem lk_astO (hx : p.tables.exec = Jvm.exec) (hb : c.code = cc) (hE : lwE s) (hK : va_K D vwCl (T4 cI cZ cW cO) s) (hP : kP D M a e H) (hO : kO A M a) (hS : va_S A H0 H locs) (k i k2 i2 : Nat) (hi : i < km M k) (hi2 : i2 < km M k2) {N N1 : Nat} {f : Nat → Option Nat} {g : Nat → Int32} (he : e k i = .inl (cO, N, .inr (.inr (.inr (.inr f))))) (he2 : e k2 i2 = .inl (cI, N1, .inl g)) {j : Nat} (hj : j < N) (hN : N ≤ 200) (hw : eup e k i (.inl (cO, N, .inr (.inr (.inr (.inr (va_up f j (some (a k2 i2)))))))) = e') (hdg : decode cc pc = .ok (.aastore, 1))
    (kk : ∀ (G : Heap) (locs1 : List Loc), kP D M a e' G → va_S A H0 G locs1 → W p l e0 R s m args below meth c G locs1 cells slots Q (F0 m (pc + 1) ls rest)) : W p l e0 R s m args below meth c H locs cells slots Q (F0 m pc ls (.ref (a k2 i2) :: .int (nI j) :: .ref (a k i) :: rest)) := by
  have hc : (nI j).toNatClampNeg = j := nI_clamp (by omega)
  obtain ⟨comp, cq, kq, q1, q2, q3, q4, q5⟩ := arrayOverA_spec (args := #[]) (first := s) (o := none) (idx := []) (t := .int) hE.2.2.2.2.1
  have z1 : s.vm.findClass "[I" = some cI := va_nm_int (hK.2 0 _ rfl).2
  have q1' : s.vm.findClass "[I" = some comp := q1
  cases z1.symm.trans q1'
  have z6 : s.vm.findClass ("[" ++ (FieldType.array .int).toString) = some cO := (hK.2 3 _ rfl).2
  cases z6.symm.trans q5
  obtain ⟨k', hk', -⟩ := Vm.findClass_spec z1
  have h0 := hP k i hi
  rw [he] at h0
  have h02 := hP k2 i2 hi2
  rw [he2] at h02
  obtain ⟨w0, hw0, hset⟩ := wK_at (a := a) (e := e) hi
  refine W.aast hx hb h0 (fun q h => by cases h) (fun h => by cases h) q3 q4 rfl hk' ⟨nI_pos (by omega), by rw [hc]; show j < (arrV _ _ _).slots.size; rw [arrV_size]; exact hj⟩ h02 (fun q h => by cases h) hk' (va_asg _ _) rfl rfl hdg fun G e9 z oq => ?_
  rw [hc] at e9
  have hP1 : va_P D vwCl ((wK M a e).set w0 (a k i, .inl (cO, N, .inr (.inr (.inr (.inr (va_up f j (some (a k2 i2))))))))) G := by
    refine hP.w.set (hO.dd (e := e)) hw0 ?_ oq
    show G[a k i]? = some (vp_cell _ _)
    rw [e9]
    rw [vp_cell_q, vp_cell_q, arrV_store]
    congr 2
    funext q
    by_cases hq : q = j
    · subst hq
      simp [updV, va_up, va_rf]
    · simp [updV, va_up, hq]
  rw [hset, hw] at hP1
  exact kk G _ (kP.of hP1) (hS.put z oq (hO.2 k i hi))
theorem lk_astW (hx : p.tables.exec = Jvm.exec) (hb : c.code = cc) (hK : va_K D vwCl (T4 cI cZ cW cO) s) (hP : kP D M a e H) (hO : kO A M a) (hS : va_S A H0 H locs) (k i k2 i2 : Nat) (hi : i < km M k) (hi2 : i2 < km M k2) {N : Nat} {f : Nat → Option Nat} {vs : List Value} (he : e k i = .inl (cW, N, .inr (.inr (.inr (.inr f))))) (he2 : e k2 i2 = .inr (4, vs)) {j : Nat} (hj : j < N) (hN : N ≤ 200) (hw : eup e k i (.inl (cW, N, .inr (.inr (.inr (.inr (va_up f j (some (a k2 i2)))))))) = e') (hdg : decode cc pc = .ok (.aastore, 1))
    (kk : ∀ (G : Heap) (locs1 : List Loc), kP D M a e' G → va_S A H0 G locs1 → W p l e0 R s m args below meth c G locs1 cells slots Q (F0 m (pc + 1) ls rest)) : W p l e0 R s m args below meth c H locs cells slots Q (F0 m pc ls (.ref (a k2 i2) :: .int (nI j) :: .ref (a k i) :: rest)) := by
  obtain ⟨q0, hq, hset⟩ := wK_at (a := a) (e := e) hi
  obtain ⟨q2, hq2, -⟩ := wK_at (a := a) (e := e) hi2
  refine va_astq (r := (RX4, TX4, 9)) hx hb hK hP.w hO.dd hS q0 2 q2 4 (by rw [hq, he]) rfl (by rw [hq2, he2]) rfl (vp_in_nI hj (by omega)) hdg (fun H1 locs1 h1 _ h3 => ?_)
  rw [li_nC (by omega), hset, hw] at h1
  exact kk H1 locs1 (kP.of h1) h3
/-- a new object -/
theorem lk_new3 (hx : p.tables.exec = Jvm.exec) (hb : c.code = cc) {own : String} {index : Nat} (h0 : ∀ w ∈ wsX30, w.before args s = true) (hown : s.vm.findClass own = some m.cls) (hcl : (Cond.classLink own index RX3).before args s = true) (hinst : (Cond.instantiable RX3 10).before args s = true) (hini : (Cond.initialized RX3).before args s = true) (hK : va_K D vwCl (T4 cI cZ cW cO) s) (hS : va_S A H0 H locs) (hcells : cells + 1 ≤ R.cells) (hslots : slots + 10 ≤ R.slots) (hdg : decode cc pc = .ok (.new index, 3))
    (kk : ∀ (q : Nat) (G : Heap), q = H.size → va_at D vwCl (q, .inr (3, [.null, .null, .null, .null, .null, .int 0, .null, .null, .null, .null])) G → (∀ x, x < H.size → G[x]? = H[x]?) → va_S A H0 G locs → W p l e0 R s m args below meth c G locs (cells + 1) (slots + 10) Q (F0 m (pc + 3) ls (.ref q :: rest))) : W p l e0 R s m args below meth c H locs cells slots Q (F0 m pc ls rest) := by
  have hKn := hK.1 3 _ rfl
  refine W.newcK hx hb hown hcl hinst hini rfl hdg hcells hslots hKn.2.1 rfl fun G kC hkC e1 z1 o1 => ?_
  refine kk _ G rfl ⟨_, rfl, (u_born tyX3 h0 (fun _ h => h) hKn hkC e1 tyX3_ok).to ?_⟩ o1 ⟨Nat.le_trans hS.1 (by omega), fun x g1 g2 => (o1 x (Nat.lt_of_lt_of_le g1 hS.1)).trans (hS.2.1 x g1 g2), hS.2.2⟩
  intro j hj
  rcases (show j = 0 ∨ j = 1 ∨ j = 2 ∨ j = 3 ∨ j = 4 ∨ j = 5 ∨ j = 6 ∨ j = 7 ∨ j = 8 ∨ j = 9 by have : j < 10 := hj; omega) with rfl | rfl | rfl | rfl | rfl | rfl | rfl | rfl | rfl | rfl <;> rfl
theorem lk_new4 (hx : p.tables.exec = Jvm.exec) (hb : c.code = cc) {own : String} {index : Nat} (h0 : ∀ w ∈ wsX40, w.before args s = true) (hown : s.vm.findClass own = some m.cls) (hcl : (Cond.classLink own index RX4).before args s = true) (hinst : (Cond.instantiable RX4 9).before args s = true) (hini : (Cond.initialized RX4).before args s = true) (hK : va_K D vwCl (T4 cI cZ cW cO) s) (hS : va_S A H0 H locs) (hcells : cells + 1 ≤ R.cells) (hslots : slots + 9 ≤ R.slots) (hdg : decode cc pc = .ok (.new index, 3))
    (kk : ∀ (q : Nat) (G : Heap), q = H.size → va_at D vwCl (q, .inr (4, [.int 0, .int 0, .int 0, .int 0, .int 0, .int 0, .int 0, .int 0, .null])) G → (∀ x, x < H.size → G[x]? = H[x]?) → va_S A H0 G locs → W p l e0 R s m args below meth c G locs (cells + 1) (slots + 9) Q (F0 m (pc + 3) ls (.ref q :: rest))) : W p l e0 R s m args below meth c H locs cells slots Q (F0 m pc ls rest) := by
  have hKn := hK.1 4 _ rfl
  refine W.newcK hx hb hown hcl hinst hini rfl hdg hcells hslots hKn.2.1 rfl fun G kC hkC e1 z1 o1 => ?_
  refine kk _ G rfl ⟨_, rfl, (u_born tyX4 h0 (fun _ h => h) hKn hkC e1 tyX4_ok).to ?_⟩ o1 ⟨Nat.le_trans hS.1 (by omega), fun x g1 g2 => (o1 x (Nat.lt_of_lt_of_le g1 hS.1)).trans (hS.2.1 x g1 g2), hS.2.2⟩
  intro j hj
  rcases (show j = 0 ∨ j = 1 ∨ j = 2 ∨ j = 3 ∨ j = 4 ∨ j = 5 ∨ j = 6 ∨ j = 7 ∨ j = 8 by have : j < 9 := hj; omega) with rfl | rfl | rfl | rfl | rfl | rfl | rfl | rfl | rfl <;> rfl
end LKW
