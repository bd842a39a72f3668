/-! ROWS MADE: the simulation grows -/
theorem rfs_up {k : Nat} {f : Nat → Nat} : va_up (rfs k f) k (some (f k)) = rfs (k + 1) f := by
  funext i
  unfold va_up rfs
  by_cases h : i = k
  · subst h
    rw [if_pos rfl, if_pos (by omega)]
  · rw [if_neg h]
    by_cases h2 : i < k
    · rw [if_pos h2, if_pos (by omega)]
    · rw [if_neg h2, if_neg (by omega)]
theorem rfs_0 {f : Nat → Nat} : rfs 0 f = fun _ => none := by
  funext i
  exact if_neg (by omega)
theorem rfs_ext {N : Nat} {f g : Nat → Nat} (h : ∀ i, i < N → f i = g i) : rfs N f = rfs N g := by
  funext i
  unfold rfs
  split
  · rw [h i (by assumption)]
  · rfl
section KT
variable {D : va_G} {M M' : Km} {a a1 : Ka} {e : Ke} {H G : Heap} {A : Nat → Prop} {cI cZ cW cO : ClassId} {X : Nat → va_E} {n nw ns : Nat} {σ η : Sg} {T : Ke}
theorem kt_new {c i q : Nat} {v : va_E} (hO : kO A M a) (hP : kP D M a e H) (hv : va_at D vwCl (q, v) G) (hk : ∀ x, x < H.size → G[x]? = H[x]?) (hq : q = H.size) (hA : A q) (hM : ∀ d j, j < km M' d → ¬ (d = c ∧ j = i) → j < km M d) : ∃ a1 : Ka, a1 c i = q ∧ (∀ d j, ¬ (d = c ∧ j = i) → a1 d j = a d j) ∧ kP D M' a1 (eup e c i v) G ∧ kO A M' a1 :=
  ⟨aup a c i q, aup_in, fun _ _ h => aup_ne h, hP.new hv hk hM, hO.new hP (by rw [hq]; exact Nat.le_refl _) hA hM⟩
/-- other addresses, the same cells -/
theorem kP.adr (hP : kP D M a1 (eL cI cZ cW cO X a n nw ns σ η T) H) (h1 : ∀ i, a1 1 i = a 1 i) (h2 : ∀ i, i < n → a1 2 i = a 2 i) (h3 : ∀ i, i < nw → a1 3 i = a 3 i) (h4 : ∀ i, i < km M 3 → a1 4 i = a 4 i) : kP D M a1 (eL cI cZ cW cO X a1 n nw ns σ η T) H := by
  intro c i hi
  have h0 := hP c i hi
  match c, hi, h0 with
  | 0, _, h0 => exact h0
  | 1, _, h0 =>
    have e9 : eS1 cI cZ cW cO a1 n nw ns (σ 3) (σ 6) (σ 7) (σ 17 0) η i = eS1 cI cZ cW cO a n nw ns (σ 3) (σ 6) (σ 7) (σ 17 0) η i := by
      unfold eS1
      rw [h1, h1, h1, h1, h1, h1, h1, h1, h1, rfs_ext h2, rfs_ext h3]
    show va_at D vwCl (a1 1 i, eS1 cI cZ cW cO a1 n nw ns (σ 3) (σ 6) (σ 7) (σ 17 0) η i) H
    rw [e9]
    exact h0
  | 2, _, h0 => exact h0
  | 3, hi, h0 =>
    show va_at D vwCl (a1 3 i, eS3 a1 (σ 4) (σ 10) (σ 5) (σ 11) (σ 12) (σ 13) (σ 14) (σ 15) i) H
    unfold eS3
    rw [h4 i hi]
    exact h0
  | 4, _, h0 => exact h0
  | c + 5, _, h0 => exact h0
theorem eT_set {c i : Nat} {v v' : va_E} : eup (eL cI cZ cW cO X a n nw ns σ η (eup T c i v)) (c + 5) i v' = eL cI cZ cW cO X a n nw ns σ η (eup T c i v') := by
  funext d j
  match d with
  | 0 => exact eup_ne (fun h => by omega)
  | 1 => exact eup_ne (fun h => by omega)
  | 2 => exact eup_ne (fun h => by omega)
  | 3 => exact eup_ne (fun h => by omega)
  | 4 => exact eup_ne (fun h => by omega)
  | d + 5 =>
    show (if d + 5 = c + 5 ∧ j = i then v' else (if d = c ∧ j = i then v else T d j)) = (if d = c ∧ j = i then v' else T d j)
    by_cases h : d = c ∧ j = i
    · rw [if_pos ⟨by omega, h.2⟩, if_pos h]
    · rw [if_neg (fun z => h ⟨by omega, z.2⟩), if_neg h, if_neg h]
theorem eT_new {c i : Nat} {v : va_E} : eup (eL cI cZ cW cO X a n nw ns σ η T) (c + 5) i v = eL cI cZ cW cO X a n nw ns σ η (eup T c i v) := by
  funext d j
  match d with
  | 0 => exact eup_ne (fun h => by omega)
  | 1 => exact eup_ne (fun h => by omega)
  | 2 => exact eup_ne (fun h => by omega)
  | 3 => exact eup_ne (fun h => by omega)
  | 4 => exact eup_ne (fun h => by omega)
  | d + 5 =>
    show (if d + 5 = c + 5 ∧ j = i then v else T d j) = (if d = c ∧ j = i then v else T d j)
    by_cases h : d = c ∧ j = i
    · rw [if_pos ⟨by omega, h.2⟩, if_pos h]
    · rw [if_neg (fun z => h ⟨by omega, z.2⟩), if_neg h]
theorem kO.ren {z : Nat} (hO : kO A M a) (h5 : 0 < km M 5) (hM : ∀ c i, i < km M' c → i < km M c ∧ c ≠ 5) : kO A M' (aup a 1 z (a 5 0)) := by
  refine ⟨fun c i d j hi hj h => ?_, fun c i hi => ?_⟩
  · by_cases h1 : c = 1 ∧ i = z <;> by_cases h2 : d = 1 ∧ j = z
    · exact ⟨h1.1.trans h2.1.symm, h1.2.trans h2.2.symm⟩
    · obtain ⟨e1, e2⟩ := h1
      subst e1; subst e2
      rw [aup_in, aup_ne h2] at h
      exact absurd (hO.1 5 0 d j h5 (hM d j hj).1 h).1.symm (hM d j hj).2
    · obtain ⟨e1, e2⟩ := h2
      subst e1; subst e2
      rw [aup_in, aup_ne h1] at h
      exact absurd (hO.1 c i 5 0 (hM c i hi).1 h5 h).1 (hM c i hi).2
    · rw [aup_ne h1, aup_ne h2] at h
      exact hO.1 c i d j (hM c i hi).1 (hM d j hj).1 h
  · by_cases h1 : c = 1 ∧ i = z
    · obtain ⟨e1, e2⟩ := h1
      subst e1; subst e2
      rw [aup_in]
      exact hO.2 5 0 h5
    · rw [aup_ne h1]
      exact hO.2 c i (hM c i hi).1
/-- the longer route in its place -/
theorem kt_route (hP : kP D [0, 10, n + 1, nw, nw, 1] a (eup (eL cI cZ cW cO X a n nw ns σ η (eup T 0 0 (.inl (cO, n + 1, .inr (.inr (.inr (.inr (rfs (n + 1) (a 2))))))))) 1 0 (.inr (3, [.ref (a 5 0), .ref (a 1 2), .ref (a 1 3), .ref (a 1 4), .ref (a 1 5), .int (σ 17 0), .ref (a 1 6), .ref (a 1 7), .ref (a 1 8), .ref (a 1 9)]))) H) : kP D (MS (n + 1) nw) (aup a 1 1 (a 5 0)) (eL cI cZ cW cO X (aup a 1 1 (a 5 0)) (n + 1) nw ns σ η T) H := by
  intro c i hi
  match c, hi with
  | 0, hi => exact absurd hi (Nat.not_lt_zero _)
  | 1, hi =>
    match i, hi with
    | 0, hi => exact hP 1 0 (show 0 < 10 by decide)
    | 1, hi => exact hP 5 0 (show 0 < 1 by decide)
    | i + 2, hi =>
      have h0 := hP 1 (i + 2) hi
      rw [eup_ne (fun z => by omega)] at h0
      have hi : i + 2 < 10 := hi
      rcases (show i = 0 ∨ i = 1 ∨ i = 2 ∨ i = 3 ∨ i = 4 ∨ i = 5 ∨ i = 6 ∨ i = 7 by omega) with rfl | rfl | rfl | rfl | rfl | rfl | rfl | rfl <;> exact h0
  | 2, hi => exact hP 2 i hi
  | 3, hi => exact hP 3 i hi
  | 4, hi => exact hP 4 i hi
  | c + 5, hi => exact absurd hi (Nat.not_lt_zero _)
/-- the longer row of walkers in its place -/
theorem kt_walkers (hP : kP D [0, 10, n, nw + 1, nw + 1, 1] a (eup (eL cI cZ cW cO X a n nw ns σ η (eup T 0 0 (.inl (cW, nw + 1, .inr (.inr (.inr (.inr (rfs (nw + 1) (a 3))))))))) 1 0 (.inr (3, [.ref (a 1 1), .ref (a 1 2), .ref (a 1 3), .ref (a 5 0), .ref (a 1 5), .int (σ 17 0), .ref (a 1 6), .ref (a 1 7), .ref (a 1 8), .ref (a 1 9)]))) H) : kP D (MS n (nw + 1)) (aup a 1 4 (a 5 0)) (eL cI cZ cW cO X (aup a 1 4 (a 5 0)) n (nw + 1) ns σ η T) H := by
  intro c i hi
  match c, hi with
  | 0, hi => exact absurd hi (Nat.not_lt_zero _)
  | 1, hi =>
    by_cases h4 : i = 4
    · subst h4
      exact hP 5 0 (show 0 < 1 by decide)
    · match i, hi, h4 with
      | 0, hi, _ => exact hP 1 0 (show 0 < 10 by decide)
      | i + 1, hi, h4 =>
        have h0 := hP 1 (i + 1) hi
        rw [eup_ne (fun z => by omega)] at h0
        have hi : i + 1 < 10 := hi
        rcases (show i = 0 ∨ i = 1 ∨ i = 2 ∨ i = 4 ∨ i = 5 ∨ i = 6 ∨ i = 7 ∨ i = 8 by omega) with rfl | rfl | rfl | rfl | rfl | rfl | rfl | rfl <;> exact h0
  | 2, hi => exact hP 2 i hi
  | 3, hi => exact hP 3 i hi
  | 4, hi => exact hP 4 i hi
  | c + 5, hi => exact absurd hi (Nat.not_lt_zero _)
end KT
/-- a call that makes cells: the world at other addresses -/
def kn_Q (D : va_G) (M M' : Km) (a : Ka) (e : Ka → Ke) (h0 : Nat) (A : Nat → Prop) : Array Value → State → Outcome → State → Prop := va_Qv (fun (b : Ka) => kO A M' b ∧ (∀ c i, i < km M' c → (i < km M c ∧ b c i = a c i) ∨ h0 ≤ b c i) ∧ b 1 0 = a 1 0) (fun b t => kP D M' b (e b) t.heap) A
theorem kn_of {l : Launch} {y : MethodName} {ws ws' : List Cond} {rm : Room} {cc : ByteArray} {maxL mc ms : Nat} {av : List Value} {D : va_G} {tys : List (ClassId × FieldType)} {w : va_W} {M M' : Km} {a : Ka} {e' : Ka → Ke} {H : Heap} {A : Nat → Prop} (hy : plainName y.cls = true) (hw : ws = Cond.code y cc maxL none :: ws') (hlen : (lg_sl av).length ≤ maxL)
    (body : ∀ (p : Program) (e : Env) (s : State) (m : MethodId) (args : Array Value) (below : List Frame) (meth : Method) (c : Code) (Q : State → Prop) (ls : Array Slot) (locs : List Loc),
      p.tables.exec = Jvm.exec → c.code = cc → c.maxLocals = maxL → s.vm.findClass y.cls = some m.cls → (∀ w ∈ ws, w.before args s = true) → va_K D vwCl tys s → lwE s → va_P D vwCl w H → lv_has ls maxL (lv_args 0 av) → va_S A H H locs →
      (∀ (pc : Nat) (ls : Array Slot) (H1 : Heap) (locs : List Loc) (k j : Nat) (b : Ka), k ≤ mc → j ≤ ms → decode cc pc = .ok (.return_, 1) → kP D M' b (e' b) H1 → kO A M' b → (∀ c i, i < km M' c → (i < km M c ∧ b c i = a c i) ∨ H.size ≤ b c i) → b 1 0 = a 1 0 → va_S A H H1 locs → W p l e rm s m args below meth c H1 locs k j Q (F0 m pc ls [])) →
      W p l e rm s m args below meth c H locs 0 0 Q (F0 m 0 ls [])) : Met l y ws rm (ro_P D tys w H av) (kn_Q D M M' a e' H.size A) mc ms A := by
  refine Met.ofW (cc := cc) (maxL := maxL) (ret := none) hy hw ?_
  intro p e s m args below meth c s₁ B hml hv
  obtain ⟨rfl, rfl, hP, hK, hE⟩ := hv
  have hx := B.exec
  have hb := B.bytes
  have hr := B.returns
  have hts := atoms_spec (ws := ws) B.pre
  have hown : s.vm.findClass y.cls = some m.cls := findClass_of_methodNamed B.named
  have hlocks := B.notSynchronized
  have hl := lv_entry av (n := maxL) hlen
  rw [lg_entry_eq]
  generalize (lg_sl av ++ List.replicate (maxL - (lg_sl av).length) Slot.unset).toArray = ls at hl ⊢
  exact body p e s m _ below meth c _ ls [] hx hb hml hown hts hK hE hP hl va_S.rf (fun pc ls H1 locs k j b hk hj hd hP1 hO1 hf h10 hS => w_wide hk hj (W.vret hx hb hr (fun t ht hW => ⟨⟨b, rfl, ⟨hO1, hf, h10⟩, by show kP D M' b (e' b) t.heap; rw [ht]; exact hP1⟩, hS.F ht⟩) hS.2.2 hd hlocks))
theorem sz_r {σ : Sg} {n r : Nat} (h0 : r ≠ 0) (h1 : r ≠ 1) (h2 : r ≠ 2) : up2 (up2 (up2 σ 0 n 0) 1 n 0) 2 n 0 r = σ r := by
  rw [up2_r h2, up2_r h1, up2_r h0]
theorem up2_oo {σ : Sg} {r i r' k : Nat} {v : Int32} (h : k ≠ i) : up2 σ r i v r' k = σ r' k := by rw [up2_at, if_neg (fun z => h z.2)]
theorem sz_o {σ : Sg} {n r i : Nat} (h : i ≠ n) : up2 (up2 (up2 σ 0 n 0) 1 n 0) 2 n 0 r i = σ r i := by
  rw [up2_oo h, up2_oo h, up2_oo h]
theorem sz_e {σ : Sg} {n : Nat} {cI cZ cW cO : ClassId} {X : Nat → va_E} {a : Ka} {m nw ns : Nat} {η : Sg} {T : Ke} (h8 : σ 8 n = 0) (h9 : σ 9 n = 0) : eL cI cZ cW cO X a m nw ns (up2 (up2 (up2 σ 0 n 0) 1 n 0) 2 n 0) η T 2 n = .inl (cI, 5, .inl (fun _ => 0)) := by
  show (Sum.inl (cI, 5, .inl (ro5 _ _ _ _ _)) : va_E) = _
  congr 4
  funext j
  match j with
  | 0 =>
    show up2 (up2 (up2 σ 0 n 0) 1 n 0) 2 n 0 0 n = 0
    rw [up2_r (by decide), up2_r (by decide), up2_in']
  | 1 =>
    show up2 (up2 (up2 σ 0 n 0) 1 n 0) 2 n 0 1 n = 0
    rw [up2_r (by decide), up2_in']
  | 2 =>
    show up2 (up2 (up2 σ 0 n 0) 1 n 0) 2 n 0 2 n = 0
    rw [up2_in']
  | 3 =>
    show up2 (up2 (up2 σ 0 n 0) 1 n 0) 2 n 0 8 n = 0
    rw [sz_r (by decide) (by decide) (by decide), h8]
  | 4 =>
    show up2 (up2 (up2 σ 0 n 0) 1 n 0) 2 n 0 9 n = 0
    rw [sz_r (by decide) (by decide) (by decide), h9]
  | j + 5 => rfl
theorem eL_row {e : Ke} {c i : Nat} {v : va_E} (h : e c i = v) : eup e c i v = e := by
  funext d j
  by_cases q : d = c ∧ j = i
  · obtain ⟨q1, q2⟩ := q
    subst q1; subst q2
    rw [eup_in, h]
  · rw [eup_ne q]
theorem kM5 {n nw : Nat} (d j : Nat) : j < km [0, 10, n, nw, nw, 1] d → ¬ (d = 5 ∧ j = 0) → j < km (MS n nw) d := by
  intro h h2
  match d, h, h2 with
  | 0, h, _ => exact h
  | 1, h, _ => exact h
  | 2, h, _ => exact h
  | 3, h, _ => exact h
  | 4, h, _ => exact h
  | 5, h, h2 =>
    have h : j < 1 := h
    exact absurd ⟨rfl, by omega⟩ h2
  | d + 6, h, _ => exact absurd h (Nat.not_lt_zero _)
theorem kMr {n nw : Nat} (d j : Nat) : j < km [0, 10, n + 1, nw, nw, 1] d → ¬ (d = 2 ∧ j = n) → j < km [0, 10, n, nw, nw, 1] d := by
  intro h h2
  match d, h, h2 with
  | 0, h, _ => exact h
  | 1, h, _ => exact h
  | 2, h, h2 =>
    have h : j < n + 1 := h
    show j < n
    omega
  | 3, h, _ => exact h
  | 4, h, _ => exact h
  | 5, h, _ => exact h
  | d + 6, h, _ => exact h
theorem kMs {n nw : Nat} (c i : Nat) : i < km (MS n nw) c → i < km [0, 10, n, nw, nw, 1] c ∧ c ≠ 5 := by
  intro h
  match c, h with
  | 0, h => exact ⟨h, by decide⟩
  | 1, h => exact ⟨h, by decide⟩
  | 2, h => exact ⟨h, by decide⟩
  | 3, h => exact ⟨h, by decide⟩
  | 4, h => exact ⟨h, by decide⟩
  | c + 5, h => exact absurd h (Nat.not_lt_zero _)
theorem kP.reS {D : va_G} {M : Km} {a : Ka} {H : Heap} {cI cZ cW cO : ClassId} {X : Nat → va_E} {n nw ns : Nat} {σ σ' η : Sg} {T : Ke} (hP : kP D M a (eL cI cZ cW cO X a n nw ns σ η T) H) (e : σ = σ') : kP D M a (eL cI cZ cW cO X a n nw ns σ' η T) H := by rw [← e]; exact hP
theorem sAdd_eq {σ : Sg} {n : Nat} {x y z : Int32} (h8 : σ 8 n = 0) (h9 : σ 9 n = 0) : up2 (up2 (up2 (up2 (up2 (up2 (up2 (up2 σ 0 n 0) 1 n 0) 2 n 0) 0 n x) 1 n y) 2 n z) 8 n (nI 0)) 9 n (nI 0) = up2 (up2 (up2 σ 0 n x) 1 n y) 2 n z := by
  funext r i
  simp only [up2_at]
  by_cases hi : i = n
  · subst hi
    by_cases h : r = 9
    · subst h; simp [h9]; rfl
    · by_cases h : r = 8
      · subst h; simp [h8]; rfl
      · by_cases h2 : r = 2
        · subst h2; simp
        · by_cases h1 : r = 1
          · subst h1; simp
          · by_cases h0 : r = 0
            · subst h0; simp
            · simp [*]
  · simp [hi]
section ST3
variable {cI cZ cW cO : ClassId} {X : Nat → va_E} {a : Ka} {n nw ns : Nat} {σ η : Sg} {T : Ke}
theorem stS_0 {s : Nat} {x : Int32} : eup (eL cI cZ cW cO X a n nw ns σ η T) 2 s (.inl (cI, 5, .inl (upd (ro5 (σ 0 s) (σ 1 s) (σ 2 s) (σ 8 s) (σ 9 s)) 0 x))) = eL cI cZ cW cO X a n nw ns (up2 σ 0 s x) η T := by
  refine eL_eq (by decide) (by decide) ?_ (fun c i hc hc0 h => ?_)
  · show (Sum.inl (cI, 5, .inl (ro5 (up2 σ 0 s x 0 s) (up2 σ 0 s x 1 s) (up2 σ 0 s x 2 s) (up2 σ 0 s x 8 s) (up2 σ 0 s x 9 s))) : va_E) = _
    rw [up2_in', up2_r (r' := 1) (by decide), up2_r (r' := 2) (by decide), up2_r (r' := 8) (by decide), up2_r (r' := 9) (by decide)]
    congr 4
    funext j
    unfold upd
    by_cases q : j = 0
    · subst q; rfl
    · rw [if_neg q]
      match j, q with
      | 0, q => first | rfl | exact absurd rfl q
      | 1, q => first | rfl | exact absurd rfl q
      | 2, q => first | rfl | exact absurd rfl q
      | 3, q => first | rfl | exact absurd rfl q
      | 4, q => first | rfl | exact absurd rfl q
      | j + 5, _ => rfl
  · rcases (show c = 1 ∨ c = 2 ∨ c = 3 ∨ c = 4 by omega) with rfl | rfl | rfl | rfl
    · exact eL_fix (up2_r (by decide)) (up2_r (by decide)) (up2_r (by decide)) (up2_r (by decide)) rfl i
    · exact eL_rte (up2_o (fun z => h ⟨rfl, z⟩)) (congrFun (up2_r (by decide)) _) (congrFun (up2_r (by decide)) _) (congrFun (up2_r (by decide)) _) (congrFun (up2_r (by decide)) _)
    · exact eL_wkr (congrFun (up2_r (by decide)) _) (congrFun (up2_r (by decide)) _) (congrFun (up2_r (by decide)) _) (congrFun (up2_r (by decide)) _) (congrFun (up2_r (by decide)) _) (congrFun (up2_r (by decide)) _) (congrFun (up2_r (by decide)) _) (congrFun (up2_r (by decide)) _)
    · exact eL_kno (fun j _ => congrFun (up2_r (by decide)) _)
theorem stS_1 {s : Nat} {x : Int32} : eup (eL cI cZ cW cO X a n nw ns σ η T) 2 s (.inl (cI, 5, .inl (upd (ro5 (σ 0 s) (σ 1 s) (σ 2 s) (σ 8 s) (σ 9 s)) 1 x))) = eL cI cZ cW cO X a n nw ns (up2 σ 1 s x) η T := by
  refine eL_eq (by decide) (by decide) ?_ (fun c i hc hc0 h => ?_)
  · show (Sum.inl (cI, 5, .inl (ro5 (up2 σ 1 s x 0 s) (up2 σ 1 s x 1 s) (up2 σ 1 s x 2 s) (up2 σ 1 s x 8 s) (up2 σ 1 s x 9 s))) : va_E) = _
    rw [up2_in', up2_r (r' := 0) (by decide), up2_r (r' := 2) (by decide), up2_r (r' := 8) (by decide), up2_r (r' := 9) (by decide)]
    congr 4
    funext j
    unfold upd
    by_cases q : j = 1
    · subst q; rfl
    · rw [if_neg q]
      match j, q with
      | 0, q => first | rfl | exact absurd rfl q
      | 1, q => first | rfl | exact absurd rfl q
      | 2, q => first | rfl | exact absurd rfl q
      | 3, q => first | rfl | exact absurd rfl q
      | 4, q => first | rfl | exact absurd rfl q
      | j + 5, _ => rfl
  · rcases (show c = 1 ∨ c = 2 ∨ c = 3 ∨ c = 4 by omega) with rfl | rfl | rfl | rfl
    · exact eL_fix (up2_r (by decide)) (up2_r (by decide)) (up2_r (by decide)) (up2_r (by decide)) rfl i
    · exact eL_rte (congrFun (up2_r (by decide)) _) (up2_o (fun z => h ⟨rfl, z⟩)) (congrFun (up2_r (by decide)) _) (congrFun (up2_r (by decide)) _) (congrFun (up2_r (by decide)) _)
    · exact eL_wkr (congrFun (up2_r (by decide)) _) (congrFun (up2_r (by decide)) _) (congrFun (up2_r (by decide)) _) (congrFun (up2_r (by decide)) _) (congrFun (up2_r (by decide)) _) (congrFun (up2_r (by decide)) _) (congrFun (up2_r (by decide)) _) (congrFun (up2_r (by decide)) _)
    · exact eL_kno (fun j _ => congrFun (up2_r (by decide)) _)
theorem stS_2 {s : Nat} {x : Int32} : eup (eL cI cZ cW cO X a n nw ns σ η T) 2 s (.inl (cI, 5, .inl (upd (ro5 (σ 0 s) (σ 1 s) (σ 2 s) (σ 8 s) (σ 9 s)) 2 x))) = eL cI cZ cW cO X a n nw ns (up2 σ 2 s x) η T := by
  refine eL_eq (by decide) (by decide) ?_ (fun c i hc hc0 h => ?_)
  · show (Sum.inl (cI, 5, .inl (ro5 (up2 σ 2 s x 0 s) (up2 σ 2 s x 1 s) (up2 σ 2 s x 2 s) (up2 σ 2 s x 8 s) (up2 σ 2 s x 9 s))) : va_E) = _
    rw [up2_in', up2_r (r' := 0) (by decide), up2_r (r' := 1) (by decide), up2_r (r' := 8) (by decide), up2_r (r' := 9) (by decide)]
    congr 4
    funext j
    unfold upd
    by_cases q : j = 2
    · subst q; rfl
    · rw [if_neg q]
      match j, q with
      | 0, q => first | rfl | exact absurd rfl q
      | 1, q => first | rfl | exact absurd rfl q
      | 2, q => first | rfl | exact absurd rfl q
      | 3, q => first | rfl | exact absurd rfl q
      | 4, q => first | rfl | exact absurd rfl q
      | j + 5, _ => rfl
  · rcases (show c = 1 ∨ c = 2 ∨ c = 3 ∨ c = 4 by omega) with rfl | rfl | rfl | rfl
    · exact eL_fix (up2_r (by decide)) (up2_r (by decide)) (up2_r (by decide)) (up2_r (by decide)) rfl i
    · exact eL_rte (congrFun (up2_r (by decide)) _) (congrFun (up2_r (by decide)) _) (up2_o (fun z => h ⟨rfl, z⟩)) (congrFun (up2_r (by decide)) _) (congrFun (up2_r (by decide)) _)
    · exact eL_wkr (congrFun (up2_r (by decide)) _) (congrFun (up2_r (by decide)) _) (congrFun (up2_r (by decide)) _) (congrFun (up2_r (by decide)) _) (congrFun (up2_r (by decide)) _) (congrFun (up2_r (by decide)) _) (congrFun (up2_r (by decide)) _) (congrFun (up2_r (by decide)) _)
    · exact eL_kno (fun j _ => congrFun (up2_r (by decide)) _)
end ST3
set_option maxHeartbeats 4000000 in
set_option maxRecDepth 100000 in
theorem c_X3_stretch (l : Launch) (D : va_G) (cI cZ cW cO : ClassId) (X : Nat → va_E) (a : Ka) (n nw ns : Nat) (σ η : Sg) (T : Ke) (H : Heap) (x : Int32) (y : Int32) (A : Nat → Prop) (hO : kO A (MS n nw) a) (hB : n ≤ 10 ∧ nw ≤ 20 ∧ ns ≤ 6) (hn : n < 10) (hz : σ 8 n = 0 ∧ σ 9 n = 0) (hA : ∀ q, H.size ≤ q → A q) : Met l yX3_stretch wsX3_stretch ({ frames := 0, cells := 2, slots := 16, locals := 0 } : Room) (ro_P D (T4 cI cZ cW cO) (wK (MS n nw) a (eL cI cZ cW cO X a n nw ns σ η T)) H [.ref (a 1 0), .int x, .int y]) (kn_Q D (MS n nw) (MS (n + 1) nw) a (fun b => eL cI cZ cW cO X b (n + 1) nw ns (up2 (up2 (up2 σ 0 n x) 1 n y) 2 n (plS σ n)) η T) H.size A) 2 16 A := by
  refine kn_of (cc := cX3_stretch) (maxL := 6) (by decide) rfl (Nat.le_of_ble_eq_true rfl) ?_
  intro p e s m args below meth c Q ls locs hx hb hml hown hts hK hE hP hl hS hEnd
  have hP : kP D (MS n nw) a (eL cI cZ cW cO X a n nw ns σ η T) H := kP.of hP
  have hl : lv_has ls 6 [(0, .ref (a 1 0)), (1, .int x), (2, .int y)] := hl
  have hX3 : ∀ w ∈ wsX30, w.before args s = true := fun w h => hts w (List.mem_cons_of_mem _ (List.mem_append_right _ (h)))
  have f9 : (Cond.fieldLink RX3 9 "LanternWalkLaw$Sim" "route" "[[I").before args s = true := hts _ (List.mem_of_getElem? (i := 1) rfl)
  have g1 : (Cond.classLink RX3 7 "[I").before args s = true := hts _ (List.mem_of_getElem? (i := 2) rfl)
  have g2 : (Cond.arrayClass .int).before args s = true := hts _ (List.mem_of_getElem? (i := 3) rfl)
  refine lv_aload_n hx hb dX3_stretch_0 rfl (lv_at hl 0 rfl) ?_
  refine lk_gf3 hx hb hX3 hown hK hP 1 0 (show 0 < 10 by decide) rfl 0 (by decide) f9 rfl dX3_stretch_1 ?_
  refine lk_alen hx hb hK hP 1 1 (show 1 < 10 by decide) 3 rfl rfl dX3_stretch_4 ?_
  refine lv_iconst (v := nI 1) hx hb dX3_stretch_5 rfl ?_
  refine lv_iadd hx hb dX3_stretch_6 ?_
  refine li_topi (nI_add _ _) ?_
  refine lk_newO hx hb hown g1 hE hK hS (N := n + 1) (by omega) (Nat.le_of_ble_eq_true rfl) (show 0 + (n + 1) ≤ 16 by omega) dX3_stretch_7 (fun q G hq hv hk hS => ?_)
  obtain ⟨a1, rfl, ha1, hP, hO⟩ := kt_new (c := 5) (i := 0) (M' := [0, 10, n, nw, nw, 1]) hO hP hv hk hq (hA _ (by omega)) kM5
  rw [eT_new] at hP
  have hP : kP D ([0, 10, n, nw, nw, 1]) a1 (eL cI cZ cW cO X a1 n nw ns σ η (eup T 0 0 (.inl (cO, n + 1, .inr (.inr (.inr (.inr (rfs 0 (a1 2))))))))) G := by rw [rfs_0]; exact kP.adr hP (fun i => ha1 1 i (by omega)) (fun i _ => ha1 2 i (by omega)) (fun i _ => ha1 3 i (by omega)) (fun i _ => ha1 4 i (by omega))
  have hz1 : H.size ≤ a1 5 0 := by omega
  have hl : lv_has ls 6 [(0, .ref (a1 1 0)), (1, .int x), (2, .int y)] := by rw [ha1 1 0 (by omega)]; exact hl
  refine w_wide (k := 1) (n := 11) (by omega) (by omega) ?_
  refine lv_astore_n (lv' := [(3, .ref (a1 5 0)), (0, .ref (a1 1 0)), (1, .int x), (2, .int y)]) hx hb dX3_stretch_10 rfl hl (by decide) rfl (fun ls hl => ?_)
  refine lv_iconst (v := nI 0) hx hb dX3_stretch_11 rfl ?_
  refine lv_istore (lv' := [(4, .int (nI 0)), (3, .ref (a1 5 0)), (0, .ref (a1 1 0)), (1, .int x), (2, .int y)]) hx hb dX3_stretch_12 hl (by decide) rfl (fun ls hl => ?_)
  refine lv_iconst (v := nI 0) hx hb dX3_stretch_14 rfl ?_
  refine lv_istore (lv' := [(5, .int (nI 0)), (4, .int (nI 0)), (3, .ref (a1 5 0)), (0, .ref (a1 1 0)), (1, .int x), (2, .int y)]) hx hb dX3_stretch_15 hl (by decide) rfl (fun ls hl => ?_)
  have L17_1 : ∀ (fuel : Nat) (k : Nat), (n - k) < fuel → (k ≤ n) → ∀ (G : Heap) (locs : List Loc), kP D ([0, 10, n, nw, nw, 1]) a1 (eL cI cZ cW cO X a1 n nw ns σ η (eup T 0 0 (.inl (cO, n + 1, .inr (.inr (.inr (.inr (rfs k (a1 2))))))))) G → va_S A H G locs → ∀ (ls : Array Slot), lv_has ls 6 [(5, .int (nI k)), (4, .int (plS σ k)), (3, .ref (a1 5 0)), (0, .ref (a1 1 0)), (1, .int x), (2, .int y)] → W p l e ({ frames := 0, cells := 2, slots := 16, locals := 0 } : Room) s m args below meth c G locs 1 11 Q (F0 m 17 ls []) := by
    intro fuel
    induction fuel with
    | zero =>
      intro k hfuel
      exact absurd hfuel (Nat.not_lt_zero _)
    | succ fuel ih17 =>
      intro k hfuel17 hk G locs hP hS ls hl
      refine lv_iload hx hb dX3_stretch_17 (lv_at hl 0 rfl) ?_
      refine lv_aload_n hx hb dX3_stretch_19 rfl (lv_at hl 3 rfl) ?_
      refine lk_gf3 hx hb hX3 hown hK hP 1 0 (show 0 < 10 by decide) rfl 0 (by decide) f9 rfl dX3_stretch_20 ?_
      refine lk_alen hx hb hK hP 1 1 (show 1 < 10 by decide) 3 rfl rfl dX3_stretch_23 ?_
      refine li_ge (tgt := 58) hx hb dX3_stretch_24 (by decide) (by omega) (by omega) (fun c2 => ?_) (fun c2 => ?_)
      · skip
        refine lv_aload_n hx hb dX3_stretch_58 rfl (lv_at hl 2 rfl) ?_
        refine lv_aload_n hx hb dX3_stretch_59 rfl (lv_at hl 3 rfl) ?_
        refine lk_gf3 hx hb hX3 hown hK hP 1 0 (show 0 < 10 by decide) rfl 0 (by decide) f9 rfl dX3_stretch_60 ?_
        refine lk_alen hx hb hK hP 1 1 (show 1 < 10 by decide) 3 rfl rfl dX3_stretch_63 ?_
        refine lv_iconst (v := nI 5) hx hb dX3_stretch_64 rfl ?_
        have hkn : k = n := by omega
        rw [hkn] at hP hl
        have hG1 := hS.1
        refine lk_newI hx hb g2 hK hS (N := 5) (by decide) (Nat.le_of_ble_eq_true rfl) (Nat.le_of_ble_eq_true rfl) dX3_stretch_65 (fun q G hq hv hk hS => ?_)
        have hP := kP.re (M := [0, 10, n, nw, nw, 1]) (σ' := (up2 (up2 (up2 σ 0 n 0) 1 n 0) 2 n 0)) (η' := η) (Nat.le_refl 10) hP (fun i _ => congrFun (sz_r (by decide) (by decide) (by decide)) i) (fun i _ => congrFun (sz_r (by decide) (by decide) (by decide)) i) (fun i _ => congrFun (sz_r (by decide) (by decide) (by decide)) i) (congrFun (sz_r (by decide) (by decide) (by decide)) 0) (fun i hi => ⟨sz_o (Nat.ne_of_lt hi), sz_o (Nat.ne_of_lt hi), sz_o (Nat.ne_of_lt hi), sz_o (Nat.ne_of_lt hi), sz_o (Nat.ne_of_lt hi)⟩) (fun i _ => ⟨congrFun (sz_r (by decide) (by decide) (by decide)) i, congrFun (sz_r (by decide) (by decide) (by decide)) i, congrFun (sz_r (by decide) (by decide) (by decide)) i, congrFun (sz_r (by decide) (by decide) (by decide)) i, congrFun (sz_r (by decide) (by decide) (by decide)) i, congrFun (sz_r (by decide) (by decide) (by decide)) i, congrFun (sz_r (by decide) (by decide) (by decide)) i, congrFun (sz_r (by decide) (by decide) (by decide)) i⟩) (fun k j _ _ => congrFun (sz_r (by decide) (by decide) (by decide)) _) (fun _ _ => rfl) (fun _ _ => rfl) (fun _ _ => rfl) (fun _ _ => rfl)
        obtain ⟨a2, rfl, ha2, hP, hO⟩ := kt_new (c := 2) (i := n) (M' := [0, 10, n + 1, nw, nw, 1]) hO hP hv hk hq (hA _ (by omega)) kMr
        rw [eL_row (sz_e hz.1 hz.2)] at hP
        have hz1 : H.size ≤ a2 5 0 := by rw [ha2 5 0 (by omega)]; exact hz1
        have hz2 : H.size ≤ a2 2 n := by omega
        have hP : kP D ([0, 10, n + 1, nw, nw, 1]) a2 (eL cI cZ cW cO X a2 n nw ns (up2 (up2 (up2 σ 0 n 0) 1 n 0) 2 n 0) η (eup T 0 0 (.inl (cO, n + 1, .inr (.inr (.inr (.inr (rfs n (a2 2))))))))) G := by rw [rfs_ext (f := a2 2) (g := a1 2) (fun i hi => ha2 2 i (by omega))]; exact kP.adr hP (fun i => ha2 1 i (by omega)) (fun i hi => ha2 2 i (by omega)) (fun i _ => ha2 3 i (by omega)) (fun i _ => ha2 4 i (by omega))
        have hl : lv_has ls 6 [(5, .int (nI n)), (4, .int (plS σ n)), (3, .ref (a2 5 0)), (0, .ref (a2 1 0)), (1, .int x), (2, .int y)] := by rw [ha2 5 0 (by omega), ha2 1 0 (by omega)]; exact hl
        rw [← ha2 5 0 (by omega)]
        refine w_wide (k := 2) (n := 16) (by omega) (by omega) ?_
        refine lv_dup hx hb dX3_stretch_67 rfl ?_
        refine lv_iconst (v := nI 0) hx hb dX3_stretch_68 rfl ?_
        refine lv_iload_n hx hb dX3_stretch_69 rfl (lv_at hl 4 rfl) ?_
        refine lk_ist hx hb hK hP hO hS 2 n (show n < n + 1 by omega) rfl (by omega) (by decide) stS_0 dX3_stretch_70 (fun G locs hP hS => ?_)
        refine lv_dup hx hb dX3_stretch_71 rfl ?_
        refine lv_iconst (v := nI 1) hx hb dX3_stretch_72 rfl ?_
        refine lv_iload_n hx hb dX3_stretch_73 rfl (lv_at hl 5 rfl) ?_
        refine lk_ist hx hb hK hP hO hS 2 n (show n < n + 1 by omega) rfl (by omega) (by decide) stS_1 dX3_stretch_74 (fun G locs hP hS => ?_)
        refine lv_dup hx hb dX3_stretch_75 rfl ?_
        refine lv_iconst (v := nI 2) hx hb dX3_stretch_76 rfl ?_
        refine lv_iload hx hb dX3_stretch_77 (lv_at hl 1 rfl) ?_
        refine lk_ist hx hb hK hP hO hS 2 n (show n < n + 1 by omega) rfl (by omega) (by decide) stS_2 dX3_stretch_79 (fun G locs hP hS => ?_)
        refine lv_dup hx hb dX3_stretch_80 rfl ?_
        refine lv_iconst (v := nI 3) hx hb dX3_stretch_81 rfl ?_
        refine lv_iconst (v := nI 0) hx hb dX3_stretch_82 rfl ?_
        refine lk_ist hx hb hK hP hO hS 2 n (show n < n + 1 by omega) rfl (by omega) (by decide) stS_8 dX3_stretch_83 (fun G locs hP hS => ?_)
        refine lv_dup hx hb dX3_stretch_84 rfl ?_
        refine lv_iconst (v := nI 4) hx hb dX3_stretch_85 rfl ?_
        refine lv_iconst (v := nI 0) hx hb dX3_stretch_86 rfl ?_
        refine lk_ist hx hb hK hP hO hS 2 n (show n < n + 1 by omega) rfl (by omega) (by decide) stS_9 dX3_stretch_87 (fun G locs hP hS => ?_)
        refine lk_astO (e' := eL cI cZ cW cO X a2 n nw ns (up2 (up2 (up2 (up2 (up2 (up2 (up2 (up2 σ 0 n 0) 1 n 0) 2 n 0) 0 n x) 1 n y) 2 n (plS σ n)) 8 n (nI 0)) 9 n (nI 0)) η (eup T 0 0 (.inl (cO, n + 1, .inr (.inr (.inr (.inr (rfs (n + 1) (a2 2))))))))) hx hb hE hK hP hO hS 5 0 2 n (show 0 < 1 by decide) (show n < n + 1 by omega) rfl rfl (by omega) (by omega) (by rw [rfs_up]; exact eT_set) dX3_stretch_88 (fun G locs hP hS => ?_)
        refine lv_aload_n hx hb dX3_stretch_89 rfl (lv_at hl 3 rfl) ?_
        refine lv_aload_n hx hb dX3_stretch_90 rfl (lv_at hl 2 rfl) ?_
        refine lk_pf3 hx hb hX3 hown hK hP hO hS 1 0 (show 0 < 10 by decide) rfl 0 (by decide) f9 rfl rfl rfl (Nat.le_of_ble_eq_true rfl) rfl dX3_stretch_91 (fun G locs hP hS => ?_)
        refine hEnd 94 ls G locs _ _ _ (Nat.le_refl _) (Nat.le_refl _) dX3_stretch_94 (kP.reS (kt_route hP) (sAdd_eq hz.1 hz.2)) (hO.ren (z := 1) (M' := MS (n + 1) nw) (show 0 < 1 by decide) kMs) (fun c i hi => ?_) ((aup_ne (by omega)).trans ((ha2 1 0 (by omega)).trans (ha1 1 0 (by omega)))) hS
        match c, hi with
        | 0, hi => exact absurd hi (Nat.not_lt_zero _)
        | 1, hi =>
          by_cases h1 : i = 1
          · subst h1; exact Or.inr hz1
          · exact Or.inl ⟨hi, (aup_ne (fun z => h1 z.2)).trans ((ha2 1 i (by omega)).trans (ha1 1 i (by omega)))⟩
        | 2, hi =>
          have hi : i < n + 1 := hi
          by_cases h1 : i = n
          · subst h1; exact Or.inr hz2
          · exact Or.inl ⟨show i < n by omega, (aup_ne (by omega)).trans ((ha2 2 i (by omega)).trans (ha1 2 i (by omega)))⟩
        | 3, hi => exact Or.inl ⟨hi, (aup_ne (by omega)).trans ((ha2 3 i (by omega)).trans (ha1 3 i (by omega)))⟩
        | 4, hi => exact Or.inl ⟨hi, (aup_ne (by omega)).trans ((ha2 4 i (by omega)).trans (ha1 4 i (by omega)))⟩
        | c + 5, hi => exact absurd hi (Nat.not_lt_zero _)
      · skip
        refine lv_aload_n hx hb dX3_stretch_27 rfl (lv_at hl 2 rfl) ?_
        refine lv_iload hx hb dX3_stretch_28 (lv_at hl 0 rfl) ?_
        refine lv_aload_n hx hb dX3_stretch_30 rfl (lv_at hl 3 rfl) ?_
        refine lk_gf3 hx hb hX3 hown hK hP 1 0 (show 0 < 10 by decide) rfl 0 (by decide) f9 rfl dX3_stretch_31 ?_
        refine lv_iload hx hb dX3_stretch_34 (lv_at hl 0 rfl) ?_
        refine lk_aldO hx hb hK hP 1 1 (show 1 < 10 by decide) rfl (by omega) (by omega) (rfs_at (by omega)) dX3_stretch_36 ?_
        refine lk_astO (e' := eL cI cZ cW cO X a1 n nw ns σ η (eup T 0 0 (.inl (cO, n + 1, .inr (.inr (.inr (.inr (rfs (k + 1) (a1 2))))))))) hx hb hE hK hP hO hS 5 0 2 k (show 0 < 1 by decide) (show k < n by omega) rfl rfl (by omega) (by omega) (by rw [rfs_up]; exact eT_set) dX3_stretch_37 (fun G locs hP hS => ?_)
        refine lv_iload hx hb dX3_stretch_38 (lv_at hl 1 rfl) ?_
        refine lv_aload_n hx hb dX3_stretch_40 rfl (lv_at hl 3 rfl) ?_
        refine lk_gf3 hx hb hX3 hown hK hP 1 0 (show 0 < 10 by decide) rfl 0 (by decide) f9 rfl dX3_stretch_41 ?_
        refine lv_iload hx hb dX3_stretch_44 (lv_at hl 0 rfl) ?_
        refine lk_aldO hx hb hK hP 1 1 (show 1 < 10 by decide) rfl (by omega) (by omega) (rfs_at (by omega)) dX3_stretch_46 ?_
        refine lv_iconst (v := nI 0) hx hb dX3_stretch_47 rfl ?_
        refine lk_ild hx hb hK hP 2 k (show k < n by omega) rfl (by omega) (by decide) dX3_stretch_48 ?_
        refine li_topi (x' := σ 0 k) rfl ?_
        refine lv_iadd hx hb dX3_stretch_49 ?_
        refine lv_istore (lv' := [(4, .int ((plS σ k) + (σ 0 k))), (5, .int (nI k)), (3, .ref (a1 5 0)), (0, .ref (a1 1 0)), (1, .int x), (2, .int y)]) hx hb dX3_stretch_50 hl (by decide) rfl (fun ls hl => ?_)
        refine lv_iinc (v := nI (k + 1)) (lv' := [(5, .int (nI (k + 1))), (4, .int ((plS σ k) + (σ 0 k))), (3, .ref (a1 5 0)), (0, .ref (a1 1 0)), (1, .int x), (2, .int y)]) hx hb dX3_stretch_52 hl (k := 1) rfl (nI_inc _ _) (by decide) rfl (fun ls hl => ?_)
        refine lv_goto (tgt := 17) hx hb dX3_stretch_55 (by decide) ?_
        have hl9 : lv_has ls 6 [(5, .int (nI (k + 1))), (4, .int ((plS σ k) + (σ 0 k))), (3, .ref (a1 5 0)), (0, .ref (a1 1 0)), (1, .int x), (2, .int y)] := lv_sub hl [0, 1, 2, 3, 4, 5] rfl
        have hl9 : lv_has ls 6 [(5, .int (nI (k + 1))), (4, .int (plS σ (k + 1))), (3, .ref (a1 5 0)), (0, .ref (a1 1 0)), (1, .int x), (2, .int y)] := lv_re hl9 1 rfl (show (plS σ k) + (σ 0 k) = plS σ (k + 1) from rfl)
        exact ih17 (k + 1) (by omega) (by omega) G locs hP hS ls hl9
  have hl9 : lv_has ls 6 [(5, .int (nI 0)), (4, .int (nI 0)), (3, .ref (a1 5 0)), (0, .ref (a1 1 0)), (1, .int x), (2, .int y)] := lv_sub hl [0, 1, 2, 3, 4, 5] rfl
  have hl9 : lv_has ls 6 [(5, .int (nI 0)), (4, .int (plS σ 0)), (3, .ref (a1 5 0)), (0, .ref (a1 1 0)), (1, .int x), (2, .int y)] := lv_re hl9 1 rfl (show nI 0 = plS σ 0 from rfl)
  exact L17_1 ((n - 0) + 1) 0 (Nat.lt_succ_self _) (by omega) G locs hP hS ls hl9
