/-! THE LAW'S WORLD: kind 0 the class's cells (X), 1 the simulation with its rows, 2 its route, 3 its walkers, 4 what they know, 5 + c the law's own rows (T); σ: the rows as in 06; η: 0 learns 1 lit 2 through 3 order -/
def rfs (N : Nat) (f : Nat → Nat) : Nat → Option Nat := fun i => if i < N then some (f i) else none
theorem rfs_at {N : Nat} {f : Nat → Nat} {i : Nat} (h : i < N) : rfs N f i = some (f i) := if_pos h
def ro5 (x0 x1 x2 x3 x4 : Int32) : Nat → Int32
  | 0 => x0
  | 1 => x1
  | 2 => x2
  | 3 => x3
  | 4 => x4
  | _ => 0
def kn6 (f : Nat → Int32) (k : Nat) : Nat → Int32 := fun j => if j < 6 then f (6 * k + j) else 0
theorem kn6_at {f : Nat → Int32} {k j : Nat} (h : j < 6) : kn6 f k j = f (6 * k + j) := if_pos h
def eS1 (cI cZ cW cO : ClassId) (a : Ka) (n nw ns : Nat) (s3 s6 s7 : Nat → Int32) (t : Int32) (η : Sg) : Nat → va_E
  | 0 => .inr (3, [.ref (a 1 1), .ref (a 1 2), .ref (a 1 3), .ref (a 1 4), .ref (a 1 5), .int t, .ref (a 1 6), .ref (a 1 7), .ref (a 1 8), .ref (a 1 9)])
  | 1 => .inl (cO, n, .inr (.inr (.inr (.inr (rfs n (a 2))))))
  | 2 => .inl (cI, 2, .inl s7)
  | 3 => .inl (cI, 10, .inl s3)
  | 4 => .inl (cW, nw, .inr (.inr (.inr (.inr (rfs nw (a 3))))))
  | 5 => .inl (cI, ns, .inl s6)
  | 6 => .inl (cZ, 20, .inl (η 1))
  | 7 => .inl (cI, 120, .inl (η 0))
  | 8 => .inl (cI, 10, .inl (η 2))
  | 9 => .inl (cI, 20, .inl (η 3))
  | _ => .inl (cI, 0, .inl (fun _ => 0))
def eS3 (a : Ka) (p4 p10 p5 p11 p12 p13 p14 p15 : Nat → Int32) (k : Nat) : va_E := .inr (4, [.int (p4 k), .int (p10 k), .int (p5 k), .int (p11 k), .int (p12 k), .int (p13 k), .int (p14 k), .int (p15 k), .ref (a 4 k)])
def eL (cI cZ cW cO : ClassId) (X : Nat → va_E) (a : Ka) (n nw ns : Nat) (σ η : Sg) (T : Ke) : Ke
  | 0, i => X i
  | 1, i => eS1 cI cZ cW cO a n nw ns (σ 3) (σ 6) (σ 7) (σ 17 0) η i
  | 2, s => .inl (cI, 5, .inl (ro5 (σ 0 s) (σ 1 s) (σ 2 s) (σ 8 s) (σ 9 s)))
  | 3, k => eS3 a (σ 4) (σ 10) (σ 5) (σ 11) (σ 12) (σ 13) (σ 14) (σ 15) k
  | 4, k => .inl (cI, 6, .inl (kn6 (σ 16) k))
  | c + 5, i => T c i
abbrev MS (n nw : Nat) : Km := [0, 10, n, nw, nw]
theorem up2_in' {σ : Sg} {r i : Nat} {v : Int32} : up2 σ r i v r i = v := by rw [up2_at, if_pos ⟨rfl, rfl⟩]
theorem up2_o {σ : Sg} {r i k : Nat} {v : Int32} (h : k ≠ i) : up2 σ r i v r k = σ r k := by rw [up2_at, if_neg (fun z => h z.2)]
theorem up2_r {σ : Sg} {r i r' : Nat} {v : Int32} (h : r' ≠ r) : up2 σ r i v r' = σ r' := up2_row σ r i v h
theorem up2_self {σ : Sg} {r i : Nat} {v : Int32} : up2 σ r i v r = upd (σ r) i v := by
  funext k
  unfold upd
  rw [up2_at]
  by_cases h : k = i
  · rw [if_pos ⟨rfl, h⟩, if_pos h]
  · rw [if_neg (fun z => h z.2), if_neg h]
section EL
variable {cI cZ cW cO : ClassId} {X : Nat → va_E} {a : Ka} {n nw ns : Nat} {σ η : Sg} {T : Ke}
theorem eL_eq {σ' η' : Sg} {c0 i0 : Nat} {v : va_E} (h0 : c0 < 5) (h0' : 0 < c0) (hv : eL cI cZ cW cO X a n nw ns σ' η' T c0 i0 = v) (ho : ∀ c i, c < 5 → 0 < c → ¬ (c = c0 ∧ i = i0) → eL cI cZ cW cO X a n nw ns σ' η' T c i = eL cI cZ cW cO X a n nw ns σ η T c i) : eup (eL cI cZ cW cO X a n nw ns σ η T) c0 i0 v = eL cI cZ cW cO X a n nw ns σ' η' T := by
  funext c i
  by_cases h : c = c0 ∧ i = i0
  · obtain ⟨h1, h2⟩ := h
    subst h1; subst h2
    rw [eup_in, hv]
  · rw [eup_ne h]
    match c, h with
    | 0, h => rfl
    | c + 5, h => rfl
    | 1, h => exact (ho 1 i (by decide) (by decide) h).symm
    | 2, h => exact (ho 2 i (by decide) (by decide) h).symm
    | 3, h => exact (ho 3 i (by decide) (by decide) h).symm
    | 4, h => exact (ho 4 i (by decide) (by decide) h).symm
/-- what a change of one row leaves -/
theorem eL_fix {σ' η' : Sg} (h3 : σ' 3 = σ 3) (h6 : σ' 6 = σ 6) (h7 : σ' 7 = σ 7) (h17 : σ' 17 = σ 17) (hη : η' = η) (i : Nat) : eL cI cZ cW cO X a n nw ns σ' η' T 1 i = eL cI cZ cW cO X a n nw ns σ η T 1 i := by
  show eS1 cI cZ cW cO a n nw ns (σ' 3) (σ' 6) (σ' 7) (σ' 17 0) η' i = _
  rw [h3, h6, h7, h17, hη]
  rfl
theorem eL_rte {σ' η' : Sg} {s : Nat} (h0 : σ' 0 s = σ 0 s) (h1 : σ' 1 s = σ 1 s) (h2 : σ' 2 s = σ 2 s) (h8 : σ' 8 s = σ 8 s) (h9 : σ' 9 s = σ 9 s) : eL cI cZ cW cO X a n nw ns σ' η' T 2 s = eL cI cZ cW cO X a n nw ns σ η T 2 s := by
  show (Sum.inl (cI, 5, .inl (ro5 (σ' 0 s) (σ' 1 s) (σ' 2 s) (σ' 8 s) (σ' 9 s))) : va_E) = Sum.inl (cI, 5, .inl (ro5 (σ 0 s) (σ 1 s) (σ 2 s) (σ 8 s) (σ 9 s)))
  rw [h0, h1, h2, h8, h9]
theorem eL_wkr {σ' η' : Sg} {k : Nat} (h4 : σ' 4 k = σ 4 k) (h10 : σ' 10 k = σ 10 k) (h5 : σ' 5 k = σ 5 k) (h11 : σ' 11 k = σ 11 k) (h12 : σ' 12 k = σ 12 k) (h13 : σ' 13 k = σ 13 k) (h14 : σ' 14 k = σ 14 k) (h15 : σ' 15 k = σ 15 k) : eL cI cZ cW cO X a n nw ns σ' η' T 3 k = eL cI cZ cW cO X a n nw ns σ η T 3 k := by
  show eS3 a (σ' 4) (σ' 10) (σ' 5) (σ' 11) (σ' 12) (σ' 13) (σ' 14) (σ' 15) k = eS3 a (σ 4) (σ 10) (σ 5) (σ 11) (σ 12) (σ 13) (σ 14) (σ 15) k
  unfold eS3
  rw [h4, h5, h10, h11, h12, h13, h14, h15]
theorem eL_kno {σ' η' : Sg} {k : Nat} (h : ∀ j, j < 6 → σ' 16 (6 * k + j) = σ 16 (6 * k + j)) : eL cI cZ cW cO X a n nw ns σ' η' T 4 k = eL cI cZ cW cO X a n nw ns σ η T 4 k := by
  show (Sum.inl (cI, 6, .inl (kn6 (σ' 16) k)) : va_E) = Sum.inl (cI, 6, .inl (kn6 (σ 16) k))
  congr 4
  funext j
  unfold kn6
  split
  · exact h j (by assumption)
  · rfl
theorem stS_4 {k : Nat} {x : Int32} : eup (eL cI cZ cW cO X a n nw ns σ η T) 3 k (.inr (4, [.int x, .int (σ 10 k), .int (σ 5 k), .int (σ 11 k), .int (σ 12 k), .int (σ 13 k), .int (σ 14 k), .int (σ 15 k), .ref (a 4 k)])) = eL cI cZ cW cO X a n nw ns (up2 σ 4 k x) η T := by
  refine eL_eq (by decide) (by decide) ?_ (fun c i hc hc0 h => ?_)
  · show (Sum.inr (4, [.int (up2 σ 4 k x 4 k), .int (up2 σ 4 k x 10 k), .int (up2 σ 4 k x 5 k), .int (up2 σ 4 k x 11 k), .int (up2 σ 4 k x 12 k), .int (up2 σ 4 k x 13 k), .int (up2 σ 4 k x 14 k), .int (up2 σ 4 k x 15 k), .ref (a 4 k)]) : va_E) = _
    rw [up2_in', up2_r (r' := 10) (by decide), up2_r (r' := 5) (by decide), up2_r (r' := 11) (by decide), up2_r (r' := 12) (by decide), up2_r (r' := 13) (by decide), up2_r (r' := 14) (by decide), up2_r (r' := 15) (by decide)]
  · rcases (show c = 1 ∨ c = 2 ∨ c = 3 ∨ c = 4 by omega) with rfl | rfl | rfl | rfl
    · exact eL_fix (up2_r (by decide)) (up2_r (by decide)) (up2_r (by decide)) (up2_r (by decide)) rfl i
    · exact eL_rte (congrFun (up2_r (by decide)) _) (congrFun (up2_r (by decide)) _) (congrFun (up2_r (by decide)) _) (congrFun (up2_r (by decide)) _) (congrFun (up2_r (by decide)) _)
    · exact eL_wkr (up2_o (fun z => h ⟨rfl, z⟩)) (congrFun (up2_r (by decide)) _) (congrFun (up2_r (by decide)) _) (congrFun (up2_r (by decide)) _) (congrFun (up2_r (by decide)) _) (congrFun (up2_r (by decide)) _) (congrFun (up2_r (by decide)) _) (congrFun (up2_r (by decide)) _)
    · exact eL_kno (fun j _ => congrFun (up2_r (by decide)) _)
theorem stS_10 {k : Nat} {x : Int32} : eup (eL cI cZ cW cO X a n nw ns σ η T) 3 k (.inr (4, [.int (σ 4 k), .int x, .int (σ 5 k), .int (σ 11 k), .int (σ 12 k), .int (σ 13 k), .int (σ 14 k), .int (σ 15 k), .ref (a 4 k)])) = eL cI cZ cW cO X a n nw ns (up2 σ 10 k x) η T := by
  refine eL_eq (by decide) (by decide) ?_ (fun c i hc hc0 h => ?_)
  · show (Sum.inr (4, [.int (up2 σ 10 k x 4 k), .int (up2 σ 10 k x 10 k), .int (up2 σ 10 k x 5 k), .int (up2 σ 10 k x 11 k), .int (up2 σ 10 k x 12 k), .int (up2 σ 10 k x 13 k), .int (up2 σ 10 k x 14 k), .int (up2 σ 10 k x 15 k), .ref (a 4 k)]) : va_E) = _
    rw [up2_in', up2_r (r' := 4) (by decide), up2_r (r' := 5) (by decide), up2_r (r' := 11) (by decide), up2_r (r' := 12) (by decide), up2_r (r' := 13) (by decide), up2_r (r' := 14) (by decide), up2_r (r' := 15) (by decide)]
  · rcases (show c = 1 ∨ c = 2 ∨ c = 3 ∨ c = 4 by omega) with rfl | rfl | rfl | rfl
    · exact eL_fix (up2_r (by decide)) (up2_r (by decide)) (up2_r (by decide)) (up2_r (by decide)) rfl i
    · exact eL_rte (congrFun (up2_r (by decide)) _) (congrFun (up2_r (by decide)) _) (congrFun (up2_r (by decide)) _) (congrFun (up2_r (by decide)) _) (congrFun (up2_r (by decide)) _)
    · exact eL_wkr (congrFun (up2_r (by decide)) _) (up2_o (fun z => h ⟨rfl, z⟩)) (congrFun (up2_r (by decide)) _) (congrFun (up2_r (by decide)) _) (congrFun (up2_r (by decide)) _) (congrFun (up2_r (by decide)) _) (congrFun (up2_r (by decide)) _) (congrFun (up2_r (by decide)) _)
    · exact eL_kno (fun j _ => congrFun (up2_r (by decide)) _)
theorem stS_5 {k : Nat} {x : Int32} : eup (eL cI cZ cW cO X a n nw ns σ η T) 3 k (.inr (4, [.int (σ 4 k), .int (σ 10 k), .int x, .int (σ 11 k), .int (σ 12 k), .int (σ 13 k), .int (σ 14 k), .int (σ 15 k), .ref (a 4 k)])) = eL cI cZ cW cO X a n nw ns (up2 σ 5 k x) η T := by
  refine eL_eq (by decide) (by decide) ?_ (fun c i hc hc0 h => ?_)
  · show (Sum.inr (4, [.int (up2 σ 5 k x 4 k), .int (up2 σ 5 k x 10 k), .int (up2 σ 5 k x 5 k), .int (up2 σ 5 k x 11 k), .int (up2 σ 5 k x 12 k), .int (up2 σ 5 k x 13 k), .int (up2 σ 5 k x 14 k), .int (up2 σ 5 k x 15 k), .ref (a 4 k)]) : va_E) = _
    rw [up2_in', up2_r (r' := 4) (by decide), up2_r (r' := 10) (by decide), up2_r (r' := 11) (by decide), up2_r (r' := 12) (by decide), up2_r (r' := 13) (by decide), up2_r (r' := 14) (by decide), up2_r (r' := 15) (by decide)]
  · rcases (show c = 1 ∨ c = 2 ∨ c = 3 ∨ c = 4 by omega) with rfl | rfl | rfl | rfl
    · exact eL_fix (up2_r (by decide)) (up2_r (by decide)) (up2_r (by decide)) (up2_r (by decide)) rfl i
    · exact eL_rte (congrFun (up2_r (by decide)) _) (congrFun (up2_r (by decide)) _) (congrFun (up2_r (by decide)) _) (congrFun (up2_r (by decide)) _) (congrFun (up2_r (by decide)) _)
    · exact eL_wkr (congrFun (up2_r (by decide)) _) (congrFun (up2_r (by decide)) _) (up2_o (fun z => h ⟨rfl, z⟩)) (congrFun (up2_r (by decide)) _) (congrFun (up2_r (by decide)) _) (congrFun (up2_r (by decide)) _) (congrFun (up2_r (by decide)) _) (congrFun (up2_r (by decide)) _)
    · exact eL_kno (fun j _ => congrFun (up2_r (by decide)) _)
theorem stS_11 {k : Nat} {x : Int32} : eup (eL cI cZ cW cO X a n nw ns σ η T) 3 k (.inr (4, [.int (σ 4 k), .int (σ 10 k), .int (σ 5 k), .int x, .int (σ 12 k), .int (σ 13 k), .int (σ 14 k), .int (σ 15 k), .ref (a 4 k)])) = eL cI cZ cW cO X a n nw ns (up2 σ 11 k x) η T := by
  refine eL_eq (by decide) (by decide) ?_ (fun c i hc hc0 h => ?_)
  · show (Sum.inr (4, [.int (up2 σ 11 k x 4 k), .int (up2 σ 11 k x 10 k), .int (up2 σ 11 k x 5 k), .int (up2 σ 11 k x 11 k), .int (up2 σ 11 k x 12 k), .int (up2 σ 11 k x 13 k), .int (up2 σ 11 k x 14 k), .int (up2 σ 11 k x 15 k), .ref (a 4 k)]) : va_E) = _
    rw [up2_in', up2_r (r' := 4) (by decide), up2_r (r' := 10) (by decide), up2_r (r' := 5) (by decide), up2_r (r' := 12) (by decide), up2_r (r' := 13) (by decide), up2_r (r' := 14) (by decide), up2_r (r' := 15) (by decide)]
  · rcases (show c = 1 ∨ c = 2 ∨ c = 3 ∨ c = 4 by omega) with rfl | rfl | rfl | rfl
    · exact eL_fix (up2_r (by decide)) (up2_r (by decide)) (up2_r (by decide)) (up2_r (by decide)) rfl i
    · exact eL_rte (congrFun (up2_r (by decide)) _) (congrFun (up2_r (by decide)) _) (congrFun (up2_r (by decide)) _) (congrFun (up2_r (by decide)) _) (congrFun (up2_r (by decide)) _)
    · exact eL_wkr (congrFun (up2_r (by decide)) _) (congrFun (up2_r (by decide)) _) (congrFun (up2_r (by decide)) _) (up2_o (fun z => h ⟨rfl, z⟩)) (congrFun (up2_r (by decide)) _) (congrFun (up2_r (by decide)) _) (congrFun (up2_r (by decide)) _) (congrFun (up2_r (by decide)) _)
    · exact eL_kno (fun j _ => congrFun (up2_r (by decide)) _)
theorem stS_12 {k : Nat} {x : Int32} : eup (eL cI cZ cW cO X a n nw ns σ η T) 3 k (.inr (4, [.int (σ 4 k), .int (σ 10 k), .int (σ 5 k), .int (σ 11 k), .int x, .int (σ 13 k), .int (σ 14 k), .int (σ 15 k), .ref (a 4 k)])) = eL cI cZ cW cO X a n nw ns (up2 σ 12 k x) η T := by
  refine eL_eq (by decide) (by decide) ?_ (fun c i hc hc0 h => ?_)
  · show (Sum.inr (4, [.int (up2 σ 12 k x 4 k), .int (up2 σ 12 k x 10 k), .int (up2 σ 12 k x 5 k), .int (up2 σ 12 k x 11 k), .int (up2 σ 12 k x 12 k), .int (up2 σ 12 k x 13 k), .int (up2 σ 12 k x 14 k), .int (up2 σ 12 k x 15 k), .ref (a 4 k)]) : va_E) = _
    rw [up2_in', up2_r (r' := 4) (by decide), up2_r (r' := 10) (by decide), up2_r (r' := 5) (by decide), up2_r (r' := 11) (by decide), up2_r (r' := 13) (by decide), up2_r (r' := 14) (by decide), up2_r (r' := 15) (by decide)]
  · rcases (show c = 1 ∨ c = 2 ∨ c = 3 ∨ c = 4 by omega) with rfl | rfl | rfl | rfl
    · exact eL_fix (up2_r (by decide)) (up2_r (by decide)) (up2_r (by decide)) (up2_r (by decide)) rfl i
    · exact eL_rte (congrFun (up2_r (by decide)) _) (congrFun (up2_r (by decide)) _) (congrFun (up2_r (by decide)) _) (congrFun (up2_r (by decide)) _) (congrFun (up2_r (by decide)) _)
    · exact eL_wkr (congrFun (up2_r (by decide)) _) (congrFun (up2_r (by decide)) _) (congrFun (up2_r (by decide)) _) (congrFun (up2_r (by decide)) _) (up2_o (fun z => h ⟨rfl, z⟩)) (congrFun (up2_r (by decide)) _) (congrFun (up2_r (by decide)) _) (congrFun (up2_r (by decide)) _)
    · exact eL_kno (fun j _ => congrFun (up2_r (by decide)) _)
theorem stS_13 {k : Nat} {x : Int32} : eup (eL cI cZ cW cO X a n nw ns σ η T) 3 k (.inr (4, [.int (σ 4 k), .int (σ 10 k), .int (σ 5 k), .int (σ 11 k), .int (σ 12 k), .int x, .int (σ 14 k), .int (σ 15 k), .ref (a 4 k)])) = eL cI cZ cW cO X a n nw ns (up2 σ 13 k x) η T := by
  refine eL_eq (by decide) (by decide) ?_ (fun c i hc hc0 h => ?_)
  · show (Sum.inr (4, [.int (up2 σ 13 k x 4 k), .int (up2 σ 13 k x 10 k), .int (up2 σ 13 k x 5 k), .int (up2 σ 13 k x 11 k), .int (up2 σ 13 k x 12 k), .int (up2 σ 13 k x 13 k), .int (up2 σ 13 k x 14 k), .int (up2 σ 13 k x 15 k), .ref (a 4 k)]) : va_E) = _
    rw [up2_in', up2_r (r' := 4) (by decide), up2_r (r' := 10) (by decide), up2_r (r' := 5) (by decide), up2_r (r' := 11) (by decide), up2_r (r' := 12) (by decide), up2_r (r' := 14) (by decide), up2_r (r' := 15) (by decide)]
  · rcases (show c = 1 ∨ c = 2 ∨ c = 3 ∨ c = 4 by omega) with rfl | rfl | rfl | rfl
    · exact eL_fix (up2_r (by decide)) (up2_r (by decide)) (up2_r (by decide)) (up2_r (by decide)) rfl i
    · exact eL_rte (congrFun (up2_r (by decide)) _) (congrFun (up2_r (by decide)) _) (congrFun (up2_r (by decide)) _) (congrFun (up2_r (by decide)) _) (congrFun (up2_r (by decide)) _)
    · exact eL_wkr (congrFun (up2_r (by decide)) _) (congrFun (up2_r (by decide)) _) (congrFun (up2_r (by decide)) _) (congrFun (up2_r (by decide)) _) (congrFun (up2_r (by decide)) _) (up2_o (fun z => h ⟨rfl, z⟩)) (congrFun (up2_r (by decide)) _) (congrFun (up2_r (by decide)) _)
    · exact eL_kno (fun j _ => congrFun (up2_r (by decide)) _)
theorem stS_14 {k : Nat} {x : Int32} : eup (eL cI cZ cW cO X a n nw ns σ η T) 3 k (.inr (4, [.int (σ 4 k), .int (σ 10 k), .int (σ 5 k), .int (σ 11 k), .int (σ 12 k), .int (σ 13 k), .int x, .int (σ 15 k), .ref (a 4 k)])) = eL cI cZ cW cO X a n nw ns (up2 σ 14 k x) η T := by
  refine eL_eq (by decide) (by decide) ?_ (fun c i hc hc0 h => ?_)
  · show (Sum.inr (4, [.int (up2 σ 14 k x 4 k), .int (up2 σ 14 k x 10 k), .int (up2 σ 14 k x 5 k), .int (up2 σ 14 k x 11 k), .int (up2 σ 14 k x 12 k), .int (up2 σ 14 k x 13 k), .int (up2 σ 14 k x 14 k), .int (up2 σ 14 k x 15 k), .ref (a 4 k)]) : va_E) = _
    rw [up2_in', up2_r (r' := 4) (by decide), up2_r (r' := 10) (by decide), up2_r (r' := 5) (by decide), up2_r (r' := 11) (by decide), up2_r (r' := 12) (by decide), up2_r (r' := 13) (by decide), up2_r (r' := 15) (by decide)]
  · rcases (show c = 1 ∨ c = 2 ∨ c = 3 ∨ c = 4 by omega) with rfl | rfl | rfl | rfl
    · exact eL_fix (up2_r (by decide)) (up2_r (by decide)) (up2_r (by decide)) (up2_r (by decide)) rfl i
    · exact eL_rte (congrFun (up2_r (by decide)) _) (congrFun (up2_r (by decide)) _) (congrFun (up2_r (by decide)) _) (congrFun (up2_r (by decide)) _) (congrFun (up2_r (by decide)) _)
    · exact eL_wkr (congrFun (up2_r (by decide)) _) (congrFun (up2_r (by decide)) _) (congrFun (up2_r (by decide)) _) (congrFun (up2_r (by decide)) _) (congrFun (up2_r (by decide)) _) (congrFun (up2_r (by decide)) _) (up2_o (fun z => h ⟨rfl, z⟩)) (congrFun (up2_r (by decide)) _)
    · exact eL_kno (fun j _ => congrFun (up2_r (by decide)) _)
theorem stS_15 {k : Nat} {x : Int32} : eup (eL cI cZ cW cO X a n nw ns σ η T) 3 k (.inr (4, [.int (σ 4 k), .int (σ 10 k), .int (σ 5 k), .int (σ 11 k), .int (σ 12 k), .int (σ 13 k), .int (σ 14 k), .int x, .ref (a 4 k)])) = eL cI cZ cW cO X a n nw ns (up2 σ 15 k x) η T := by
  refine eL_eq (by decide) (by decide) ?_ (fun c i hc hc0 h => ?_)
  · show (Sum.inr (4, [.int (up2 σ 15 k x 4 k), .int (up2 σ 15 k x 10 k), .int (up2 σ 15 k x 5 k), .int (up2 σ 15 k x 11 k), .int (up2 σ 15 k x 12 k), .int (up2 σ 15 k x 13 k), .int (up2 σ 15 k x 14 k), .int (up2 σ 15 k x 15 k), .ref (a 4 k)]) : va_E) = _
    rw [up2_in', up2_r (r' := 4) (by decide), up2_r (r' := 10) (by decide), up2_r (r' := 5) (by decide), up2_r (r' := 11) (by decide), up2_r (r' := 12) (by decide), up2_r (r' := 13) (by decide), up2_r (r' := 14) (by decide)]
  · rcases (show c = 1 ∨ c = 2 ∨ c = 3 ∨ c = 4 by omega) with rfl | rfl | rfl | rfl
    · exact eL_fix (up2_r (by decide)) (up2_r (by decide)) (up2_r (by decide)) (up2_r (by decide)) rfl i
    · exact eL_rte (congrFun (up2_r (by decide)) _) (congrFun (up2_r (by decide)) _) (congrFun (up2_r (by decide)) _) (congrFun (up2_r (by decide)) _) (congrFun (up2_r (by decide)) _)
    · exact eL_wkr (congrFun (up2_r (by decide)) _) (congrFun (up2_r (by decide)) _) (congrFun (up2_r (by decide)) _) (congrFun (up2_r (by decide)) _) (congrFun (up2_r (by decide)) _) (congrFun (up2_r (by decide)) _) (congrFun (up2_r (by decide)) _) (up2_o (fun z => h ⟨rfl, z⟩))
    · exact eL_kno (fun j _ => congrFun (up2_r (by decide)) _)
theorem stS_16 {k j : Nat} {x : Int32} (hj : j < 6) : eup (eL cI cZ cW cO X a n nw ns σ η T) 4 k (.inl (cI, 6, .inl (upd (kn6 (σ 16) k) j x))) = eL cI cZ cW cO X a n nw ns (up2 σ 16 (6 * k + j) x) η T := by
  refine eL_eq (by decide) (by decide) ?_ (fun c i hc hc0 h => ?_)
  · show (Sum.inl (cI, 6, .inl (kn6 (up2 σ 16 (6 * k + j) x 16) k)) : va_E) = _
    congr 4
    funext z
    unfold kn6 upd
    by_cases q : z = j
    · subst q
      rw [if_pos hj, if_pos rfl, up2_in']
    · rw [if_neg q]
      by_cases r : z < 6
      · rw [if_pos r]
        show _ = (if z < 6 then σ 16 (6 * k + z) else 0)
        rw [if_pos r]
        exact up2_o (by omega)
      · rw [if_neg r]
        show _ = (if z < 6 then σ 16 (6 * k + z) else 0)
        rw [if_neg r]
  · rcases (show c = 1 ∨ c = 2 ∨ c = 3 ∨ c = 4 by omega) with rfl | rfl | rfl | rfl
    · exact eL_fix (up2_r (by decide)) (up2_r (by decide)) (up2_r (by decide)) (up2_r (by decide)) rfl i
    · exact eL_rte (congrFun (up2_r (by decide)) _) (congrFun (up2_r (by decide)) _) (congrFun (up2_r (by decide)) _) (congrFun (up2_r (by decide)) _) (congrFun (up2_r (by decide)) _)
    · exact eL_wkr (congrFun (up2_r (by decide)) _) (congrFun (up2_r (by decide)) _) (congrFun (up2_r (by decide)) _) (congrFun (up2_r (by decide)) _) (congrFun (up2_r (by decide)) _) (congrFun (up2_r (by decide)) _) (congrFun (up2_r (by decide)) _) (congrFun (up2_r (by decide)) _)
    · exact eL_kno (fun z hz => up2_o (fun q => h ⟨rfl, by omega⟩))
theorem stS_8 {s : Nat} {x : Int32} : eup (eL cI cZ cW cO X a n nw ns σ η T) 2 s (.inl (cI, 5, .inl (upd (ro5 (σ 0 s) (σ 1 s) (σ 2 s) (σ 8 s) (σ 9 s)) 3 x))) = eL cI cZ cW cO X a n nw ns (up2 σ 8 s x) η T := by
  refine eL_eq (by decide) (by decide) ?_ (fun c i hc hc0 h => ?_)
  · show (Sum.inl (cI, 5, .inl (ro5 (up2 σ 8 s x 0 s) (up2 σ 8 s x 1 s) (up2 σ 8 s x 2 s) (up2 σ 8 s x 8 s) (up2 σ 8 s x 9 s))) : va_E) = _
    rw [up2_in', up2_r (r' := 0) (by decide), up2_r (r' := 1) (by decide), up2_r (r' := 2) (by decide), up2_r (r' := 9) (by decide)]
    congr 4
    funext j
    unfold upd
    by_cases q : j = 3
    · subst q; rfl
    · rw [if_neg q]
      match j, q with
      | 0, _ => rfl
      | 1, _ => rfl
      | 2, _ => rfl
      | 3, q => first | rfl | exact absurd rfl q
      | 4, q => first | rfl | exact absurd rfl q
      | j + 5, _ => rfl
  · rcases (show c = 1 ∨ c = 2 ∨ c = 3 ∨ c = 4 by omega) with rfl | rfl | rfl | rfl
    · exact eL_fix (up2_r (by decide)) (up2_r (by decide)) (up2_r (by decide)) (up2_r (by decide)) rfl i
    · exact eL_rte (congrFun (up2_r (by decide)) _) (congrFun (up2_r (by decide)) _) (congrFun (up2_r (by decide)) _) (up2_o (fun z => h ⟨rfl, z⟩)) (congrFun (up2_r (by decide)) _)
    · exact eL_wkr (congrFun (up2_r (by decide)) _) (congrFun (up2_r (by decide)) _) (congrFun (up2_r (by decide)) _) (congrFun (up2_r (by decide)) _) (congrFun (up2_r (by decide)) _) (congrFun (up2_r (by decide)) _) (congrFun (up2_r (by decide)) _) (congrFun (up2_r (by decide)) _)
    · exact eL_kno (fun j _ => congrFun (up2_r (by decide)) _)
theorem stS_9 {s : Nat} {x : Int32} : eup (eL cI cZ cW cO X a n nw ns σ η T) 2 s (.inl (cI, 5, .inl (upd (ro5 (σ 0 s) (σ 1 s) (σ 2 s) (σ 8 s) (σ 9 s)) 4 x))) = eL cI cZ cW cO X a n nw ns (up2 σ 9 s x) η T := by
  refine eL_eq (by decide) (by decide) ?_ (fun c i hc hc0 h => ?_)
  · show (Sum.inl (cI, 5, .inl (ro5 (up2 σ 9 s x 0 s) (up2 σ 9 s x 1 s) (up2 σ 9 s x 2 s) (up2 σ 9 s x 8 s) (up2 σ 9 s x 9 s))) : va_E) = _
    rw [up2_in', up2_r (r' := 0) (by decide), up2_r (r' := 1) (by decide), up2_r (r' := 2) (by decide), up2_r (r' := 8) (by decide)]
    congr 4
    funext j
    unfold upd
    by_cases q : j = 4
    · subst q; rfl
    · rw [if_neg q]
      match j, q with
      | 0, _ => rfl
      | 1, _ => rfl
      | 2, _ => rfl
      | 3, q => first | rfl | exact absurd rfl q
      | 4, q => first | rfl | exact absurd rfl q
      | j + 5, _ => rfl
  · rcases (show c = 1 ∨ c = 2 ∨ c = 3 ∨ c = 4 by omega) with rfl | rfl | rfl | rfl
    · exact eL_fix (up2_r (by decide)) (up2_r (by decide)) (up2_r (by decide)) (up2_r (by decide)) rfl i
    · exact eL_rte (congrFun (up2_r (by decide)) _) (congrFun (up2_r (by decide)) _) (congrFun (up2_r (by decide)) _) (congrFun (up2_r (by decide)) _) (up2_o (fun z => h ⟨rfl, z⟩))
    · exact eL_wkr (congrFun (up2_r (by decide)) _) (congrFun (up2_r (by decide)) _) (congrFun (up2_r (by decide)) _) (congrFun (up2_r (by decide)) _) (congrFun (up2_r (by decide)) _) (congrFun (up2_r (by decide)) _) (congrFun (up2_r (by decide)) _) (congrFun (up2_r (by decide)) _)
    · exact eL_kno (fun j _ => congrFun (up2_r (by decide)) _)
theorem stS_7 {i0 : Nat} {x : Int32} : eup (eL cI cZ cW cO X a n nw ns σ η T) 1 2 (.inl (cI, 2, .inl (upd (σ 7) i0 x))) = eL cI cZ cW cO X a n nw ns (up2 σ 7 i0 x) η T := by
  refine eL_eq (by decide) (by decide) ?_ (fun c i hc hc0 h => ?_)
  · show (Sum.inl (cI, 2, .inl (up2 σ 7 i0 x 7)) : va_E) = _
    rw [up2_self]
  · rcases (show c = 1 ∨ c = 2 ∨ c = 3 ∨ c = 4 by omega) with rfl | rfl | rfl | rfl
    · show eS1 cI cZ cW cO a n nw ns (up2 σ 7 i0 x 3) (up2 σ 7 i0 x 6) (up2 σ 7 i0 x 7) (up2 σ 7 i0 x 17 0) η i = eS1 cI cZ cW cO a n nw ns (σ 3) (σ 6) (σ 7) (σ 17 0) η i
      rw [up2_r (r' := 3) (by decide), up2_r (r' := 6) (by decide), up2_r (r' := 17) (by decide)]
      have h : i ≠ 2 := fun z => h ⟨rfl, z⟩
      match i, h with
      | 0, _ => rfl
      | 1, _ => rfl
      | 2, h => first | rfl | exact absurd rfl h
      | 3, h => first | rfl | exact absurd rfl h
      | 4, _ => rfl
      | 5, h => first | rfl | exact absurd rfl h
      | 6, _ => rfl
      | 7, _ => rfl
      | 8, _ => rfl
      | 9, _ => rfl
      | i + 10, _ => rfl
    · exact eL_rte (congrFun (up2_r (by decide)) _) (congrFun (up2_r (by decide)) _) (congrFun (up2_r (by decide)) _) (congrFun (up2_r (by decide)) _) (congrFun (up2_r (by decide)) _)
    · exact eL_wkr (congrFun (up2_r (by decide)) _) (congrFun (up2_r (by decide)) _) (congrFun (up2_r (by decide)) _) (congrFun (up2_r (by decide)) _) (congrFun (up2_r (by decide)) _) (congrFun (up2_r (by decide)) _) (congrFun (up2_r (by decide)) _) (congrFun (up2_r (by decide)) _)
    · exact eL_kno (fun j _ => congrFun (up2_r (by decide)) _)
theorem stS_3 {i0 : Nat} {x : Int32} : eup (eL cI cZ cW cO X a n nw ns σ η T) 1 3 (.inl (cI, 10, .inl (upd (σ 3) i0 x))) = eL cI cZ cW cO X a n nw ns (up2 σ 3 i0 x) η T := by
  refine eL_eq (by decide) (by decide) ?_ (fun c i hc hc0 h => ?_)
  · show (Sum.inl (cI, 10, .inl (up2 σ 3 i0 x 3)) : va_E) = _
    rw [up2_self]
  · rcases (show c = 1 ∨ c = 2 ∨ c = 3 ∨ c = 4 by omega) with rfl | rfl | rfl | rfl
    · show eS1 cI cZ cW cO a n nw ns (up2 σ 3 i0 x 3) (up2 σ 3 i0 x 6) (up2 σ 3 i0 x 7) (up2 σ 3 i0 x 17 0) η i = eS1 cI cZ cW cO a n nw ns (σ 3) (σ 6) (σ 7) (σ 17 0) η i
      rw [up2_r (r' := 6) (by decide), up2_r (r' := 7) (by decide), up2_r (r' := 17) (by decide)]
      have h : i ≠ 3 := fun z => h ⟨rfl, z⟩
      match i, h with
      | 0, _ => rfl
      | 1, _ => rfl
      | 2, h => first | rfl | exact absurd rfl h
      | 3, h => first | rfl | exact absurd rfl h
      | 4, _ => rfl
      | 5, h => first | rfl | exact absurd rfl h
      | 6, _ => rfl
      | 7, _ => rfl
      | 8, _ => rfl
      | 9, _ => rfl
      | i + 10, _ => rfl
    · exact eL_rte (congrFun (up2_r (by decide)) _) (congrFun (up2_r (by decide)) _) (congrFun (up2_r (by decide)) _) (congrFun (up2_r (by decide)) _) (congrFun (up2_r (by decide)) _)
    · exact eL_wkr (congrFun (up2_r (by decide)) _) (congrFun (up2_r (by decide)) _) (congrFun (up2_r (by decide)) _) (congrFun (up2_r (by decide)) _) (congrFun (up2_r (by decide)) _) (congrFun (up2_r (by decide)) _) (congrFun (up2_r (by decide)) _) (congrFun (up2_r (by decide)) _)
    · exact eL_kno (fun j _ => congrFun (up2_r (by decide)) _)
theorem stS_6 {i0 : Nat} {x : Int32} : eup (eL cI cZ cW cO X a n nw ns σ η T) 1 5 (.inl (cI, ns, .inl (upd (σ 6) i0 x))) = eL cI cZ cW cO X a n nw ns (up2 σ 6 i0 x) η T := by
  refine eL_eq (by decide) (by decide) ?_ (fun c i hc hc0 h => ?_)
  · show (Sum.inl (cI, ns, .inl (up2 σ 6 i0 x 6)) : va_E) = _
    rw [up2_self]
  · rcases (show c = 1 ∨ c = 2 ∨ c = 3 ∨ c = 4 by omega) with rfl | rfl | rfl | rfl
    · show eS1 cI cZ cW cO a n nw ns (up2 σ 6 i0 x 3) (up2 σ 6 i0 x 6) (up2 σ 6 i0 x 7) (up2 σ 6 i0 x 17 0) η i = eS1 cI cZ cW cO a n nw ns (σ 3) (σ 6) (σ 7) (σ 17 0) η i
      rw [up2_r (r' := 3) (by decide), up2_r (r' := 7) (by decide), up2_r (r' := 17) (by decide)]
      have h : i ≠ 5 := fun z => h ⟨rfl, z⟩
      match i, h with
      | 0, _ => rfl
      | 1, _ => rfl
      | 2, h => first | rfl | exact absurd rfl h
      | 3, h => first | rfl | exact absurd rfl h
      | 4, _ => rfl
      | 5, h => first | rfl | exact absurd rfl h
      | 6, _ => rfl
      | 7, _ => rfl
      | 8, _ => rfl
      | 9, _ => rfl
      | i + 10, _ => rfl
    · exact eL_rte (congrFun (up2_r (by decide)) _) (congrFun (up2_r (by decide)) _) (congrFun (up2_r (by decide)) _) (congrFun (up2_r (by decide)) _) (congrFun (up2_r (by decide)) _)
    · exact eL_wkr (congrFun (up2_r (by decide)) _) (congrFun (up2_r (by decide)) _) (congrFun (up2_r (by decide)) _) (congrFun (up2_r (by decide)) _) (congrFun (up2_r (by decide)) _) (congrFun (up2_r (by decide)) _) (congrFun (up2_r (by decide)) _) (congrFun (up2_r (by decide)) _)
    · exact eL_kno (fun j _ => congrFun (up2_r (by decide)) _)
theorem stS_17 {x : Int32} : eup (eL cI cZ cW cO X a n nw ns σ η T) 1 0 (.inr (3, [.ref (a 1 1), .ref (a 1 2), .ref (a 1 3), .ref (a 1 4), .ref (a 1 5), .int x, .ref (a 1 6), .ref (a 1 7), .ref (a 1 8), .ref (a 1 9)])) = eL cI cZ cW cO X a n nw ns (up2 σ 17 0 x) η T := by
  refine eL_eq (by decide) (by decide) ?_ (fun c i hc hc0 h => ?_)
  · show (Sum.inr (3, [.ref (a 1 1), .ref (a 1 2), .ref (a 1 3), .ref (a 1 4), .ref (a 1 5), .int (up2 σ 17 0 x 17 0), .ref (a 1 6), .ref (a 1 7), .ref (a 1 8), .ref (a 1 9)]) : va_E) = _
    rw [up2_in']
  · rcases (show c = 1 ∨ c = 2 ∨ c = 3 ∨ c = 4 by omega) with rfl | rfl | rfl | rfl
    · show eS1 cI cZ cW cO a n nw ns (up2 σ 17 0 x 3) (up2 σ 17 0 x 6) (up2 σ 17 0 x 7) (up2 σ 17 0 x 17 0) η i = eS1 cI cZ cW cO a n nw ns (σ 3) (σ 6) (σ 7) (σ 17 0) η i
      rw [up2_r (r' := 3) (by decide), up2_r (r' := 6) (by decide), up2_r (r' := 7) (by decide)]
      have h : i ≠ 0 := fun z => h ⟨rfl, z⟩
      match i, h with
      | 0, h => exact absurd rfl h
      | 1, _ => rfl
      | 2, _ => rfl
      | 3, _ => rfl
      | 4, _ => rfl
      | 5, _ => rfl
      | 6, _ => rfl
      | 7, _ => rfl
      | 8, _ => rfl
      | 9, _ => rfl
      | i + 10, _ => rfl
    · exact eL_rte (congrFun (up2_r (by decide)) _) (congrFun (up2_r (by decide)) _) (congrFun (up2_r (by decide)) _) (congrFun (up2_r (by decide)) _) (congrFun (up2_r (by decide)) _)
    · exact eL_wkr (congrFun (up2_r (by decide)) _) (congrFun (up2_r (by decide)) _) (congrFun (up2_r (by decide)) _) (congrFun (up2_r (by decide)) _) (congrFun (up2_r (by decide)) _) (congrFun (up2_r (by decide)) _) (congrFun (up2_r (by decide)) _) (congrFun (up2_r (by decide)) _)
    · exact eL_kno (fun j _ => congrFun (up2_r (by decide)) _)
theorem stE_1 {i0 : Nat} {x : Int32} : eup (eL cI cZ cW cO X a n nw ns σ η T) 1 6 (.inl (cZ, 20, .inl (upd (η 1) i0 x))) = eL cI cZ cW cO X a n nw ns σ (up2 η 1 i0 x) T := by
  refine eL_eq (by decide) (by decide) ?_ (fun c i hc hc0 h => ?_)
  · show (Sum.inl (cZ, 20, .inl (up2 η 1 i0 x 1)) : va_E) = _
    rw [up2_self]
  · rcases (show c = 1 ∨ c = 2 ∨ c = 3 ∨ c = 4 by omega) with rfl | rfl | rfl | rfl
    · show eS1 cI cZ cW cO a n nw ns (σ 3) (σ 6) (σ 7) (σ 17 0) (up2 η 1 i0 x) i = eS1 cI cZ cW cO a n nw ns (σ 3) (σ 6) (σ 7) (σ 17 0) η i
      have h : i ≠ 6 := fun z => h ⟨rfl, z⟩
      match i, h with
      | 0, _ => rfl
      | 1, _ => rfl
      | 2, _ => rfl
      | 3, _ => rfl
      | 4, _ => rfl
      | 5, _ => rfl
      | 6, h => exact absurd rfl h
      | 7, _ => show (Sum.inl (cI, 120, .inl (up2 η 1 i0 x 0)) : va_E) = Sum.inl (cI, 120, .inl (η 0)); rw [up2_r (by decide)]
      | 8, _ => show (Sum.inl (cI, 10, .inl (up2 η 1 i0 x 2)) : va_E) = Sum.inl (cI, 10, .inl (η 2)); rw [up2_r (by decide)]
      | 9, _ => show (Sum.inl (cI, 20, .inl (up2 η 1 i0 x 3)) : va_E) = Sum.inl (cI, 20, .inl (η 3)); rw [up2_r (by decide)]
      | i + 10, _ => rfl
    · rfl
    · rfl
    · rfl
theorem stE_0 {i0 : Nat} {x : Int32} : eup (eL cI cZ cW cO X a n nw ns σ η T) 1 7 (.inl (cI, 120, .inl (upd (η 0) i0 x))) = eL cI cZ cW cO X a n nw ns σ (up2 η 0 i0 x) T := by
  refine eL_eq (by decide) (by decide) ?_ (fun c i hc hc0 h => ?_)
  · show (Sum.inl (cI, 120, .inl (up2 η 0 i0 x 0)) : va_E) = _
    rw [up2_self]
  · rcases (show c = 1 ∨ c = 2 ∨ c = 3 ∨ c = 4 by omega) with rfl | rfl | rfl | rfl
    · show eS1 cI cZ cW cO a n nw ns (σ 3) (σ 6) (σ 7) (σ 17 0) (up2 η 0 i0 x) i = eS1 cI cZ cW cO a n nw ns (σ 3) (σ 6) (σ 7) (σ 17 0) η i
      have h : i ≠ 7 := fun z => h ⟨rfl, z⟩
      match i, h with
      | 0, _ => rfl
      | 1, _ => rfl
      | 2, _ => rfl
      | 3, _ => rfl
      | 4, _ => rfl
      | 5, _ => rfl
      | 6, _ => show (Sum.inl (cZ, 20, .inl (up2 η 0 i0 x 1)) : va_E) = Sum.inl (cZ, 20, .inl (η 1)); rw [up2_r (by decide)]
      | 7, h => exact absurd rfl h
      | 8, _ => show (Sum.inl (cI, 10, .inl (up2 η 0 i0 x 2)) : va_E) = Sum.inl (cI, 10, .inl (η 2)); rw [up2_r (by decide)]
      | 9, _ => show (Sum.inl (cI, 20, .inl (up2 η 0 i0 x 3)) : va_E) = Sum.inl (cI, 20, .inl (η 3)); rw [up2_r (by decide)]
      | i + 10, _ => rfl
    · rfl
    · rfl
    · rfl
theorem stE_2 {i0 : Nat} {x : Int32} : eup (eL cI cZ cW cO X a n nw ns σ η T) 1 8 (.inl (cI, 10, .inl (upd (η 2) i0 x))) = eL cI cZ cW cO X a n nw ns σ (up2 η 2 i0 x) T := by
  refine eL_eq (by decide) (by decide) ?_ (fun c i hc hc0 h => ?_)
  · show (Sum.inl (cI, 10, .inl (up2 η 2 i0 x 2)) : va_E) = _
    rw [up2_self]
  · rcases (show c = 1 ∨ c = 2 ∨ c = 3 ∨ c = 4 by omega) with rfl | rfl | rfl | rfl
    · show eS1 cI cZ cW cO a n nw ns (σ 3) (σ 6) (σ 7) (σ 17 0) (up2 η 2 i0 x) i = eS1 cI cZ cW cO a n nw ns (σ 3) (σ 6) (σ 7) (σ 17 0) η i
      have h : i ≠ 8 := fun z => h ⟨rfl, z⟩
      match i, h with
      | 0, _ => rfl
      | 1, _ => rfl
      | 2, _ => rfl
      | 3, _ => rfl
      | 4, _ => rfl
      | 5, _ => rfl
      | 6, _ => show (Sum.inl (cZ, 20, .inl (up2 η 2 i0 x 1)) : va_E) = Sum.inl (cZ, 20, .inl (η 1)); rw [up2_r (by decide)]
      | 7, _ => show (Sum.inl (cI, 120, .inl (up2 η 2 i0 x 0)) : va_E) = Sum.inl (cI, 120, .inl (η 0)); rw [up2_r (by decide)]
      | 8, h => exact absurd rfl h
      | 9, _ => show (Sum.inl (cI, 20, .inl (up2 η 2 i0 x 3)) : va_E) = Sum.inl (cI, 20, .inl (η 3)); rw [up2_r (by decide)]
      | i + 10, _ => rfl
    · rfl
    · rfl
    · rfl
theorem stE_3 {i0 : Nat} {x : Int32} : eup (eL cI cZ cW cO X a n nw ns σ η T) 1 9 (.inl (cI, 20, .inl (upd (η 3) i0 x))) = eL cI cZ cW cO X a n nw ns σ (up2 η 3 i0 x) T := by
  refine eL_eq (by decide) (by decide) ?_ (fun c i hc hc0 h => ?_)
  · show (Sum.inl (cI, 20, .inl (up2 η 3 i0 x 3)) : va_E) = _
    rw [up2_self]
  · rcases (show c = 1 ∨ c = 2 ∨ c = 3 ∨ c = 4 by omega) with rfl | rfl | rfl | rfl
    · show eS1 cI cZ cW cO a n nw ns (σ 3) (σ 6) (σ 7) (σ 17 0) (up2 η 3 i0 x) i = eS1 cI cZ cW cO a n nw ns (σ 3) (σ 6) (σ 7) (σ 17 0) η i
      have h : i ≠ 9 := fun z => h ⟨rfl, z⟩
      match i, h with
      | 0, _ => rfl
      | 1, _ => rfl
      | 2, _ => rfl
      | 3, _ => rfl
      | 4, _ => rfl
      | 5, _ => rfl
      | 6, _ => show (Sum.inl (cZ, 20, .inl (up2 η 3 i0 x 1)) : va_E) = Sum.inl (cZ, 20, .inl (η 1)); rw [up2_r (by decide)]
      | 7, _ => show (Sum.inl (cI, 120, .inl (up2 η 3 i0 x 0)) : va_E) = Sum.inl (cI, 120, .inl (η 0)); rw [up2_r (by decide)]
      | 8, _ => show (Sum.inl (cI, 10, .inl (up2 η 3 i0 x 2)) : va_E) = Sum.inl (cI, 10, .inl (η 2)); rw [up2_r (by decide)]
      | 9, h => exact absurd rfl h
      | i + 10, _ => rfl
    · rfl
    · rfl
    · rfl
end EL
section EL2
variable {D : va_G} {H : Heap} {cI cZ cW cO : ClassId} {X : Nat → va_E} {a : Ka} {n nw ns : Nat} {σ σ' η η' : Sg} {T : Ke} {M : Km}
/-- rows that the world doesn't see may differ -/
theorem kP.re (hM1 : km M 1 ≤ 10) (hP : kP D M a (eL cI cZ cW cO X a n nw ns σ η T) H) (h3 : ∀ i, i < 10 → σ' 3 i = σ 3 i) (h6 : ∀ i, i < ns → σ' 6 i = σ 6 i) (h7 : ∀ i, i < 2 → σ' 7 i = σ 7 i) (h17 : σ' 17 0 = σ 17 0)
    (h2 : ∀ s, s < km M 2 → σ' 0 s = σ 0 s ∧ σ' 1 s = σ 1 s ∧ σ' 2 s = σ 2 s ∧ σ' 8 s = σ 8 s ∧ σ' 9 s = σ 9 s)
    (hw : ∀ k, k < km M 3 → σ' 4 k = σ 4 k ∧ σ' 10 k = σ 10 k ∧ σ' 5 k = σ 5 k ∧ σ' 11 k = σ 11 k ∧ σ' 12 k = σ 12 k ∧ σ' 13 k = σ 13 k ∧ σ' 14 k = σ 14 k ∧ σ' 15 k = σ 15 k)
    (hk : ∀ k j, k < km M 4 → j < 6 → σ' 16 (6 * k + j) = σ 16 (6 * k + j)) (e0 : ∀ i, i < 120 → η' 0 i = η 0 i) (e1 : ∀ i, i < 20 → η' 1 i = η 1 i) (e2 : ∀ i, i < 10 → η' 2 i = η 2 i) (e3 : ∀ i, i < 20 → η' 3 i = η 3 i) : kP D M a (eL cI cZ cW cO X a n nw ns σ' η' T) H := by
  have row : ∀ {b : Nat} {cA : ClassId} {N : Nat} {f g : Nat → Int32}, (∀ j, j < N → f j = g j) → va_at D vwCl (b, .inl (cA, N, .inl g)) H → va_at D vwCl (b, .inl (cA, N, .inl f)) H := by
    intro b cA N f g hfg h
    have h1 : H[b]? = some (vp_cell cA (N, .inl g)) := h
    show H[b]? = some (vp_cell cA (N, .inl f))
    rw [h1, vp_cell_ext hfg]
  intro c i hi
  have h0 := hP c i hi
  match c, hi, h0 with
  | 0, hi, h0 => exact h0
  | c + 5, hi, h0 => exact h0
  | 2, hi, h0 =>
    obtain ⟨g0, g1, g2, g8, g9⟩ := h2 i hi
    rw [eL_rte g0 g1 g2 g8 g9]
    exact h0
  | 3, hi, h0 =>
    obtain ⟨g4, g10, g5, g11, g12, g13, g14, g15⟩ := hw i hi
    rw [eL_wkr g4 g10 g5 g11 g12 g13 g14 g15]
    exact h0
  | 4, hi, h0 =>
    rw [eL_kno (hk i · hi)]
    exact h0
  | 1, hi, h0 =>
    match i, hi, h0 with
    | 0, hi, h0 =>
      show va_at D vwCl (a 1 0, eS1 cI cZ cW cO a n nw ns (σ' 3) (σ' 6) (σ' 7) (σ' 17 0) η' 0) H
      rw [h17]
      exact h0
    | 1, hi, h0 => exact h0
    | 2, hi, h0 => exact row h7 h0
    | 3, hi, h0 => exact row h3 h0
    | 4, hi, h0 => exact h0
    | 5, hi, h0 => exact row h6 h0
    | 6, hi, h0 => exact row e1 h0
    | 7, hi, h0 => exact row e0 h0
    | 8, hi, h0 => exact row e2 h0
    | 9, hi, h0 => exact row e3 h0
    | i + 10, hi, h0 => exact absurd hi (by omega)
end EL2
