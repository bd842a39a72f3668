/-! THE ROUTE, THE WALKERS' PLACES, and what the model's questions say of them -/
/-- the route of n stretches and pl places -/
def RF (n pl : Nat) (σ : Sg) : Prop :=
  (∀ s, s < n → σ 0 s = nI (nN (σ 0 s)) ∧ σ 2 s = nI (nN (σ 2 s)) ∧ 1 ≤ nN (σ 0 s) ∧ nN (σ 0 s) ≤ 20 ∧ nN (σ 2 s) + nN (σ 0 s) ≤ pl) ∧
  (0 < n → nN (σ 2 0) = 0) ∧ (∀ s, s + 1 < n → nN (σ 2 (s + 1)) = nN (σ 2 s) + nN (σ 0 s)) ∧ (0 < n → pl = nN (σ 2 (n - 1)) + nN (σ 0 (n - 1))) ∧ (n = 0 → pl = 0)
/-- who walks is at a place of the route -/
def PB (pl nw : Nat) (σ : Sg) : Prop := ∀ w, w < nw → σ 12 w = nI 1 → ∃ j, j < pl ∧ σ 13 w = nI j
def soS (σ : Sg) (z : Int32) (s : Nat) : Bool := decide (z < σ 2 s + σ 0 s)
/-- the stretch of a place: the first one that ends behind it -/
def so (σ : Sg) (n : Nat) (z : Int32) : Option Nat := fnd (soS σ z) n
def plv (σ : Sg) (n : Nat) : Int32 := if n = 0 then nI 0 else σ 2 (n - 1) + σ 0 (n - 1)
theorem RF_plv {n pl : Nat} {σ : Sg} (h : RF n pl σ) : plv σ n = nI pl := by
  unfold plv
  obtain ⟨h1, h2, h3, h4, h5⟩ := h
  split
  · rename_i hn
    rw [h5 hn]
  · rename_i hn
    have hn : 0 < n := by omega
    obtain ⟨a, b, -⟩ := h1 (n - 1) (by omega)
    rw [a, b, nI_add, h4 hn]
theorem RF_end {n pl : Nat} {σ : Sg} (h : RF n pl σ) {s : Nat} (hs : s < n) : σ 2 s + σ 0 s = nI (nN (σ 2 s) + nN (σ 0 s)) := by
  obtain ⟨a, b, -⟩ := h.1 s hs
  conv => lhs; rw [a, b, nI_add]
theorem RF_soS {n pl : Nat} {σ : Sg} (h : RF n pl σ) (hpl : pl ≤ 200) {s j : Nat} (hs : s < n) (hj : j < 2 ^ 30) : soS σ (nI j) s = decide (j < nN (σ 2 s) + nN (σ 0 s)) := by
  unfold soS
  rw [RF_end h hs]
  have h9 := (h.1 s hs).2.2.2.2
  by_cases q : j < nN (σ 2 s) + nN (σ 0 s)
  · rw [decide_eq_true q, decide_eq_true ((nI_ltI (by omega) (by omega)).mpr q)]
  · rw [decide_eq_false q, decide_eq_false (fun z => q ((nI_ltI (by omega) (by omega)).mp z))]
/-- a place of the route lies on one stretch -/
theorem RF_on {n pl : Nat} {σ : Sg} (h : RF n pl σ) (hpl : pl ≤ 200) {j : Nat} (hj : j < pl) : ∃ s, s < n ∧ so σ n (nI j) = some s ∧ nN (σ 2 s) ≤ j ∧ j < nN (σ 2 s) + nN (σ 0 s) := by
  obtain ⟨h1, h2, h3, h4, h5⟩ := id h
  have hn : 0 < n := by
    rcases Nat.eq_zero_or_pos n with q | q
    · have := h5 q; omega
    · exact q
  have key : ∀ m, m ≤ n → (∀ s, s < m → nN (σ 2 s) + nN (σ 0 s) ≤ j) ∧ fnd (soS σ (nI j)) m = none ∨ ∃ s, s < m ∧ fnd (soS σ (nI j)) m = some s ∧ nN (σ 2 s) ≤ j ∧ j < nN (σ 2 s) + nN (σ 0 s) := by
    intro m
    induction m with
    | zero => intro _; exact Or.inl ⟨fun s hs => absurd hs (Nat.not_lt_zero _), rfl⟩
    | succ m ih =>
      intro hm
      rcases ih (by omega) with ⟨a, b⟩ | ⟨s, a, b, c, d⟩
      · by_cases q : j < nN (σ 2 m) + nN (σ 0 m)
        · refine Or.inr ⟨m, Nat.lt_succ_self m, fnd_s (Nat.lt_succ_self m) b (by rw [RF_soS h hpl (by omega) (by omega)]; exact decide_eq_true q), ?_, q⟩
          rcases Nat.eq_zero_or_pos m with z | z
          · rw [z, h2 hn]; exact Nat.zero_le _
          · have e1 := h3 (m - 1) (by omega)
            have e2 := a (m - 1) (by omega)
            rw [show m - 1 + 1 = m by omega] at e1
            omega
        · refine Or.inl ⟨fun s hs => ?_, fnd_n b (by rw [RF_soS h hpl (by omega) (by omega)]; exact decide_eq_false q)⟩
          rcases Nat.lt_or_ge s m with z | z
          · exact a s z
          · have : s = m := by omega
            subst this; omega
      · refine Or.inr ⟨s, by omega, ?_, c, d⟩
        simp only [fnd, b]
  rcases key n (Nat.le_refl n) with ⟨a, b⟩ | ⟨s, a, b, c, d⟩
  · have := a (n - 1) (by omega)
    have := h4 hn
    omega
  · exact ⟨s, a, b, c, d⟩
theorem RF_mono {n pl : Nat} {σ : Sg} (h : RF n pl σ) : ∀ {s t : Nat}, t < n → s < t → nN (σ 2 s) + nN (σ 0 s) ≤ nN (σ 2 t) := by
  intro s t
  induction t with
  | zero => intro _ hs; exact absurd hs (Nat.not_lt_zero _)
  | succ t ih =>
    intro ht hs
    have e1 := h.2.2.1 t ht
    rcases Nat.lt_or_ge s t with q | q
    · have := ih (by omega) q; omega
    · have : s = t := by omega
      subst this; omega
theorem RF_uniq {n pl : Nat} {σ : Sg} (h : RF n pl σ) {j s t : Nat} (hs : s < n) (ht : t < n) (h1 : nN (σ 2 s) ≤ j) (h2 : j < nN (σ 2 s) + nN (σ 0 s)) (h3 : nN (σ 2 t) ≤ j) (h4 : j < nN (σ 2 t) + nN (σ 0 t)) : s = t := by
  rcases Nat.lt_trichotomy s t with q | q | q
  · have := RF_mono h ht q; omega
  · exact q
  · have := RF_mono h hs q; omega
theorem has_isIn {n : Nat} (hn : n ≤ 1000) (z : Int32) : (decide (¬ z < nI 0) && decide (¬ nI n - nI 1 < z)) = has n z := by
  unfold has
  congr 1
  refine decide_eq_decide.mpr (not_congr ?_)
  by_cases hz : z < 0
  · have h0 : ¬ nI n ≤ z := fun q => nI_pos (n := n) (by omega) (Int32.lt_of_le_of_lt q hz)
    rcases Nat.eq_zero_or_pos n with q | q
    · subst q
      have e : nI 0 - nI 1 = -1 := by decide
      rw [e]
      refine ⟨fun h => ?_, fun h => absurd h h0⟩
      exfalso
      rw [Int32.lt_iff_toInt_lt] at h hz
      have e1 : ((-1 : Int32)).toInt = -1 := by decide
      have e2 : ((0 : Int32)).toInt = 0 := by decide
      omega
    · rw [pk_sub q]
      refine ⟨fun h => ?_, fun h => absurd h h0⟩
      exact absurd (Int32.lt_trans h hz) (nI_pos (by omega))
  · obtain ⟨j, hj, rfl⟩ := nI_of hz
    rcases Nat.eq_zero_or_pos n with q | q
    · subst q
      refine ⟨fun _ => nI_le (Nat.zero_le _) hj, fun _ => ?_⟩
      rw [Int32.lt_iff_toInt_lt, nI_toInt hj]
      have e1 : (nI 0 - nI 1).toInt = -1 := by decide
      omega
    · rw [pk_sub q, nI_ltI (by omega) hj, nI_leI (by omega) hj]
      omega
theorem absle (x y : Int32) : (nI 1 < (if 0 ≤ x - y then x - y else 0 - (x - y))) ↔ (nI 1 < x - y ∨ nI 1 < y - x) := by
  have e1 : (nI 1).toInt = 1 := by decide
  have e0 : ((0 : Int32)).toInt = 0 := by decide
  have hx1 := Int32.le_toInt x
  have hx2 := Int32.toInt_lt x
  have hy1 := Int32.le_toInt y
  have hy2 := Int32.toInt_lt y
  have a1 := Int32.toInt_sub x y
  have a2 := Int32.toInt_sub y x
  have a3 := Int32.toInt_sub 0 (x - y)
  simp only [Int.bmod] at a1 a2 a3
  split
  · rename_i h
    rw [Int32.le_iff_toInt_le, e0] at h
    rw [Int32.lt_iff_toInt_lt, Int32.lt_iff_toInt_lt, e1]
    split at a1 <;> split at a2 <;> omega
  · rename_i h
    rw [Int32.le_iff_toInt_le, e0] at h
    rw [Int32.lt_iff_toInt_lt, Int32.lt_iff_toInt_lt, Int32.lt_iff_toInt_lt, e1]
    rw [e0] at a3
    split at a1 <;> split at a2 <;> split at a3 <;> omega
def absI (x : Int32) : Int32 := if 0 ≤ x then x else 0 - x
theorem nbr_abs (σ : Sg) (i j : Nat) : nbr σ i j = (decide (i ≠ j) && (decide (σ 12 i = nI 1) && (decide (σ 12 j = nI 1) && decide (¬ nI 1 < absI (σ 13 i - σ 13 j))))) := by
  have h := absle (σ 13 i) (σ 13 j)
  unfold nbr
  have : (decide (¬ nI 1 < σ 13 i - σ 13 j) && decide (¬ nI 1 < σ 13 j - σ 13 i)) = decide (¬ nI 1 < absI (σ 13 i - σ 13 j)) := by
    rw [← Bool.decide_and]
    refine decide_eq_decide.mpr ?_
    unfold absI
    rw [h, not_or]
  rw [this]
