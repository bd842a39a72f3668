/-! small facts that the law's walk asks for -/
def knG (σ : Sg) : Nat → Nat → Int32 := fun w k => σ 16 (6 * w + k)
def mnK (τ : Sg) (w : Nat) : Nat → Bool := fun k => knS τ k w
theorem okP_X {A : Nat → Prop} {cI cZ : ClassId} {b : Nat → Nat} {n pl nw ns : Nat} {σ : Sg} {u : S3} (hD : va_D A (wX cI cZ b n pl nw ns σ u.1 u.2.1 u.2.2)) : okP A b 41 := by
  have ex : ∀ i, i < 41 → (wX cI cZ b n pl nw ns σ u.1 u.2.1 u.2.2)[i]? = some (b i, xC cI cZ b n pl nw ns σ u i) := fun i hi => by
    have h0 : ∃ q, (wX cI cZ b n pl nw ns σ u.1 u.2.1 u.2.2)[i]? = some q := ⟨_, List.getElem?_eq_getElem (by rw [wX_len]; exact hi)⟩
    obtain ⟨q, hq⟩ := h0
    rw [hq, (xC_at hq).2]
  exact ⟨fun i j hi hj e => hD.1 i j _ _ (ex i hi) (ex j hj) e, fun i hi => hD.2 i _ (ex i hi)⟩
section LPU
variable {n pl nw ns t w k : Nat} {σ τ : Sg}
theorem mn_t {A : Nat} (h : 0 < nN (τ 16 (6 * w + k))) (e : τ 16 (6 * w + k) = nI (nN (τ 16 (6 * w + k)))) (h2 : nN (τ 16 (6 * w + k)) ≤ 99) : nI (A + cnt (mnK τ w) k + 1) = nI (A + cnt (mnK τ w) (k + 1)) := by
  have : mnK τ w k = true := by
    unfold mnK knS
    rw [decide_eq_true]
    intro z
    rw [z] at h
    exact absurd h (by decide)
  simp only [cnt, this, if_true]
  rfl
theorem mn_f {A : Nat} (h : nN (τ 16 (6 * w + k)) = 0) (e : τ 16 (6 * w + k) = nI (nN (τ 16 (6 * w + k)))) : nI (A + cnt (mnK τ w) k + 0) = nI (A + cnt (mnK τ w) (k + 1)) := by
  have : mnK τ w k = false := by
    unfold mnK knS
    rw [decide_eq_false]
    intro z
    rw [h] at e
    exact z e
  simp [cnt, this]
theorem nbr_f {o : Nat} (h : nbr σ w o = true) : ¬ o = w ∧ σ 12 o = nI 1 ∧ ¬ nI 1 < σ 13 w - σ 13 o ∧ ¬ nI 1 < σ 13 o - σ 13 w := by
  unfold nbr at h
  simp only [Bool.and_eq_true] at h
  obtain ⟨h1, -, h3, h4, h5⟩ := h
  have h1 := of_decide_eq_true h1
  exact ⟨fun z => h1 z.symm, of_decide_eq_true h3, of_decide_eq_true h4, of_decide_eq_true h5⟩
theorem abs_2 {a b : Int32} (h1 : ¬ nI 1 < b - a) (h2 : ¬ nI 1 < a - b) : ¬ nI 2 ≤ (if 0 ≤ a - b then a - b else 0 - (a - b)) := by
  split
  · rw [lt2_n]; exact h2
  · rw [show 0 - (a - b) = b - a from by rw [Int32.zero_sub, Int32.neg_sub], lt2_n]; exact h1
theorem hm_sum (h : LV n pl nw ns t σ) : ∀ m, hm σ m (nI 0) + hm σ m (nI 1) + hm σ m (nI 2) = m
  | 0 => rfl
  | m + 1 => by
    have ih := hm_sum h m
    unfold hm at ih ⊢
    simp only [cnt]
    have : (if hmS σ (nI 0) m = true then 1 else 0) + (if hmS σ (nI 1) m = true then 1 else 0) + (if hmS σ (nI 2) m = true then 1 else 0) = 1 := by
      unfold hmS
      rcases h.2.2.2.1 m with e | e | e <;> rw [e] <;> decide
    omega
theorem kHome_0 {who : Nat} (h : who < nw) (hn : nw ≤ 1000) : kHome nw (nI who) = 0 := if_pos (has_of (by omega) h)
theorem kFor_0 {j : Nat} (hn : 0 < n) (hj : j ≤ 2) : kFor n (nI 1) (nI j) = 0 := by
  unfold kFor
  rw [if_pos (by decide), if_pos (isI_of (by decide) (Nat.zero_le _) hj), if_neg (by omega)]
theorem kPass_0 (hn : 0 < n) : kPass n (nI 1) = 0 := by
  unfold kPass
  rw [if_pos (by decide), if_neg (by omega)]
theorem on_2 (h : AT pl nw τ) {z : Nat} (hz : z < pl) : cnt (waS τ (nI z)) nw ≤ 2 := h z hz
theorem s_1401 {d : Nat → Nat} {s : Nat} (hd : ∀ s, s < n → τ 8 s = σ 8 s + nI (d s)) (h0 : 0 < s) (hs : s < n) (h : on τ nw s + d s = on σ nw s + d (s - 1)) : nI (on τ nw s) = nI (on σ nw s) + τ 8 (s - 1) - σ 8 (s - 1) - nI (d s) := by
  rw [hd (s - 1) (by omega), ← Int32.add_assoc, Int32.add_assoc (nI (on σ nw s)), Int32.add_comm (σ 8 (s - 1)), ← Int32.add_assoc, Int32.add_sub_cancel, nI_add, ← h, ← nI_add, Int32.add_sub_cancel]
end LPU
theorem kL_oth {cI cZ cW cO : ClassId} {X : Nat → va_E} {a : Ka} {n nw ns : Nat} {σ σ' η η' : Sg} {T : Ke} {tm : List Nat} {c i : Nat} (h : i < km (41 :: 10 :: n :: nw :: nw :: tm) c) (h2 : ¬ i < km (MS n nw) c) : eL cI cZ cW cO X a n nw ns σ' η' T c i = eL cI cZ cW cO X a n nw ns σ η T c i := by
  match c, h, h2 with
  | 0, _, _ => rfl
  | 1, h, h2 => exact absurd h h2
  | 2, h, h2 => exact absurd h h2
  | 3, h, h2 => exact absurd h h2
  | 4, h, h2 => exact absurd h h2
  | c + 5, _, _ => rfl
theorem mnW_le {τ : Sg} {ns w : Nat} : mnW τ ns w ≤ ns := cnt_le _ _
theorem mn_le {τ : Sg} {ns : Nat} (h : ns ≤ 6) : ∀ w, sumN (mnW τ ns) w ≤ 6 * w
  | 0 => Nat.le_refl _
  | w + 1 => by
    have h1 := mn_le (τ := τ) h w
    have h2 := mnW_le (τ := τ) (ns := ns) (w := w)
    show sumN (mnW τ ns) w + mnW τ ns w ≤ _
    omega
def LA (s : State) : Nat → Prop := fun q => s.heap.size ≤ q

/-- the room of the statement, whatever its numbers are, holds what the walk of the law asks -/
theorem rmC {k : Nat} (h : k ≤ 100000) : k ≤ room_1.cells := Nat.le_trans h (by decide)
theorem rmS {k : Nat} (h : k ≤ 1000000) : k ≤ room_1.slots := Nat.le_trans h (by decide)
