/-! the model's songs -/
def louder (σ : Sg) (x : Option Nat) (k : Nat) : Bool := match x with
  | none => true
  | some j => decide (¬ σ 5 k ≤ σ 5 j)
/-- from whom one learns: the loudest neighbour of the first k who knows the song -/
def lfo (σ : Sg) (w sg : Nat) : Nat → Option Nat
  | 0 => none
  | k + 1 => if nbr σ w k = true ∧ ¬ σ 16 (6 * k + sg) ≤ 0 ∧ louder σ (lfo σ w sg k) k = true then some k else lfo σ w sg k
def lrn (σ : Sg) (nw w sg : Nat) : Int32 := match lfo σ w sg nw with
  | none => nI 0
  | some j => if σ 6 sg ≤ σ 5 j + (if σ 11 w = 0 then nI 3 else nI 0) then (if σ 11 w + σ 11 j = nI 2 then rem99 (σ 16 (6 * j + sg)) + nI 1 else σ 16 (6 * j + sg)) else nI 0
theorem lfo_lt {σ : Sg} {w sg : Nat} : ∀ {k j : Nat}, lfo σ w sg k = some j → j < k
  | 0, j, h => by cases h
  | k + 1, j, h => by
    simp only [lfo] at h
    split at h
    · cases h; exact Nat.lt_succ_self _
    · exact Nat.lt_succ_of_lt (lfo_lt h)
section LFO
variable {σ : Sg} {w sg k j : Nat}
theorem lfo_0 (h : nbr σ w k = false) : lfo σ w sg (k + 1) = lfo σ w sg k := if_neg (fun q => by rw [h] at q; exact absurd q.1 (by decide))
theorem lfo_1 (h : σ 16 (6 * k + sg) ≤ 0) : lfo σ w sg (k + 1) = lfo σ w sg k := if_neg (fun q => q.2.1 h)
theorem lfo_n (h : nbr σ w k = true) (h2 : ¬ σ 16 (6 * k + sg) ≤ 0) (h3 : lfo σ w sg k = none) : lfo σ w sg (k + 1) = some k := if_pos ⟨h, h2, by rw [h3]; rfl⟩
theorem lfo_k (h : nbr σ w k = true) (h2 : ¬ σ 16 (6 * k + sg) ≤ 0) (h3 : lfo σ w sg k = some j) (h4 : ¬ σ 5 k ≤ σ 5 j) : lfo σ w sg (k + 1) = some k := if_pos ⟨h, h2, by rw [h3]; exact decide_eq_true h4⟩
theorem lfo_j (h3 : lfo σ w sg k = some j) (h4 : σ 5 k ≤ σ 5 j) : lfo σ w sg (k + 1) = some j := by
  simp only [lfo]
  rw [if_neg (fun q => by rw [h3] at q; exact absurd h4 (of_decide_eq_true q.2.2))]
  exact h3
end LFO
def lv9 (σ : Sg) (nw w s : Nat) : Int32 := if σ 12 w = nI 1 ∧ σ 16 (6 * w + s) = 0 then lrn σ nw w s else nI 0
theorem lv9_0 {σ : Sg} {nw w s : Nat} (h : ¬ σ 12 w = nI 1) : lv9 σ nw w s = nI 0 := if_neg (fun q => h q.1)
theorem lv9_1 {σ : Sg} {nw w s : Nat} (h : ¬ σ 16 (6 * w + s) = 0) : lv9 σ nw w s = nI 0 := if_neg (fun q => h q.2)
theorem lv9_a {σ : Sg} {nw w s : Nat} (h : σ 12 w = nI 1) (h2 : σ 16 (6 * w + s) = 0) : lv9 σ nw w s = lrn σ nw w s := if_pos ⟨h, h2⟩
/-- what is learnt, of the first w walkers and s songs of the next -/
def lnR (σ : Sg) (nw ns w s : Nat) (g : Nat → Int32) : Nat → Int32 := fun i => if (i / 6 < w ∧ i % 6 < ns) ∨ (i / 6 = w ∧ i % 6 < s) then lv9 σ nw (i / 6) (i % 6) else g i
def lnE (σ : Sg) (nw ns : Nat) (η : Sg) (w s : Nat) : Sg := va_up η 0 (lnR σ nw ns w s (η 0))
theorem lnE_0 {σ : Sg} {nw ns : Nat} {η : Sg} : lnE σ nw ns η 0 0 = η := by
  funext j
  unfold lnE va_up
  split
  · rename_i h
    subst h
    funext i
    unfold lnR
    rw [if_neg (by omega)]
  · rfl
theorem lnE_n {σ : Sg} {nw ns : Nat} {η : Sg} {w : Nat} : lnE σ nw ns η w ns = lnE σ nw ns η (w + 1) 0 := by
  unfold lnE
  congr 1
  funext i
  unfold lnR
  by_cases h : (i / 6 < w ∧ i % 6 < ns) ∨ (i / 6 = w ∧ i % 6 < ns)
  · rw [if_pos h, if_pos (by omega)]
  · rw [if_neg h, if_neg (by omega)]
theorem lnE_s {σ : Sg} {nw ns : Nat} {η : Sg} {w s : Nat} {x : Int32} (hs : s < 6) (h : x = lv9 σ nw w s) : up2 (lnE σ nw ns η w s) 0 (6 * w + s) x = lnE σ nw ns η w (s + 1) := by
  subst h
  unfold lnE up2
  funext j
  unfold va_up
  split
  · simp only [if_true]
    funext i
    unfold upd lnR
    by_cases h : i = 6 * w + s
    · subst h
      rw [if_pos rfl, if_pos (by omega), show (6 * w + s) / 6 = w by omega, show (6 * w + s) % 6 = s by omega]
    · rw [if_neg h]
      by_cases q : (i / 6 < w ∧ i % 6 < ns) ∨ (i / 6 = w ∧ i % 6 < s)
      · rw [if_pos q, if_pos (by omega)]
      · rw [if_neg q, if_neg (by omega)]
  · rfl
def knM (σ : Sg) (L : Nat → Int32) (i : Nat) : Int32 := if L i ≤ 0 then σ 16 i else L i
/-- the songs behind the model's sing, of the first k -/
def sgM (σ : Sg) (L : Nat → Int32) (k : Nat) : Sg := va_up σ 16 (cpk (knM σ L) (σ 16) k)
theorem sgM_0 {σ : Sg} {L : Nat → Int32} : sgM σ L 0 = σ := by
  funext j
  unfold sgM
  rw [cpk_0]
  unfold va_up
  split
  · rename_i h; rw [h]
  · rfl
theorem sgM_s {σ : Sg} {L : Nat → Int32} {k : Nat} {x : Int32} (h : x = knM σ L k) : up2 (sgM σ L k) 16 k x = sgM σ L (k + 1) := by
  subst h
  unfold sgM up2
  funext j
  unfold va_up
  split
  · simp only [if_true]
    exact cpk_s (knM σ L) (σ 16) k
  · rfl
theorem sgM_f {σ : Sg} {L : Nat → Int32} {k : Nat} (h : L k ≤ 0) : sgM σ L k = sgM σ L (k + 1) := by
  rw [← sgM_s (x := knM σ L k) rfl]
  refine (up2_id ?_).symm
  unfold sgM va_up cpk knM
  simp [h]
theorem sgM_at {σ : Sg} {L : Nat → Int32} {k r : Nat} (h : r ≠ 16) : sgM σ L k r = σ r := by unfold sgM va_up; rw [if_neg h]
