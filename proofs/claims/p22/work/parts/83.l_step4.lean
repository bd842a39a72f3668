/-! ONE STEP: songs, the way home, sums -/
theorem lfo_spec {σ : Sg} {w sg : Nat} : ∀ {k j : Nat}, lfo σ w sg k = some j → j < k ∧ nbr σ w j = true ∧ ¬ σ 16 (6 * j + sg) ≤ 0
  | 0, j, h => by cases h
  | k + 1, j, h => by
    simp only [lfo] at h
    split at h
    · rename_i c
      cases h
      exact ⟨Nat.lt_succ_self _, c.1, c.2.1⟩
    · obtain ⟨a, b, c⟩ := lfo_spec h
      exact ⟨Nat.lt_succ_of_lt a, b, c⟩
theorem ite3 {c1 c2 : Prop} [Decidable c1] [Decidable c2] {a b z : Int32} : (if c1 then (if c2 then a else b) else z) = a ∨ (if c1 then (if c2 then a else b) else z) = b ∨ (if c1 then (if c2 then a else b) else z) = z := by
  by_cases h1 : c1
  · rw [if_pos h1]
    by_cases h2 : c2
    · rw [if_pos h2]; exact Or.inl rfl
    · rw [if_neg h2]; exact Or.inr (Or.inl rfl)
  · rw [if_neg h1]; exact Or.inr (Or.inr rfl)
theorem nbr_rows9 {σ τ : Sg} (h12 : τ 12 = σ 12) (h13 : τ 13 = σ 13) (i j : Nat) : nbr τ i j = nbr σ i j := by
  unfold nbr
  rw [h12, h13]
section TAK
variable {n pl nw ns t : Nat} {σ : Sg}
theorem tau_k (h : LV n pl nw ns t σ) {w s : Nat} (hw : w < nw) (hs : s < 6) : tau n pl nw ns σ 16 (6 * w + s) = σ 16 (6 * w + s) ∨ (σ 16 (6 * w + s) = 0 ∧ σ 12 w = nI 1 ∧ ∃ o, o < nw ∧ nbr σ w o = true ∧ ∃ m, σ 16 (6 * o + s) = nI m ∧ 0 < m ∧ m ≤ 99 ∧ (tau n pl nw ns σ 16 (6 * w + s) = nI m ∨ tau n pl nw ns σ 16 (6 * w + s) = nI (m % 99 + 1))) := by
  have hI := h.inv
  have e : tau n pl nw ns σ 16 = (sgF nw ns ((t1 nw (σ, fun _ _ => 0)).1, (t1 nw (σ, fun _ _ => 0)).2)).1 16 := tsF_16
  have r : ∀ r, r ≠ 10 → r ≠ 11 → (t1 nw (σ, fun _ _ => 0)).1 r = σ r := fun r a b => t1_rows a b
  have hSV : SV nw (t1 nw (σ, fun _ _ => 0)).1 := by unfold SV; rw [r 16 (by decide) (by decide), r 5 (by decide) (by decide)]; exact hI.2.2.2.2.2.2.1
  have hz1 : bz (t1 nw (σ, fun _ _ => 0)).1 := t1_bz hI.2.1.1
  obtain ⟨k1, k2⟩ := sgF_at (κ := (t1 nw (σ, fun _ _ => 0)).2) hSV hz1 hI.1.2.2.2 (6 * w + s)
  rw [e]
  rw [show (6 * w + s) / 6 = w by omega, show (6 * w + s) % 6 = s by omega, r 16 (by decide) (by decide), r 12 (by decide) (by decide)] at k1 k2
  by_cases c : w < nw ∧ s < ns ∧ σ 12 w = nI 1 ∧ σ 16 (6 * w + s) = 0
  · rw [k1 c]
    cases hl : lfo (t1 nw (σ, fun _ _ => 0)).1 w s nw with
    | none =>
      left
      unfold lrn
      rw [hl]
      exact c.2.2.2.symm
    | some j =>
      obtain ⟨l1, l2, l3⟩ := lfo_spec hl
      rw [nbr_rows9 (r 12 (by decide) (by decide)) (r 13 (by decide) (by decide))] at l2
      rw [r 16 (by decide) (by decide)] at l3
      obtain ⟨m, hm, em⟩ := h.2.2.1 j s l1 hs
      rw [em] at l3
      have hm0 : 0 < m := by
        rcases Nat.eq_zero_or_pos m with z | z
        · rw [z] at l3; exact absurd (by decide) l3
        · exact z
      have e8 : rem99 (nI m) + nI 1 = nI (m % 99 + 1) := by
        unfold rem99
        rw [pk_rem (by omega) (by decide) (by decide), nI_add]
      unfold lrn
      rw [hl]
      dsimp only
      rw [r 16 (by decide) (by decide), em, e8]
      rcases ite3 (c1 := (t1 nw (σ, fun _ _ => 0)).1 6 s ≤ (t1 nw (σ, fun _ _ => 0)).1 5 j + (if (t1 nw (σ, fun _ _ => 0)).1 11 w = 0 then nI 3 else nI 0)) (c2 := (t1 nw (σ, fun _ _ => 0)).1 11 w + (t1 nw (σ, fun _ _ => 0)).1 11 j = nI 2) (a := nI (m % 99 + 1)) (b := nI m) (z := nI 0) with q | q | q
      · exact Or.inr ⟨c.2.2.2, c.2.2.1, j, l1, l2, m, em, hm0, hm, Or.inr q⟩
      · exact Or.inr ⟨c.2.2.2, c.2.2.1, j, l1, l2, m, em, hm0, hm, Or.inl q⟩
      · exact Or.inl (q.trans c.2.2.2.symm)
  · left
    exact k2 c
theorem LV_step (h : LV n pl nw ns t σ) (hn : 0 < n) : LV n pl nw ns (t + 1) (tau n pl nw ns σ) := by
  have hI' : INV n pl nw ns (t + 1) (tau n pl nw ns σ) := INV_step (q := (σ, fun _ _ => 0)) hn h.inv
  have hz : ∀ w, nw ≤ w → tau n pl nw ns σ 12 w = 0 ∧ tau n pl nw ns σ 13 w = -1 ∧ tau n pl nw ns σ 14 w = 0 ∧ tau n pl nw ns σ 15 w = -1 := hI'.2.2.2.2.2.2.2.2.1
  refine ⟨⟨hI', WU_step (q := (σ, fun _ _ => 0)) h.1.2 h.inv.2.2.1⟩, tsF_AT (q := (σ, fun _ _ => 0)) h.2.1, fun w s hw hs => ?_, fun w => ?_, fun w => ?_, fun w => ?_, fun s hs => ?_⟩
  · rcases tau_k h hw hs with e | ⟨-, -, o, -, -, m, -, -, hm, e | e⟩
    · rw [e]; exact h.2.2.1 w s hw hs
    · exact ⟨m, hm, e⟩
    · exact ⟨m % 99 + 1, by omega, e⟩
  · by_cases hw : w < nw
    · rcases tau_w h hn hw with ⟨-, -, -, ⟨e, -⟩ | ⟨e, -⟩⟩ | ⟨-, -, p, -, -, ⟨d, -, -, e, -⟩ | ⟨e, -⟩⟩ | ⟨-, -, e, -⟩
      · exact Or.inl e
      · exact Or.inr (Or.inl e)
      · exact Or.inr (Or.inl e)
      · exact Or.inr (Or.inr e)
      · exact Or.inr (Or.inr e)
    · exact Or.inl (hz w (by omega)).1
  · intro h1
    by_cases hw : w < nw
    · rcases tau_w h hn hw with ⟨-, -, -, ⟨-, e, -⟩ | ⟨e, -⟩⟩ | ⟨-, -, p, -, -, ⟨d, -, -, e, -⟩ | ⟨-, e, -⟩⟩ | ⟨-, -, -, e, -⟩
      · exact e
      · exact absurd e h1
      · exact absurd e h1
      · exact e
      · exact e
    · exact (hz w (by omega)).2.1
  · intro h2
    by_cases hw : w < nw
    · rcases tau_w h hn hw with ⟨-, -, -, ⟨-, -, e⟩ | ⟨-, -, e⟩⟩ | ⟨-, -, p, -, -, ⟨d, -, -, -, -, e⟩ | ⟨e, -⟩⟩ | ⟨-, -, e, -⟩
      · exact e
      · exact e
      · exact e
      · exact absurd e h2
      · exact absurd e h2
    · exact (hz w (by omega)).2.2.2
  · obtain ⟨d, L, -, h9, -⟩ := tau_s h hn
    obtain ⟨a, b, -, e, -, hb⟩ := h9 s hs
    exact ⟨b, e, hb⟩
theorem tsN_shift : ∀ (k : Nat) (x : P2), tsN n pl nw ns (k + 1) x = tsN n pl nw ns k (tsF n pl nw ns x)
  | 0, x => rfl
  | k + 1, x => by
    show tsF n pl nw ns (tsN n pl nw ns (k + 1) x) = tsF n pl nw ns (tsN n pl nw ns k (tsF n pl nw ns x))
    rw [tsN_shift k x]
theorem trj_tau (h : LV n pl nw ns t σ) (hn : 0 < n) (k : Nat) : trj n pl nw ns (tau n pl nw ns σ) k = trj n pl nw ns σ (k + 1) := by
  have := trj_any (κ := (tsF n pl nw ns (σ, fun _ _ => 0)).2) hn (LV_step h hn).inv k
  rw [← this]
  show _ = (tsN n pl nw ns (k + 1) (σ, fun _ _ => 0)).1
  rw [tsN_shift]
  rfl
theorem fnd_lo {p : Nat → Bool} {n j : Nat} (h : fnd p n = some j) : fnd p j = none := by
  induction n with
  | zero => cases h
  | succ n ih =>
    simp only [fnd] at h
    cases hf : fnd p n with
    | none =>
      rw [hf] at h
      split at h
      · rename_i q; cases q
      · split at h
        · cases h; exact hf
        · cases h
    | some i =>
      rw [hf] at h
      split at h
      · rename_i q; cases q; cases h; exact ih hf
      · rename_i q; cases q
theorem fnd_none {p : Nat → Bool} : ∀ {n : Nat}, fnd p n = none → ∀ k, k < n → p k = false
  | 0, _, k, hk => absurd hk (Nat.not_lt_zero _)
  | n + 1, h, k, hk => by
    simp only [fnd] at h
    cases hf : fnd p n with
    | none =>
      rw [hf] at h
      by_cases e : k = n
      · subst e
        cases hp : p k with
        | false => rfl
        | true => simp [hp] at h
      · exact fnd_none hf k (by omega)
    | some i => rw [hf] at h; simp at h
theorem hoV_in (h : LV n pl nw ns t σ) (hn : 0 < n) {w : Nat} : hoV n pl nw ns σ w = nI 0 ∨ hoV n pl nw ns σ w = -1 ∨ ∃ j, j < 301 ∧ 0 < j ∧ hoV n pl nw ns σ w = nI j ∧ trj n pl nw ns σ j 12 w = nI 2 ∧ ∀ k, k < j → ¬ trj n pl nw ns σ k 12 w = nI 2 := by
  by_cases c : σ 12 w = nI 2
  · exact Or.inl (hoV_0 c)
  · right
    have e : hoV n pl nw ns σ w = oI (fnd (hoS n pl nw ns σ w) 301) := by
      unfold hoV
      rw [if_neg c, if_neg (by omega)]
    cases hf : fnd (hoS n pl nw ns σ w) 301 with
    | none => left; rw [e, hf]; rfl
    | some j =>
      right
      obtain ⟨h1, h2⟩ := fnd_lt hf
      have h3 := of_decide_eq_true (show decide (trj n pl nw ns σ j 12 w = nI 2) = true from h2)
      refine ⟨j, h1, ?_, by rw [e, hf]; rfl, h3, fun k hk => of_decide_eq_false (show decide (trj n pl nw ns σ k 12 w = nI 2) = false from fnd_none (fnd_lo hf) k hk)⟩
      rcases Nat.eq_zero_or_pos j with z | z
      · subst z; exact absurd h3 c
      · exact z
theorem hoV_m (h : LV n pl nw ns t σ) (hn : 0 < n) {w : Nat} (c1 : ¬ hoV n pl nw ns σ w ≤ nI 1) (c2 : ¬ nI 300 ≤ hoV n pl nw ns σ w) : hoV n pl nw ns (tau n pl nw ns σ) w = hoV n pl nw ns σ w - nI 1 := by
  rcases hoV_in h hn (w := w) with e | e | ⟨j, h1, h0, e, h3, h4⟩
  · rw [e] at c1; exact absurd (by decide) c1
  · rw [e] at c1; exact absurd (by decide) c1
  · rw [e] at c1 c2 ⊢
    rw [nI_leI (by omega) (by omega)] at c1 c2
    rw [pk_sub (by omega)]
    refine hoV_s (by have := h4 1 (by omega); exact this) hn (by omega) (fnd_no (fun k hk => ?_)) ?_
    · unfold hoS
      rw [trj_tau h hn]
      exact decide_eq_false (h4 (k + 1) (by omega))
    · rw [trj_tau h hn, show j - 1 + 1 = j by omega]
      exact h3
theorem hoV_o (h : LV n pl nw ns t σ) (hn : 0 < n) {w : Nat} (c : hoV n pl nw ns σ w = nI 1) : tau n pl nw ns σ 12 w = nI 2 := by
  rcases hoV_in h hn (w := w) with e | e | ⟨j, h1, h0, e, h3, h4⟩
  · rw [e] at c; exact absurd c (by decide)
  · rw [e] at c; exact absurd c (by decide)
  · rw [e, nI_eq (by omega) (by omega)] at c
    subst c
    exact h3
/-- who has newly come home -/
def cam (n pl nw ns : Nat) (σ : Sg) : Nat := hm (tau n pl nw ns σ) nw (nI 2) - hm σ nw (nI 2)
def nwS (σ τ : Sg) (w : Nat) : Bool := decide (τ 12 w = nI 2) && decide (¬ σ 12 w = nI 2)
theorem vPass_cam (h : LV n pl nw ns t σ) (hn : 0 < n) : vPassT n pl nw ns σ (nI 1) = nI (cam n pl nw ns σ) := by
  unfold vPassT
  have hk : kPass n (nI 1) = 0 := by
    unfold kPass
    rw [if_pos (by decide), if_neg (by omega)]
  rw [ifk_0 hk]
  obtain ⟨d, L, -, -, -, e⟩ := tau_s h hn
  show nI (hm (tau n pl nw ns σ) nw (nI 2)) - _ = _
  rw [pk_sub (by omega)]
  rfl
theorem now_cam (h : LV n pl nw ns t σ) (hn : 0 < n) : cnt (nwS σ (tau n pl nw ns σ)) nw = cam n pl nw ns σ := by
  have key : ∀ k, k ≤ nw → cnt (hmS (tau n pl nw ns σ) (nI 2)) k = cnt (hmS σ (nI 2)) k + cnt (nwS σ (tau n pl nw ns σ)) k := by
    intro k
    induction k with
    | zero => intro _; rfl
    | succ k ih =>
      intro hk
      have ih := ih (by omega)
      simp only [cnt]
      have : (if hmS (tau n pl nw ns σ) (nI 2) k = true then 1 else 0) = (if hmS σ (nI 2) k = true then 1 else 0) + (if nwS σ (tau n pl nw ns σ) k = true then 1 else 0) := by
        unfold hmS nwS
        by_cases a : σ 12 k = nI 2
        · have b : tau n pl nw ns σ 12 k = nI 2 := by
            rcases tau_w h hn (show k < nw by omega) with ⟨e, -⟩ | ⟨e, -⟩ | ⟨-, -, e, -⟩
            · rw [e] at a; exact absurd a (by decide)
            · rw [e] at a; exact absurd a (by decide)
            · exact e
          simp [a, b]
        · by_cases b : tau n pl nw ns σ 12 k = nI 2
          · simp [a, b]
          · simp [a, b]
      omega
  unfold cam hm
  have := key nw (Nat.le_refl _)
  omega
theorem d_cam (h : LV n pl nw ns t σ) {d : Nat → Nat} (e : hm (tau n pl nw ns σ) nw (nI 2) = hm σ nw (nI 2) + d (n - 1)) : d (n - 1) = cam n pl nw ns σ := by
  unfold cam
  omega
end TAK
/-- known songs, walker by walker -/
def mnW (τ : Sg) (ns w : Nat) : Nat := cnt (fun k => knS τ k w) ns
theorem mn_sum {τ : Sg} {ns : Nat} : ∀ nw, sumN (mnW τ ns) nw = sumN (kn τ nw) ns
  | 0 => by
    have : ∀ m, sumN (kn τ 0) m = 0 := by
      intro m
      induction m with
      | zero => rfl
      | succ m ih => show sumN (kn τ 0) m + 0 = 0; rw [ih]
    rw [this]
    rfl
  | nw + 1 => by
    have key : ∀ m, sumN (kn τ (nw + 1)) m = sumN (kn τ nw) m + cnt (fun k => knS τ k nw) m := by
      intro m
      induction m with
      | zero => rfl
      | succ m ih =>
        show sumN (kn τ (nw + 1)) m + (cnt (knS τ m) nw + (if knS τ m nw = true then 1 else 0)) = (sumN (kn τ nw) m + cnt (knS τ m) nw) + (cnt (fun k => knS τ k nw) m + (if knS τ m nw = true then 1 else 0))
        rw [ih]
        omega
    show sumN (mnW τ ns) nw + mnW τ ns nw = _
    rw [mn_sum nw, key]
    rfl
