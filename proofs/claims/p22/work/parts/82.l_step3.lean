/-! ONE STEP: what the law asks of it -/
def tau (n pl nw ns : Nat) (σ : Sg) : Sg := (tsF n pl nw ns (σ, fun _ _ => 0)).1
section BDW
variable {n pl nw ns t : Nat} {σ : Sg}
def bdN (l : Int32) (σ : Sg) (w : Nat) : Int32 := if ¬ σ 11 w = 0 ∧ ¬ σ 12 w = nI 2 then mx0 (σ 10 w - l) else σ 10 w
def bdB (l : Int32) (σ : Sg) (w : Nat) : Int32 := if ¬ σ 11 w = 0 ∧ ¬ σ 12 w = nI 2 then (if mx0 (σ 10 w - l) ≤ 0 then nI 0 else nI 1) else σ 11 w
theorem bd_w {l : Int32} : ∀ k, foldN (bd1 l) k σ 12 = σ 12 ∧ ∀ w, (w < k → foldN (bd1 l) k σ 10 w = bdN l σ w ∧ foldN (bd1 l) k σ 11 w = bdB l σ w) ∧ (k ≤ w → foldN (bd1 l) k σ 10 w = σ 10 w ∧ foldN (bd1 l) k σ 11 w = σ 11 w)
  | 0 => ⟨rfl, fun w => ⟨fun h => absurd h (Nat.not_lt_zero _), fun _ => ⟨rfl, rfl⟩⟩⟩
  | k + 1 => by
    obtain ⟨h12, hw⟩ := bd_w (l := l) k
    have e : foldN (bd1 l) (k + 1) σ = bd1 l k (foldN (bd1 l) k σ) := rfl
    rw [e]
    generalize foldN (bd1 l) k σ = y at h12 hw
    obtain ⟨k10, k11⟩ := (hw k).2 (Nat.le_refl _)
    unfold bd1
    by_cases c : ¬ y 11 k = 0 ∧ ¬ y 12 k = nI 2
    · rw [if_pos c]
      have c' : ¬ σ 11 k = 0 ∧ ¬ σ 12 k = nI 2 := by rw [← k11, ← congrFun h12 k]; exact c
      refine ⟨by rw [up2_r (by decide), up2_r (by decide)]; exact h12, fun w => ⟨fun h => ?_, fun h => ?_⟩⟩
      · by_cases ew : w = k
        · subst ew
          rw [up2_r (by decide), up2_in', up2_in', k10]
          unfold bdN bdB
          rw [if_pos c', if_pos c']
          exact ⟨rfl, rfl⟩
        · rw [up2_r (by decide), up2_o ew, up2_o ew, up2_r (by decide)]
          exact (hw w).1 (by omega)
      · rw [up2_r (by decide), up2_o (by omega), up2_o (by omega), up2_r (by decide)]
        exact (hw w).2 (by omega)
    · rw [if_neg c]
      have c' : ¬ (¬ σ 11 k = 0 ∧ ¬ σ 12 k = nI 2) := by rw [← k11, ← congrFun h12 k]; exact c
      refine ⟨h12, fun w => ⟨fun h => ?_, fun h => (hw w).2 (by omega)⟩⟩
      by_cases ew : w = k
      · subst ew
        unfold bdN bdB
        rw [if_neg c', if_neg c']
        exact ⟨k10, k11⟩
      · exact (hw w).1 (by omega)
theorem bo_w {x : Int32} {y : Sg} : ∀ w, boF x nw y 11 w = y 11 w ∨ (boF x nw y 11 w = nI 0 ∧ y 12 w = nI 1) := by
  unfold boF
  split
  · have key := foldN_inv (f := bo1 nw) (n := nw) (x := y) (P := fun (z : Sg) => z 12 = y 12 ∧ ∀ w, z 11 w = y 11 w ∨ (z 11 w = nI 0 ∧ y 12 w = nI 1)) ⟨rfl, fun w => Or.inl rfl⟩ (fun k z _ h => by
      unfold bo1
      split
      · rename_i c
        refine ⟨by rw [up2_r (by decide)]; exact h.1, fun w => ?_⟩
        by_cases e : w = k
        · subst e
          rw [up2_in']
          exact Or.inr ⟨rfl, by rw [← h.1]; exact c.1⟩
        · rw [up2_o e]
          exact h.2 w
      · exact h)
    exact key.2
  · exact fun w => Or.inl rfl
theorem lg_w {T0 : Sg} : ∀ w, foldN (lg1 T0 nw) nw T0 11 w = T0 11 w ∨ (foldN (lg1 T0 nw) nw T0 11 w = nI 1 ∧ lt9 T0 nw w = true) :=
  foldN_inv (P := fun (z : Sg) => ∀ w, z 11 w = T0 11 w ∨ (z 11 w = nI 1 ∧ lt9 T0 nw w = true)) (fun w => Or.inl rfl) (fun k z _ h w => by
    unfold lg1
    split
    · rename_i c
      by_cases e : w = k
      · subst e
        rw [up2_in']
        exact Or.inr ⟨rfl, c⟩
      · rw [up2_o e]
        exact h w
    · exact h w)
/-- wicks and lanterns -/
theorem tau_b (h : LV n pl nw ns t σ) {w : Nat} (hw : w < nw) : tau n pl nw ns σ 10 w = bdN (lossOf (windOf σ)) σ w ∧ (σ 12 w = nI 2 → tau n pl nw ns σ 11 w = σ 11 w) ∧ (¬ σ 12 w = nI 2 → tau n pl nw ns σ 11 w = nI 1 → ¬ tau n pl nw ns σ 10 w = 0) := by
  have hI := h.inv
  have hb := (bd_w (σ := σ) (l := lossOf (windOf σ)) nw)
  have hT : bdF (windOf σ) nw σ = foldN (bd1 (lossOf (windOf σ))) nw σ := rfl
  have h10 : tau n pl nw ns σ 10 w = bdN (lossOf (windOf σ)) σ w := by
    unfold tau
    rw [tsF_10]
    exact ((hb.2 w).1 hw).1
  have e11 : tau n pl nw ns σ 11 = foldN (lg1 (boF (windOf σ) nw (bdF (windOf σ) nw σ)) nw) nw (boF (windOf σ) nw (bdF (windOf σ) nw σ)) 11 := by
    unfold tau
    rw [tsF_11]
    unfold t1
    rw [le_lg (boF_bz (bdF_bz hI.2.1.1)) (wz_row (bdF_wz hI.2.2.1) (boF_row (by omega)))]
  have hbd := ((hb.2 w).1 hw)
  rw [← hT] at hbd
  have h12 : boF (windOf σ) nw (bdF (windOf σ) nw σ) 12 w = σ 12 w := by rw [boF_row (by decide)]; exact congrFun hb.1 w
  have h10b : boF (windOf σ) nw (bdF (windOf σ) nw σ) 10 w = bdN (lossOf (windOf σ)) σ w := by rw [boF_row (by decide)]; exact hbd.1
  have hbo := bo_w (nw := nw) (x := windOf σ) (y := bdF (windOf σ) nw σ) w
  have h12' : bdF (windOf σ) nw σ 12 w = σ 12 w := congrFun hb.1 w
  refine ⟨h10, fun h2 => ?_, fun h2 h1 => ?_⟩
  · rw [e11]
    have hn1 : ¬ σ 12 w = nI 1 := by rw [h2]; decide
    rcases lg_w (nw := nw) (T0 := boF (windOf σ) nw (bdF (windOf σ) nw σ)) w with e | ⟨-, e⟩
    · rw [e]
      rcases hbo with e2 | ⟨-, e2⟩
      · rw [e2, hbd.2]
        unfold bdB
        rw [if_neg (fun z => z.2 h2)]
      · rw [h12'] at e2
        exact absurd e2 hn1
    · unfold lt9 at e
      rw [h12, decide_eq_false hn1, Bool.false_and] at e
      cases e
  · rw [h10]
    rw [e11] at h1
    rcases lg_w (nw := nw) (T0 := boF (windOf σ) nw (bdF (windOf σ) nw σ)) w with e | ⟨-, e⟩
    · rw [e] at h1
      rcases hbo with e2 | ⟨e2, -⟩
      · rw [e2, hbd.2] at h1
        unfold bdB at h1
        unfold bdN
        by_cases c : ¬ σ 11 w = 0 ∧ ¬ σ 12 w = nI 2
        · rw [if_pos c] at h1 ⊢
          intro z
          rw [z, if_pos (by decide)] at h1
          exact absurd h1 (by decide)
        · exfalso
          rw [if_neg c] at h1
          exact c ⟨by rw [h1]; decide, h2⟩
      · rw [e2] at h1
        exact absurd h1 (by decide)
    · unfold lt9 at e
      simp only [Bool.and_eq_true] at e
      rw [h10b] at e
      exact of_decide_eq_true e.2.1
end BDW
section TAU
variable {n pl nw ns t : Nat} {σ : Sg}
/-- where each walker is after a step -/
theorem tau_w (h : LV n pl nw ns t σ) (hn : 0 < n) {w : Nat} (hw : w < nw) :
    (σ 12 w = nI 0 ∧ σ 13 w = -1 ∧ σ 15 w = -1 ∧ ((tau n pl nw ns σ 12 w = nI 0 ∧ tau n pl nw ns σ 13 w = -1 ∧ tau n pl nw ns σ 15 w = -1) ∨ (tau n pl nw ns σ 12 w = nI 1 ∧ tau n pl nw ns σ 13 w = nI 0 ∧ tau n pl nw ns σ 15 w = -1))) ∨
    (σ 12 w = nI 1 ∧ σ 15 w = -1 ∧ ∃ p, p < pl ∧ σ 13 w = nI p ∧ ((∃ d, d ≤ wkP w (tau n pl nw ns σ) ∧ p + d < pl ∧ tau n pl nw ns σ 12 w = nI 1 ∧ tau n pl nw ns σ 13 w = nI (p + d) ∧ tau n pl nw ns σ 15 w = -1) ∨ (tau n pl nw ns σ 12 w = nI 2 ∧ tau n pl nw ns σ 13 w = -1 ∧ tau n pl nw ns σ 15 w = nI t))) ∨
    (σ 12 w = nI 2 ∧ σ 13 w = -1 ∧ tau n pl nw ns σ 12 w = nI 2 ∧ tau n pl nw ns σ 13 w = -1 ∧ tau n pl nw ns σ 15 w = σ 15 w) := by
  obtain ⟨R, L, c, κ9, -, -, -, hWay, hrow, hst, -, -, -⟩ := step_all (κ := fun _ _ => 0) h hn
  have e15 : tau n pl nw ns σ 15 w = R 15 w := congrFun (hrow 15 (by decide) (by decide) (by decide)) w
  have hs : (tau n pl nw ns σ 12 w = R 12 w ∧ tau n pl nw ns σ 13 w = R 13 w) ∨ (R 12 w = 0 ∧ tau n pl nw ns σ 12 w = nI 1 ∧ tau n pl nw ns σ 13 w = nI 0) := hst w
  have h13 := h.2.2.2.2.1 w
  have h15 := h.2.2.2.2.2.1 w
  have n0 : ¬ nI 1 = (0 : Int32) := by decide
  have n2 : ¬ nI 2 = (0 : Int32) := by decide
  rcases hWay w hw with ⟨a1, p, hp, hz, hWR⟩ | ⟨a1, a2, a3, a4⟩
  · right; left
    refine ⟨a1, h15 (by rw [a1]; decide), p, hp, hz, ?_⟩
    rcases hWR with ⟨d, d1, d2, d3, d4, d5⟩ | ⟨d1, d2, d3⟩
    · left
      refine ⟨d, d1, d2, ?_, ?_, by rw [e15, d5]; exact h15 (by rw [a1]; decide)⟩
      · rcases hs with ⟨s1, -⟩ | ⟨s1, -⟩
        · rw [s1, d3]
        · rw [d3] at s1; exact absurd s1 n0
      · rcases hs with ⟨-, s1⟩ | ⟨s1, -⟩
        · rw [s1, d4]
        · rw [d3] at s1; exact absurd s1 n0
    · right
      rcases hs with ⟨s1, s2⟩ | ⟨s1, -⟩
      · exact ⟨s1.trans d1, s2.trans d2, e15.trans d3⟩
      · rw [d1] at s1; exact absurd s1 n2
  · rcases h.2.2.2.1 w with e | e | e
    · left
      refine ⟨e, h13 a1, h15 (by rw [e]; decide), ?_⟩
      rcases hs with ⟨s1, s2⟩ | ⟨s1, s2, s3⟩
      · exact Or.inl ⟨by rw [s1, a2, e], by rw [s2, a3, h13 a1], by rw [e15, a4]; exact h15 (by rw [e]; decide)⟩
      · exact Or.inr ⟨s2, s3, by rw [e15, a4]; exact h15 (by rw [e]; decide)⟩
    · exact absurd e a1
    · right; right
      rcases hs with ⟨s1, s2⟩ | ⟨s1, -⟩
      · exact ⟨e, h13 a1, by rw [s1, a2, e], by rw [s2, a3, h13 a1], by rw [e15, a4]⟩
      · rw [a2, e] at s1; exact absurd s1 n2
theorem tau_14 (h : LV n pl nw ns t σ) (hn : 0 < n) {w : Nat} (hw : w < nw) : tau n pl nw ns σ 14 w = if σ 12 w = nI 1 ∧ tau n pl nw ns σ 11 w = 0 then σ 14 w + nI 1 else σ 14 w := by
  obtain ⟨R, L, c, κ9, -, -, -, -, hrow, -, h14, -, -⟩ := step_all (κ := fun _ _ => 0) h hn
  have e : tau n pl nw ns σ 14 w = R 14 w := congrFun (hrow 14 (by decide) (by decide) (by decide)) w
  rw [e]
  exact h14 w hw
theorem tau_row {r : Nat} (h : r < 8) : tau n pl nw ns σ r = σ r := tsF_row h
theorem tau_lt {s : Nat} : lt_ (tau n pl nw ns σ) s 2 = lt_ σ s 2 := lt_rows (tau_row (by decide)) (tau_row (by decide)) s 2
/-- the corners of a step -/
theorem tau_s (h : LV n pl nw ns t σ) (hn : 0 < n) : ∃ d L : Nat → Nat,
    (∀ s, s < n → tau n pl nw ns σ 8 s = σ 8 s + nI (d s) ∧ lt_ σ s 2 = nI (L s) ∧ L s ≤ 10 ∧ d s ≤ L s) ∧
    (∀ s, s < n → ∃ a b, σ 9 s = nI a ∧ tau n pl nw ns σ 9 s = nI b ∧ a ≤ b ∧ b ≤ 20 * (t + 1)) ∧
    (∀ s, 0 < s → s < n → on (tau n pl nw ns σ) nw s + d s = on σ nw s + d (s - 1)) ∧ hm (tau n pl nw ns σ) nw (nI 2) = hm σ nw (nI 2) + d (n - 1) := by
  obtain ⟨R, L, c, κ9, hc, hL, ⟨d, e, s1, s2, s3⟩, hWay, hrow, hst, -, hR0, hR2⟩ := step_all (κ := fun _ _ => 0) h hn
  have row : ∀ r, r ≠ 12 → r ≠ 13 → r ≠ 17 → tau n pl nw ns σ r = R r := hrow
  have hs : ∀ w, (tau n pl nw ns σ 12 w = R 12 w ∧ tau n pl nw ns σ 13 w = R 13 w) ∨ (R 12 w = 0 ∧ tau n pl nw ns σ 12 w = nI 1 ∧ tau n pl nw ns σ 13 w = nI 0) := hst
  have hRF : RF n pl (tau n pl nw ns σ) := RF_rows h.inv.2.2.2.1 (tau_row (by decide)) (tau_row (by decide))
  have hpl := RF_pos h.inv.2.2.2.1 hn
  refine ⟨d, L, fun s hs' => ?_, fun s hs' => ?_, fun s h0 hs' => ?_, ?_⟩
  · obtain ⟨a1, -, -, a4, -⟩ := s1 s hs'
    rw [row 8 (by decide) (by decide) (by decide)]
    exact ⟨a1, (hL s hs').1, (hL s hs').2, a4⟩
  · obtain ⟨-, a2, -, -, a5⟩ := s1 s hs'
    obtain ⟨m, e1, hm⟩ := h.2.2.2.2.2.2 s hs'
    rw [row 9 (by decide) (by decide) (by decide)]
    refine ⟨m, m + e s, e1, ?_, by omega, by omega⟩
    show R 9 s = _
    rw [show R 9 s = σ 9 s + nI (e s) from a2, e1, nI_add]
  · have q := s2 s hs'
    rw [if_neg (by omega)] at q
    rw [show on (tau n pl nw ns σ) nw s = on R nw s from cnt_congr (fun k _ => by
      rcases hs k with ⟨k1, k2⟩ | ⟨k1, k2, k3⟩
      · exact onS_cg (row 0 (by decide) (by decide) (by decide)) (row 2 (by decide) (by decide) (by decide)) k1 k2
      · have hF := hRF.2.1 hn
        have hL0 := (hRF.1 0 hn).2.2.1
        rw [onS_at hRF h.inv.1.2.1 hs' hn k2 k3 hpl (by omega) (by omega), onS_no (by rw [k1]; decide), decide_eq_false (by omega)])]
    exact q
  · have q : hm R nw (nI 2) = hm σ nw (nI 2) + d (n - 1) := s3
    rw [← q]
    unfold hm
    exact cnt_congr (fun k _ => by
      unfold hmS
      rcases hs k with ⟨k1, -⟩ | ⟨k1, k2, -⟩
      · rw [k1]
      · rw [k1, k2]; decide)
end TAU
