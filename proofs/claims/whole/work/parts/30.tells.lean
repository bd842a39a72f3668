/-! WHAT IS TOLD, in the class's words; the model's ways to tell the same -/
def stT (n nw : Nat) (σ : Sg) (s : Nat) : Nat → Int32
  | 0 => σ 0 s
  | 1 => lt_ σ s 2
  | 2 => σ 2 s
  | 3 => nI (on σ nw s)
  | 4 => σ 8 s
  | _ => σ 9 s
def waT (nw : Nat) (σ : Sg) (w : Nat) : Nat → Int32
  | 0 => σ 4 w
  | 1 => σ 10 w
  | 2 => σ 5 w
  | 3 => σ 11 w
  | 4 => σ 12 w
  | 5 => σ 13 w
  | 6 => nI (nb σ nw w)
  | 7 => σ 14 w
  | _ => σ 15 w
def soT (nw : Nat) (σ : Sg) (s : Nat) : Nat → Int32
  | 0 => σ 6 s
  | 1 => nI (kn σ nw s)
  | 2 => nI (vs σ nw s)
  | _ => nI (cm σ nw s 99).1
def alT (n pl nw ns : Nat) (σ : Sg) : Nat → Int32
  | 0 => σ 17 0
  | 1 => nI n
  | 2 => nI pl
  | 3 => nI nw
  | 4 => nI (hm σ nw (nI 0))
  | 5 => nI (hm σ nw (nI 1))
  | 6 => nI (hm σ nw (nI 2))
  | 7 => nI (lb σ nw)
  | 8 => nI ns
  | 9 => fm σ nw
  | _ => fm σ nw - ls_ σ (fm σ nw) nw
theorem onS_at {n pl k sx j0 jz : Nat} {σ : Sg} (h : RF n pl σ) (hpl : pl ≤ 200) (hs : sx < n) (hj : j0 < n) (hw : σ 12 k = nI 1) (hz : σ 13 k = nI jz) (hjz : jz < pl) (ha : nN (σ 2 j0) ≤ jz) (hb : jz < nN (σ 2 j0) + nN (σ 0 j0)) : onS σ sx k = decide (j0 = sx) := by
  unfold onS
  obtain ⟨-, e2, -, -, h3⟩ := h.1 sx hs
  have i1 : σ 13 k < σ 2 sx ↔ jz < nN (σ 2 sx) := by
    rw [hz]
    conv => lhs; rhs; rw [e2]
    exact nI_ltI (by omega) (by omega)
  have i2 : σ 2 sx + σ 0 sx ≤ σ 13 k ↔ nN (σ 2 sx) + nN (σ 0 sx) ≤ jz := by
    rw [RF_end h hs, hz]
    exact nI_leI (by omega) (by omega)
  rw [decide_eq_true hw, Bool.true_and, decide_eq_decide.mpr (not_congr i1), decide_eq_decide.mpr (not_congr i2), ← Bool.decide_and]
  refine decide_eq_decide.mpr ⟨fun z => RF_uniq h hj hs ha hb (by omega) (by omega), fun z => ?_⟩
  subst z
  omega
theorem onS_no {k sx : Nat} {σ : Sg} (hw : ¬ σ 12 k = nI 1) : onS σ sx k = false := by
  unfold onS
  rw [decide_eq_false hw, Bool.false_and]
theorem cnt_ne {p q : Nat → Bool} {n : Nat} (h : ∀ k, k < n → p k = !(q k)) : cnt p n + cnt q n = n := by
  induction n with
  | zero => rfl
  | succ n ih =>
    simp only [cnt]
    have := ih (fun k hk => h k (Nat.lt_succ_of_lt hk))
    rw [h n (Nat.lt_succ_self n)]
    cases q n <;> simp <;> omega
theorem kn_kv {nw s : Nat} {σ : Sg} : kn σ nw s + kv σ nw s (nI 0) = nw := cnt_ne (fun k _ => by
  unfold knS kvS
  rw [nI_0]
  by_cases h : σ 16 (6 * k + s) = 0
  · rw [decide_eq_true h, decide_eq_false (fun z => z h)]
    rfl
  · rw [decide_eq_false h, decide_eq_true h]
    rfl)
/-- the most of the model is the commonest of the class -/
theorem cm_2 {nw s : Nat} {σ : Sg} : ∀ k, (cm σ nw s k).2 = (if (cm σ nw s k).1 = 0 then 0 else kv σ nw s (nI (cm σ nw s k).1)) ∧ (cm σ nw s k).1 ≤ k
  | 0 => ⟨rfl, Nat.le_refl _⟩
  | k + 1 => by
    obtain ⟨h1, h2⟩ := cm_2 (nw := nw) (s := s) (σ := σ) k
    simp only [cm]
    split
    · exact ⟨by show kv σ nw s (nI (k + 1)) = _; rw [if_neg (Nat.succ_ne_zero k)], Nat.le_refl _⟩
    · exact ⟨h1, by omega⟩
theorem cm_a {nw s k : Nat} {σ : Sg} (h : (cm σ nw s k).2 < kv σ nw s (nI (k + 1))) : (cm σ nw s (k + 1)).1 = k + 1 := by
  simp only [cm]
  rw [if_pos h]
theorem cm_b {nw s k : Nat} {σ : Sg} (h : ¬ (cm σ nw s k).2 < kv σ nw s (nI (k + 1))) : (cm σ nw s (k + 1)).1 = (cm σ nw s k).1 := by
  simp only [cm]
  rw [if_neg h]
theorem cm_z {nw s k : Nat} {σ : Sg} (h : (cm σ nw s k).1 = 0) : (cm σ nw s k).2 = 0 := by rw [(cm_2 k).1, if_pos h]
theorem cm_nz {nw s k : Nat} {σ : Sg} (h : ¬ (cm σ nw s k).1 = 0) : (cm σ nw s k).2 = kv σ nw s (nI (cm σ nw s k).1) := by rw [(cm_2 k).1, if_neg h]
theorem lb_s {k : Nat} {σ : Sg} (hz : bz σ) (hw : σ 12 k = nI 1) : nI (cnt (lbS σ) k) + σ 11 k = nI (cnt (lbS σ) (k + 1)) := by
  simp only [cnt]
  unfold lbS
  rw [decide_eq_true hw, Bool.true_and]
  rcases hz k with h | h
  · rw [h, nI_add, decide_eq_false (fun z => z rfl)]
    rfl
  · rw [h, nI_add, decide_eq_true (by decide)]
    rfl
theorem lb_n {k : Nat} {σ : Sg} (hw : ¬ σ 12 k = nI 1) : nI (cnt (lbS σ) k) = nI (cnt (lbS σ) (k + 1)) := by
  refine cnt_f ?_
  unfold lbS
  rw [decide_eq_false hw, Bool.false_and]
/-- the greatest place (b), or the least one, as the model looks for it -/
def enU (b : Bool) (z x : Int32) : Bool := decide (x = -1) || (b == decide (x < z))
def en (σ : Sg) (b : Bool) : Nat → Int32
  | 0 => -1
  | k + 1 => if σ 12 k = nI 1 ∧ enU b (σ 13 k) (en σ b k) = true then σ 13 k else en σ b k
theorem en_0 {σ : Sg} {b : Bool} {k : Nat} (h : ¬ σ 12 k = nI 1) : en σ b (k + 1) = en σ b k := if_neg (fun z => h z.1)
theorem en_a {σ : Sg} {b : Bool} {k : Nat} (h : σ 12 k = nI 1) (h2 : en σ b k = -1) : en σ b (k + 1) = σ 13 k := if_pos ⟨h, by unfold enU; rw [decide_eq_true h2]; rfl⟩
theorem en_b {σ : Sg} {b : Bool} {k : Nat} (h : σ 12 k = nI 1) (h2 : b = decide (en σ b k < σ 13 k)) : en σ b (k + 1) = σ 13 k := if_pos ⟨h, by unfold enU; rw [← h2]; simp⟩
theorem en_c {σ : Sg} {b : Bool} {k : Nat} (h2 : ¬ en σ b k = -1) (h3 : ¬ b = decide (en σ b k < σ 13 k)) : en σ b (k + 1) = en σ b k := if_neg (fun z => by
  have := z.2
  unfold enU at this
  rw [decide_eq_false h2, Bool.false_or] at this
  exact h3 (eq_of_beq this))
theorem m1_lt {j : Nat} (hj : j < 2 ^ 31) : (-1 : Int32) < nI j := by
  rw [Int32.lt_iff_toInt_lt, nI_toInt hj]
  have : ((-1 : Int32)).toInt = -1 := by decide
  omega
theorem fm_en {pl nw : Nat} {σ : Sg} (hpl : pl ≤ 200) (h : PB pl nw σ) : ∀ k, k ≤ nw → en σ true k = fm σ k
  | 0, _ => rfl
  | k + 1, hk => by
    have ih := fm_en hpl h k (by omega)
    by_cases c : σ 12 k = nI 1
    · obtain ⟨j, hj, e⟩ := h k (by omega) c
      by_cases d : fm σ k = -1
      · rw [en_a c (by rw [ih]; exact d)]
        show _ = if _ then _ else _
        rw [if_pos ⟨c, by rw [d, e]; exact Int32.not_le.mpr (m1_lt (by omega))⟩]
      · by_cases f : fm σ k < σ 13 k
        · rw [en_b c (by rw [ih, decide_eq_true f])]
          show _ = if _ then _ else _
          rw [if_pos ⟨c, Int32.not_le.mpr f⟩]
        · rw [en_c (by rw [ih]; exact d) (by rw [ih, decide_eq_false f]; decide), ih]
          show _ = if _ then _ else _
          rw [if_neg (fun z => f (Int32.not_le.mp z.2))]
    · rw [en_0 c, ih]
      show _ = if _ then _ else _
      rw [if_neg (fun z => c z.1)]
theorem fm_ge {σ : Sg} {nw w : Nat} : ∀ {k : Nat}, w < k → σ 12 w = nI 1 → σ 13 w ≤ fm σ k
  | 0, hw, _ => absurd hw (Nat.not_lt_zero _)
  | k + 1, hw, h => by
    show _ ≤ if _ then _ else _
    by_cases e : w = k
    · subst e
      by_cases d : σ 13 w ≤ fm σ w
      · rw [if_neg (fun z => z.2 d)]; exact d
      · rw [if_pos ⟨h, d⟩]; exact Int32.le_refl _
    · have ih := fm_ge (σ := σ) (nw := nw) (w := w) (k := k) (by omega) h
      split
      · rename_i q
        exact Int32.le_trans ih (Int32.le_of_lt (Int32.not_le.mp q.2))
      · exact ih
theorem ls_en {pl nw : Nat} {σ : Sg} (hpl : pl ≤ 200) (h : PB pl nw σ) : en σ false nw = ls_ σ (fm σ nw) nw := by
  have key : ∀ k, k ≤ nw → (en σ false k = -1 ∧ ls_ σ (fm σ nw) k = fm σ nw ∧ ∀ w, w < k → ¬ σ 12 w = nI 1) ∨ (¬ en σ false k = -1 ∧ ls_ σ (fm σ nw) k = en σ false k) := by
    intro k
    induction k with
    | zero => intro _; exact Or.inl ⟨rfl, rfl, fun w hw => absurd hw (Nat.not_lt_zero _)⟩
    | succ k ih =>
      intro hk
      by_cases c : σ 12 k = nI 1
      · obtain ⟨j, hj, e⟩ := h k (by omega) c
        have hne : ¬ σ 13 k = -1 := fun z => by
          have := m1_lt (j := j) (by omega)
          rw [← e, z] at this
          exact absurd this (by decide)
        have hge : σ 13 k ≤ fm σ nw := fm_ge (nw := nw) (by omega) c
        refine Or.inr ?_
        rcases ih (by omega) with ⟨a1, a2, -⟩ | ⟨a1, a2⟩
        · rw [en_a c a1]
          refine ⟨hne, ?_⟩
          show (if _ then _ else _) = _
          rw [a2]
          split
          · rfl
          · rename_i q
            exact Int32.le_antisymm (Classical.not_not.mp (fun z => q ⟨c, z⟩)) hge
        · by_cases f : en σ false k < σ 13 k
          · rw [en_c a1 (by rw [decide_eq_true f]; decide)]
            refine ⟨a1, ?_⟩
            show (if _ then _ else _) = _
            rw [if_neg (fun z => z.2 (by rw [a2]; exact Int32.le_of_lt f)), a2]
          · rw [en_b c (by rw [decide_eq_false f])]
            refine ⟨hne, ?_⟩
            show (if _ then _ else _) = _
            split
            · rfl
            · rename_i q
              rw [a2] at q ⊢
              exact Int32.le_antisymm (Classical.not_not.mp (fun z => q ⟨c, z⟩)) (Int32.not_lt.mp f)
      · rw [en_0 c]
        have e : ls_ σ (fm σ nw) (k + 1) = ls_ σ (fm σ nw) k := if_neg (fun z => c z.1)
        rw [e]
        rcases ih (by omega) with ⟨a1, a2, a3⟩ | q
        · refine Or.inl ⟨a1, a2, fun w hw => ?_⟩
          by_cases z : w = k
          · subst z; exact c
          · exact a3 w (by omega)
        · exact Or.inr q
  rcases key nw (Nat.le_refl nw) with ⟨a1, a2, a3⟩ | ⟨a1, a2⟩
  · rw [a1, a2]
    have : ∀ k, k ≤ nw → fm σ k = -1 := by
      intro k
      induction k with
      | zero => intro _; rfl
      | succ k ih =>
        intro hk
        show (if _ then _ else _) = _
        rw [if_neg (fun z => a3 k (by omega) z.1)]
        exact ih (by omega)
    exact (this nw (Nat.le_refl nw)).symm
  · exact a2.symm
/-- songs known in all, cell by cell -/
def prS (σ : Sg) (i : Nat) : Bool := decide (0 < σ 16 i)
theorem cnt_add {p : Nat → Bool} (a : Nat) : ∀ b, cnt p (a + b) = cnt p a + cnt (fun i => p (a + i)) b
  | 0 => rfl
  | b + 1 => by
    show cnt p (a + b) + (if p (a + b) = true then 1 else 0) = cnt p a + (cnt (fun i => p (a + i)) b + (if p (a + b) = true then 1 else 0))
    rw [cnt_add a b]
    omega
theorem cnt_6 {p : Nat → Bool} : ∀ m, cnt p (6 * m) = cnt (fun k => p (6 * k)) m + cnt (fun k => p (6 * k + 1)) m + cnt (fun k => p (6 * k + 2)) m + cnt (fun k => p (6 * k + 3)) m + cnt (fun k => p (6 * k + 4)) m + cnt (fun k => p (6 * k + 5)) m
  | 0 => rfl
  | m + 1 => by
    rw [show 6 * (m + 1) = 6 * m + 6 by omega, cnt_add, cnt_6 m]
    simp only [cnt, Nat.add_zero, Nat.zero_add]
    omega
theorem cnt_cut {p : Nat → Bool} {a b : Nat} (h : ∀ k, a ≤ k → p k = false) (hab : a ≤ b) : cnt p b = cnt p a := by
  obtain ⟨d, rfl⟩ := Nat.exists_eq_add_of_le hab
  rw [cnt_add, cnt_0 (fun k _ => h (a + k) (Nat.le_add_right a k))]
  rfl
theorem sumN_6 {f : Nat → Nat} {ns : Nat} (hns : ns ≤ 6) (h : ∀ s, ns ≤ s → f s = 0) : f 0 + f 1 + f 2 + f 3 + f 4 + f 5 = sumN f ns := by
  have c : ∀ m, sumN f (m + 1) = sumN f m + f m := fun _ => rfl
  rcases (show ns = 0 ∨ ns = 1 ∨ ns = 2 ∨ ns = 3 ∨ ns = 4 ∨ ns = 5 ∨ ns = 6 by omega) with rfl | rfl | rfl | rfl | rfl | rfl | rfl
  · rw [h 0 (by omega), h 1 (by omega), h 2 (by omega), h 3 (by omega), h 4 (by omega), h 5 (by omega)]; rfl
  · rw [c, h 1 (by omega), h 2 (by omega), h 3 (by omega), h 4 (by omega), h 5 (by omega)]; simp [sumN]
  · rw [c, c, h 2 (by omega), h 3 (by omega), h 4 (by omega), h 5 (by omega)]; simp [sumN]
  · rw [c, c, c, h 3 (by omega), h 4 (by omega), h 5 (by omega)]; simp [sumN]
  · rw [c, c, c, c, h 4 (by omega), h 5 (by omega)]; simp [sumN]
  · rw [c, c, c, c, c, h 5 (by omega)]; simp [sumN]
  · rw [c, c, c, c, c, c]; simp [sumN]
theorem pr_kn {nw ns : Nat} {σ : Sg} (hnw : nw ≤ 20) (hns : ns ≤ 6) (hSV : SV nw σ) (hKZ : KZ nw ns σ) : cnt (prS σ) 120 = sumN (kn σ nw) ns := by
  have e : ∀ i, prS σ i = decide (¬ σ 16 i = 0) := fun i => by
    unfold prS
    have h0 := hSV.1 i
    by_cases z : σ 16 i = 0
    · rw [z]; rfl
    · rw [decide_eq_true (show ¬ σ 16 i = 0 from z), decide_eq_true]
      exact Int32.lt_of_le_of_ne h0 (fun y => z y.symm)
  have f0 : ∀ s, s < 6 → ns ≤ s → kn σ nw s = 0 := fun s hs hn => cnt_0 (fun k hk => by
    unfold knS
    exact decide_eq_false (fun z => z (hKZ _ (by omega))))
  have g : ∀ s, s < 6 → cnt (fun k => prS σ (6 * k + s)) 20 = kn σ nw s := fun s hs => by
    rw [cnt_cut (a := nw) (fun k hk => ?_) hnw]
    · exact cnt_congr (fun k _ => e _)
    · show prS σ (6 * k + s) = false
      rw [e]
      exact decide_eq_false (fun z => z (hKZ _ (by omega)))
  have gF : ∀ s, s < 6 → cnt (fun k => prS σ (6 * k + s)) 20 = (fun s => if s < 6 then kn σ nw s else 0) s := fun s hs => by
    rw [g s hs]; exact (if_pos hs).symm
  rw [show (120 : Nat) = 6 * 20 from rfl, cnt_6]
  have g0 := gF 0 (by omega)
  simp only [Nat.add_zero] at g0
  rw [g0, gF 1 (by omega), gF 2 (by omega), gF 3 (by omega), gF 4 (by omega), gF 5 (by omega)]
  rw [sumN_6 (f := fun s => if s < 6 then kn σ nw s else 0) hns (fun s hs => by
    show (if s < 6 then _ else _) = _
    split
    · exact f0 s (by assumption) hs
    · rfl)]
  have key : ∀ m, m ≤ 6 → sumN (fun s => if s < 6 then kn σ nw s else 0) m = sumN (kn σ nw) m := by
    intro m
    induction m with
    | zero => intro _; rfl
    | succ m ih =>
      intro hm
      simp only [sumN]
      rw [ih (by omega), if_pos (by omega)]
  exact key ns hns
