/-! ONE STEP SEEN FROM OUTSIDE: where each walker is then, what the corners let through -/
def updN (f : Nat → Nat) (i v : Nat) : Nat → Nat := fun k => if k = i then v else f k
theorem cnt_ch {p p' : Nat → Bool} {w : Nat} : ∀ {n : Nat}, w < n → (∀ k, k < n → k ≠ w → p' k = p k) → cnt p' n + (if p w = true then 1 else 0) = cnt p n + (if p' w = true then 1 else 0)
  | 0, hw, _ => absurd hw (Nat.not_lt_zero _)
  | n + 1, hw, h => by
    by_cases e : w = n
    · subst e
      simp only [cnt]
      rw [cnt_congr (p := p') (q := p) (fun k hk => h k (by omega) (by omega))]
      omega
    · have ih := cnt_ch (p := p) (p' := p') (n := n) (w := w) (by omega) (fun k hk hkw => h k (by omega) hkw)
      simp only [cnt]
      rw [h n (by omega) (fun z => e z.symm)]
      omega
theorem OR_ex {S : Sg} : ∀ nw, ∃ m f, OR S nw m f
  | 0 => ⟨0, fun i => i, OR_0⟩
  | k + 1 => by
    obtain ⟨m, f, h⟩ := OR_ex (S := S) k
    by_cases hk : S 12 k = nI 1
    · have key : ∀ a, a ≤ m → (∀ i, a ≤ i → i < m → pz S (f i) < pz S k) → ∃ at0, at0 ≤ m ∧ (∀ i, at0 ≤ i → i < m → pz S (f i) < pz S k) ∧ (at0 = 0 ∨ pz S k ≤ pz S (f (at0 - 1))) := by
        intro a
        induction a with
        | zero => intro _ h0; exact ⟨0, Nat.zero_le _, h0, Or.inl rfl⟩
        | succ a ih =>
          intro ha h0
          by_cases c : pz S (f a) < pz S k
          · exact ih (by omega) (fun i h1 h2 => by
              by_cases e : i = a
              · rw [e]; exact c
              · exact h0 i (by omega) h2)
          · exact ⟨a + 1, ha, h0, Or.inr (by rw [Nat.add_sub_cancel]; omega)⟩
      obtain ⟨at0, h1, h2, h3⟩ := key m (Nat.le_refl _) (fun i h1 h2 => by omega)
      exact ⟨_, _, OR_ins h hk h1 h2 h3⟩
    · exact ⟨m, f, OR_skip h hk⟩
section MVS
variable {n pl nw w p j : Nat} {q : P2}
/-- what one place further may be -/
def MV (pl w : Nat) (q : P2) (p j : Nat) (r : Bool × P2) : Prop :=
  r = (false, q) ∨
  (¬ p + 1 = nN (q.1 2 j) + nN (q.1 0 j) ∧ p + 1 < pl ∧ r = (true, (up2 q.1 13 w (nI (p + 1)), q.2))) ∨
  (p + 1 = nN (q.1 2 j) + nN (q.1 0 j) ∧ p + 1 < pl ∧ 0 < q.2 3 j ∧ r = (true, (up2 (up2 q.1 8 j (q.1 8 j + nI 1)) 13 w (nI (p + 1)), up2 q.2 3 j (q.2 3 j - nI 1)))) ∨
  (p + 1 = nN (q.1 2 j) + nN (q.1 0 j) ∧ p + 1 = pl ∧ 0 < q.2 3 j ∧ r = (false, (up2 (up2 (up2 (up2 q.1 8 j (q.1 8 j + nI 1)) 13 w (-1)) 12 w (nI 2)) 15 w (q.1 17 0), up2 q.2 3 j (q.2 3 j - nI 1)))) ∨
  (p + 1 = nN (q.1 2 j) + nN (q.1 0 j) ∧ r = (false, (up2 q.1 9 j (q.1 9 j + nI 1), q.2)))
theorem g1_MV (h : RF n pl q.1) (hpl : pl ≤ 200) (hz : q.1 13 w = nI p) (hp : p < pl) (hj : j < n) (ha : nN (q.1 2 j) ≤ p) (hb : p < nN (q.1 2 j) + nN (q.1 0 j)) : MV pl w q p j (g1 n pl nw w q) := by
  obtain ⟨s9, k9⟩ := q
  have h : RF n pl s9 := h
  have hz : s9 13 w = nI p := hz
  have ha : nN (s9 2 j) ≤ p := ha
  have hb : p < nN (s9 2 j) + nN (s9 0 j) := hb
  unfold MV
  by_cases hwa : wa s9 nw (s9 13 w + nI 1) < 2
  · have ez : s9 13 w + nI 1 = nI (p + 1) := by rw [hz, nI_add]
    by_cases hc : p + 1 = nN (s9 2 j) + nN (s9 0 j)
    · have hse := gm_sc h hj hz hpl hp ha hb hc
      by_cases h3 : 0 < k9 3 j
      · by_cases he : p + 1 = pl
        · have hl : ¬ s9 13 w + nI 1 < nI pl := fun z => (gm_lt hz hpl hp).mp z he
          rw [gs_e hwa hse h3 hl, up2_r (by decide)]
          exact Or.inr (Or.inr (Or.inr (Or.inl ⟨hc, he, h3, rfl⟩)))
        · have hl : s9 13 w + nI 1 < nI pl := (gm_lt hz hpl hp).mpr he
          rw [gs_f hwa hse h3 hl, ez]
          exact Or.inr (Or.inr (Or.inl ⟨hc, by omega, h3, rfl⟩))
      · rw [gs_b hwa hse h3]
        exact Or.inr (Or.inr (Or.inr (Or.inr ⟨hc, rfl⟩)))
    · have hse := gm_sn h hj hz hpl hp ha hb hc
      have he : ¬ p + 1 = pl := fun z => hc (gm_ec h hj ha hb z)
      have hl : s9 13 w + nI 1 < nI pl := (gm_lt hz hpl hp).mpr he
      rw [gs_d hwa hse hl, ez]
      exact Or.inr (Or.inl ⟨hc, by omega, rfl⟩)
  · left
    unfold g1
    rw [if_pos (show 2 ≤ wa s9 nw (s9 13 w + nI 1) by omega)]
end MVS
theorem onS_cg {σ τ : Sg} {s k : Nat} (h0 : τ 0 = σ 0) (h2 : τ 2 = σ 2) (h12 : τ 12 k = σ 12 k) (h13 : τ 13 k = σ 13 k) : onS τ s k = onS σ s k := by
  unfold onS
  rw [h0, h2, h12, h13]
/-- what the corners let through since G: d of each stretch, e who had to stop -/
def SJ (n nw : Nat) (G : Sg) (L : Nat → Nat) (c : Nat) (q : P2) : Prop := ∃ d e : Nat → Nat,
  (∀ s, s < n → q.1 8 s = G 8 s + nI (d s) ∧ q.1 9 s = G 9 s + nI (e s) ∧ q.2 3 s = nI (L s - d s) ∧ d s ≤ L s ∧ e s ≤ c) ∧
  (∀ s, s < n → on q.1 nw s + d s = on G nw s + (if s = 0 then 0 else d (s - 1))) ∧ hm q.1 nw (nI 2) = hm G nw (nI 2) + d (n - 1)
section SJS
variable {n pl nw w p j c : Nat} {G s9 k9 : Sg} {L : Nat → Nat}
theorem SJ_mono {q : P2} {c' : Nat} (h : SJ n nw G L c q) (hc : c ≤ c') : SJ n nw G L c' q := by
  obtain ⟨d, e, h1, h2, h3⟩ := h
  exact ⟨d, e, fun s hs => by obtain ⟨a, b, x, y, z⟩ := h1 s hs; exact ⟨a, b, x, y, by omega⟩, h2, h3⟩
theorem nI_s1 {x : Int32} {a : Nat} : x + nI a + nI 1 = x + nI (a + 1) := by rw [Int32.add_assoc, nI_add]
theorem SJ_d (hS : SJ n nw G L c (s9, k9)) (hRF : RF n pl s9) (hpl : pl ≤ 200) (hw : w < nw) (hj : j < n) (hwk : s9 12 w = nI 1) (hz : s9 13 w = nI p) (hp : p + 1 < pl) (ha : nN (s9 2 j) ≤ p) (hb : p < nN (s9 2 j) + nN (s9 0 j)) (hc : ¬ p + 1 = nN (s9 2 j) + nN (s9 0 j)) : SJ n nw G L c (up2 s9 13 w (nI (p + 1)), k9) := by
  obtain ⟨d, e, h1, h2, h3⟩ := hS
  have r0 : up2 s9 13 w (nI (p + 1)) 0 = s9 0 := up2_r (by decide)
  have r2 : up2 s9 13 w (nI (p + 1)) 2 = s9 2 := up2_r (by decide)
  have r12 : up2 s9 13 w (nI (p + 1)) 12 = s9 12 := up2_r (by decide)
  have hon : ∀ s, s < n → on (up2 s9 13 w (nI (p + 1))) nw s = on s9 nw s := fun s hs => cnt_congr (fun k hk => by
    by_cases ek : k = w
    · rw [ek, onS_at (RF_rows hRF r0 r2) hpl hs hj (by rw [r12]; exact hwk) up2_in' hp (by rw [r2]; omega) (by rw [r2, r0]; omega), onS_at hRF hpl hs hj hwk hz (by omega) ha hb]
    · exact onS_cg r0 r2 (congrFun r12 k) (up2_o ek))
  refine ⟨d, e, fun s hs => ?_, fun s hs => ?_, ?_⟩
  · show up2 s9 13 w (nI (p + 1)) 8 s = _ ∧ up2 s9 13 w (nI (p + 1)) 9 s = _ ∧ _
    rw [up2_r (by decide), up2_r (by decide)]
    exact h1 s hs
  · show on (up2 s9 13 w (nI (p + 1))) nw s + d s = _
    rw [hon s hs]
    exact h2 s hs
  · show cnt (hmS (up2 s9 13 w (nI (p + 1))) (nI 2)) nw = _
    unfold hmS
    rw [r12]
    exact h3
theorem SJ_f (hS : SJ n nw G L c (s9, k9)) (hRF : RF n pl s9) (hpl : pl ≤ 200) (hw : w < nw) (hj : j < n) (hwk : s9 12 w = nI 1) (hz : s9 13 w = nI p) (hp : p + 1 < pl) (ha : nN (s9 2 j) ≤ p) (hb : p < nN (s9 2 j) + nN (s9 0 j)) (hc : p + 1 = nN (s9 2 j) + nN (s9 0 j)) (h0 : 0 < k9 3 j) (hL : ∀ s, s < n → L s ≤ 10) : SJ n nw G L c (up2 (up2 s9 8 j (s9 8 j + nI 1)) 13 w (nI (p + 1)), up2 k9 3 j (k9 3 j - nI 1)) := by
  obtain ⟨d, e, h1, h2, h3⟩ := hS
  have hj1 : j + 1 < n := by
    by_cases q : j + 1 = n
    · have := hRF.2.2.2.1 (by omega)
      rw [← q, Nat.add_sub_cancel] at this
      omega
    · omega
  have hF := hRF.2.2.1 j hj1
  have hL1 := (hRF.1 (j + 1) hj1).2.2.1
  generalize hτ : up2 (up2 s9 8 j (s9 8 j + nI 1)) 13 w (nI (p + 1)) = τ
  have r : ∀ r, r ≠ 8 → r ≠ 13 → τ r = s9 r := fun r a b => by rw [← hτ, up2_r b, up2_r a]
  have r0 := r 0 (by decide) (by decide)
  have r2 := r 2 (by decide) (by decide)
  have r12 := r 12 (by decide) (by decide)
  have z1 : τ 13 w = nI (p + 1) := by rw [← hτ]; exact up2_in'
  have hon : ∀ s, s < n → on τ nw s + (if j = s then 1 else 0) = on s9 nw s + (if j + 1 = s then 1 else 0) := fun s hs => by
    have := cnt_ch (p := onS s9 s) (p' := onS τ s) hw (fun k _ ek => onS_cg r0 r2 (congrFun r12 k) (by rw [← hτ, up2_o ek, up2_r (by decide)]))
    rw [onS_at hRF hpl hs hj hwk hz (by omega) ha hb, onS_at (RF_rows hRF r0 r2) hpl hs hj1 (by rw [r12]; exact hwk) z1 hp (by rw [r2]; omega) (by rw [r2, r0]; omega)] at this
    simp only [decide_eq_true_eq] at this
    exact this
  obtain ⟨a1, a2, a3, a4, a5⟩ := h1 j hj
  have a3 : k9 3 j = nI (L j - d j) := a3
  have hlt : 0 < L j - d j := by
    rw [a3] at h0
    exact (nI_ltI (a := 0) (by decide) (by have := hL j hj; omega)).mp h0
  refine ⟨updN d j (d j + 1), e, fun s hs => ?_, fun s hs => ?_, ?_⟩
  · show τ 8 s = _ ∧ τ 9 s = _ ∧ up2 k9 3 j (k9 3 j - nI 1) 3 s = _ ∧ _
    rw [r 9 (by decide) (by decide), show τ 8 = up2 s9 8 j (s9 8 j + nI 1) 8 by rw [← hτ]; exact up2_r (by decide)]
    by_cases es : s = j
    · subst es
      unfold updN
      rw [up2_in', up2_in', if_pos rfl, a3, show s9 8 s = _ from a1, nI_s1, pk_sub (by omega)]
      exact ⟨rfl, a2, by congr 1, by omega, a5⟩
    · unfold updN
      rw [up2_o es, up2_o es, if_neg es]
      exact h1 s hs
  · show on τ nw s + updN d j (d j + 1) s = _
    have q1 := hon s hs
    have q2 : on s9 nw s + d s = on G nw s + (if s = 0 then 0 else d (s - 1)) := h2 s hs
    unfold updN
    by_cases es : s = j
    · subst es
      rw [if_pos rfl]
      rw [if_pos rfl, if_neg (by omega)] at q1
      by_cases e0 : s = 0
      · rw [if_pos e0] at q2 ⊢
        omega
      · rw [if_neg e0] at q2 ⊢
        rw [if_neg (by omega)]
        omega
    · rw [if_neg es]
      rw [if_neg (fun z => es z.symm)] at q1
      by_cases e0 : s = 0
      · rw [if_pos e0] at q2 ⊢
        rw [if_neg (by omega)] at q1
        omega
      · rw [if_neg e0] at q2 ⊢
        by_cases e1 : j + 1 = s
        · rw [if_pos e1] at q1
          rw [if_pos (by omega), show j = s - 1 by omega]
          omega
        · rw [if_neg e1] at q1
          rw [if_neg (by omega)]
          omega
  · show cnt (hmS τ (nI 2)) nw = _
    unfold hmS updN
    rw [r12, if_neg (by omega)]
    exact h3
theorem SJ_e (hS : SJ n nw G L c (s9, k9)) (hRF : RF n pl s9) (hpl : pl ≤ 200) (hw : w < nw) (hj : j < n) (hwk : s9 12 w = nI 1) (hz : s9 13 w = nI p) (hp : p + 1 = pl) (ha : nN (s9 2 j) ≤ p) (hb : p < nN (s9 2 j) + nN (s9 0 j)) (hc : p + 1 = nN (s9 2 j) + nN (s9 0 j)) (h0 : 0 < k9 3 j) (hL : ∀ s, s < n → L s ≤ 10) {v : Int32} : SJ n nw G L c (up2 (up2 (up2 (up2 s9 8 j (s9 8 j + nI 1)) 13 w (-1)) 12 w (nI 2)) 15 w v, up2 k9 3 j (k9 3 j - nI 1)) := by
  obtain ⟨d, e, h1, h2, h3⟩ := hS
  have hj1 : j = n - 1 := by
    by_cases q : j = n - 1
    · exact q
    · have h4 := RF_mono hRF (s := j) (t := n - 1) (by omega) (by omega)
      have h5 := hRF.2.2.2.1 (by omega)
      have h6 := (hRF.1 (n - 1) (by omega)).2.2.1
      omega
  generalize hτ : up2 (up2 (up2 (up2 s9 8 j (s9 8 j + nI 1)) 13 w (-1)) 12 w (nI 2)) 15 w v = τ
  have r : ∀ r, r ≠ 8 → r ≠ 13 → r ≠ 12 → r ≠ 15 → τ r = s9 r := fun r a b c d => by rw [← hτ, up2_r d, up2_r c, up2_r b, up2_r a]
  have r0 := r 0 (by decide) (by decide) (by decide) (by decide)
  have r2 := r 2 (by decide) (by decide) (by decide) (by decide)
  have z12 : τ 12 w = nI 2 := by rw [← hτ, up2_r (by decide), up2_in']
  have o12 : ∀ k, k ≠ w → τ 12 k = s9 12 k := fun k ek => by rw [← hτ, up2_r (by decide), up2_o ek, up2_r (by decide), up2_r (by decide)]
  have o13 : ∀ k, k ≠ w → τ 13 k = s9 13 k := fun k ek => by rw [← hτ, up2_r (by decide), up2_r (by decide), up2_o ek, up2_r (by decide)]
  have hon : ∀ s, s < n → on τ nw s + (if j = s then 1 else 0) = on s9 nw s := fun s hs => by
    have := cnt_ch (p := onS s9 s) (p' := onS τ s) hw (fun k _ ek => onS_cg r0 r2 (o12 k ek) (o13 k ek))
    rw [onS_at hRF hpl hs hj hwk hz (by omega) ha hb, onS_no (σ := τ) (by rw [z12]; decide)] at this
    simp only [decide_eq_true_eq] at this
    exact this
  obtain ⟨a1, a2, a3, a4, a5⟩ := h1 j hj
  have a3 : k9 3 j = nI (L j - d j) := a3
  have hlt : 0 < L j - d j := by
    rw [a3] at h0
    exact (nI_ltI (a := 0) (by decide) (by have := hL j hj; omega)).mp h0
  refine ⟨updN d j (d j + 1), e, fun s hs => ?_, fun s hs => ?_, ?_⟩
  · show τ 8 s = _ ∧ τ 9 s = _ ∧ up2 k9 3 j (k9 3 j - nI 1) 3 s = _ ∧ _
    rw [r 9 (by decide) (by decide) (by decide) (by decide), show τ 8 = up2 s9 8 j (s9 8 j + nI 1) 8 by rw [← hτ, up2_r (by decide), up2_r (by decide), up2_r (by decide)]]
    by_cases es : s = j
    · subst es
      unfold updN
      rw [up2_in', up2_in', if_pos rfl, a3, show s9 8 s = _ from a1, nI_s1, pk_sub (by omega)]
      exact ⟨rfl, a2, by congr 1, by omega, a5⟩
    · unfold updN
      rw [up2_o es, up2_o es, if_neg es]
      exact h1 s hs
  · show on τ nw s + updN d j (d j + 1) s = _
    have q1 := hon s hs
    have q2 : on s9 nw s + d s = on G nw s + (if s = 0 then 0 else d (s - 1)) := h2 s hs
    unfold updN
    by_cases es : s = j
    · subst es
      rw [if_pos rfl]
      rw [if_pos rfl] at q1
      by_cases e0 : s = 0
      · rw [if_pos e0] at q2 ⊢
        omega
      · rw [if_neg e0] at q2 ⊢
        rw [if_neg (by omega)]
        omega
    · rw [if_neg es]
      rw [if_neg (fun z => es z.symm)] at q1
      by_cases e0 : s = 0
      · rw [if_pos e0] at q2 ⊢
        omega
      · rw [if_neg e0] at q2 ⊢
        rw [if_neg (by omega)]
        omega
  · show cnt (hmS τ (nI 2)) nw = _
    have := cnt_ch (p := hmS s9 (nI 2)) (p' := hmS τ (nI 2)) hw (fun k _ ek => by unfold hmS; rw [o12 k ek])
    have q1 : hmS s9 (nI 2) w = false := by unfold hmS; rw [hwk]; decide
    have q2 : hmS τ (nI 2) w = true := by unfold hmS; rw [z12]; decide
    rw [q1, q2] at this
    simp at this
    have h3 : cnt (hmS s9 (nI 2)) nw = hm G nw (nI 2) + d (n - 1) := h3
    unfold updN
    rw [if_pos hj1.symm, hj1]
    omega
theorem SJ_b (hS : SJ n nw G L c (s9, k9)) : SJ n nw G L (c + 1) (up2 s9 9 j (s9 9 j + nI 1), k9) := by
  obtain ⟨d, e, h1, h2, h3⟩ := hS
  refine ⟨d, updN e j (e j + 1), fun s hs => ?_, fun s hs => ?_, ?_⟩
  · show up2 s9 9 j (s9 9 j + nI 1) 8 s = _ ∧ up2 s9 9 j (s9 9 j + nI 1) 9 s = _ ∧ _
    obtain ⟨a1, a2, a3, a4, a5⟩ := h1 s hs
    have a2 : s9 9 s = G 9 s + nI (e s) := a2
    rw [up2_r (by decide)]
    unfold updN
    by_cases es : s = j
    · subst es
      rw [up2_in', if_pos rfl, a2, nI_s1]
      exact ⟨a1, rfl, a3, a4, by omega⟩
    · rw [up2_o es, if_neg es]
      exact ⟨a1, a2, a3, a4, by omega⟩
  · show on (up2 s9 9 j (s9 9 j + nI 1)) nw s + d s = _
    rw [show on (up2 s9 9 j (s9 9 j + nI 1)) nw s = on s9 nw s from cnt_congr (fun k _ => onS_cg (up2_r (by decide)) (up2_r (by decide)) (congrFun (up2_r (by decide)) k) (congrFun (up2_r (by decide)) k))]
    exact h2 s hs
  · show cnt (hmS (up2 s9 9 j (s9 9 j + nI 1)) (nI 2)) nw = _
    unfold hmS
    rw [up2_r (by decide)]
    exact h3
end SJS
/-- where a walker is who stood at p and could go m places -/
def WR (pl m p : Nat) (i15 t17 : Int32) (s12 s13 s15 : Int32) : Prop := (∃ d, d ≤ m ∧ p + d < pl ∧ s12 = nI 1 ∧ s13 = nI (p + d) ∧ s15 = i15) ∨ (s12 = nI 2 ∧ s13 = -1 ∧ s15 = t17)
theorem wl_all {n pl nw w : Nat} {G : Sg} {L : Nat → Nat} (hpl : pl ≤ 200) (hw : w < nw) (hL : ∀ s, s < n → L s ≤ 10) : ∀ (m p c : Nat) (q : P2), RF n pl q.1 → q.1 12 w = nI 1 → q.1 13 w = nI p → p < pl → SJ n nw G L c q →
    WR pl m p (q.1 15 w) (q.1 17 0) ((wl n pl nw w m (true, q)).2.1 12 w) ((wl n pl nw w m (true, q)).2.1 13 w) ((wl n pl nw w m (true, q)).2.1 15 w) ∧ (∀ o, o ≠ w → (wl n pl nw w m (true, q)).2.1 15 o = q.1 15 o) ∧ SJ n nw G L (c + 1) (wl n pl nw w m (true, q)).2
  | 0, p, c, q, _, h12, h13, hp, hS => ⟨Or.inl ⟨0, Nat.le_refl _, hp, h12, h13, rfl⟩, fun _ _ => rfl, SJ_mono hS (Nat.le_succ _)⟩
  | m + 1, p, c, q, hRF, h12, h13, hp, hS => by
    obtain ⟨j, hj, -, ha, hb⟩ := RF_on hRF hpl hp
    have hM := g1_MV (nw := nw) hRF hpl h13 hp hj ha hb
    have e : wl n pl nw w (m + 1) (true, q) = wl n pl nw w m (g1 n pl nw w q) := by simp only [wl]; rfl
    rw [e]
    rcases hM with h | ⟨hc, hp1, h⟩ | ⟨hc, hp1, h0, h⟩ | ⟨hc, hp1, h0, h⟩ | ⟨hc, h⟩ <;> rw [h]
    · rw [wl_f]
      exact ⟨Or.inl ⟨0, Nat.zero_le _, hp, h12, h13, rfl⟩, fun _ _ => rfl, SJ_mono hS (Nat.le_succ _)⟩
    · have r : ∀ r, r ≠ 13 → up2 q.1 13 w (nI (p + 1)) r = q.1 r := fun r a => up2_r a
      obtain ⟨k1, k2, k3⟩ := wl_all hpl hw hL m (p + 1) c (up2 q.1 13 w (nI (p + 1)), q.2) (RF_rows hRF (show up2 q.1 13 w (nI (p + 1)) 0 = q.1 0 from up2_r (by decide)) (show up2 q.1 13 w (nI (p + 1)) 2 = q.1 2 from up2_r (by decide))) (by show up2 q.1 13 w (nI (p + 1)) 12 w = _; rw [up2_r (by decide)]; exact h12) (by show up2 q.1 13 w (nI (p + 1)) 13 w = _; exact up2_in') hp1 (SJ_d hS hRF hpl hw hj h12 h13 hp1 ha hb hc)
      refine ⟨?_, fun o ho => (k2 o ho).trans (congrFun (r 15 (by decide)) o), k3⟩
      rcases k1 with ⟨d, d1, d2, d3, d4, d5⟩ | ⟨d1, d2, d3⟩
      · exact Or.inl ⟨d + 1, by omega, by omega, d3, by rw [d4]; congr 1; omega, d5.trans (congrFun (r 15 (by decide)) w)⟩
      · exact Or.inr ⟨d1, d2, d3.trans (congrFun (r 17 (by decide)) 0)⟩
    · have r : ∀ r, r ≠ 8 → r ≠ 13 → up2 (up2 q.1 8 j (q.1 8 j + nI 1)) 13 w (nI (p + 1)) r = q.1 r := fun r a b => by rw [up2_r b, up2_r a]
      obtain ⟨k1, k2, k3⟩ := wl_all hpl hw hL m (p + 1) c (up2 (up2 q.1 8 j (q.1 8 j + nI 1)) 13 w (nI (p + 1)), up2 q.2 3 j (q.2 3 j - nI 1)) (RF_rows hRF (r 0 (by decide) (by decide)) (r 2 (by decide) (by decide))) (by show up2 (up2 q.1 8 j (q.1 8 j + nI 1)) 13 w (nI (p + 1)) 12 w = _; rw [r 12 (by decide) (by decide)]; exact h12) (by show up2 (up2 q.1 8 j (q.1 8 j + nI 1)) 13 w (nI (p + 1)) 13 w = _; exact up2_in') hp1 (SJ_f hS hRF hpl hw hj h12 h13 hp1 ha hb hc h0 hL)
      refine ⟨?_, fun o ho => (k2 o ho).trans (congrFun (r 15 (by decide) (by decide)) o), k3⟩
      rcases k1 with ⟨d, d1, d2, d3, d4, d5⟩ | ⟨d1, d2, d3⟩
      · exact Or.inl ⟨d + 1, by omega, by omega, d3, by rw [d4]; congr 1; omega, d5.trans (congrFun (r 15 (by decide) (by decide)) w)⟩
      · exact Or.inr ⟨d1, d2, d3.trans (congrFun (r 17 (by decide) (by decide)) 0)⟩
    · rw [wl_f]
      refine ⟨Or.inr ⟨?_, ?_, by show up2 _ 15 w _ 15 w = _; exact up2_in'⟩, fun o ho => ?_, SJ_mono (SJ_e hS hRF hpl hw hj h12 h13 hp1 ha hb hc h0 hL) (Nat.le_succ _)⟩
      · show up2 (up2 (up2 (up2 q.1 8 j (q.1 8 j + nI 1)) 13 w (-1)) 12 w (nI 2)) 15 w (q.1 17 0) 12 w = _
        rw [up2_r (by decide), up2_in']
      · show up2 (up2 (up2 (up2 q.1 8 j (q.1 8 j + nI 1)) 13 w (-1)) 12 w (nI 2)) 15 w (q.1 17 0) 13 w = _
        rw [up2_r (by decide), up2_r (by decide), up2_in']
      · show up2 (up2 (up2 (up2 q.1 8 j (q.1 8 j + nI 1)) 13 w (-1)) 12 w (nI 2)) 15 w (q.1 17 0) 15 o = _
        rw [up2_o ho, up2_r (by decide), up2_r (by decide), up2_r (by decide)]
    · rw [wl_f]
      have r : ∀ r, r ≠ 9 → up2 q.1 9 j (q.1 9 j + nI 1) r = q.1 r := fun r a => up2_r a
      exact ⟨Or.inl ⟨0, Nat.zero_le _, hp, (congrFun (r 12 (by decide)) w).trans h12, (congrFun (r 13 (by decide)) w).trans h13, congrFun (r 15 (by decide)) w⟩, fun o _ => congrFun (r 15 (by decide)) o, SJ_b hS⟩
