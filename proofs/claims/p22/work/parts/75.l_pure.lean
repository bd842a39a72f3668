/-! WHAT isSame COUNTS: first and last, histograms, the commonest from above -/
def lz (σ : Sg) : Nat → Int32
  | 0 => nI 999
  | k + 1 => if σ 12 k = nI 1 then (if σ 13 k < lz σ k then σ 13 k else lz σ k) else lz σ k
theorem fl_in {pl nw : Nat} {σ : Sg} (hPB : PB pl nw σ) (hpl : pl ≤ 200) : ∀ k, k ≤ nw → (fm σ k = -1 ∧ lz σ k = nI 999 ∧ ∀ F, ls_ σ F k = F) ∨ ∃ a b, b ≤ a ∧ a < 200 ∧ fm σ k = nI a ∧ lz σ k = nI b ∧ ∀ F, a ≤ F → F < 1000 → ls_ σ (nI F) k = nI b
  | 0, _ => Or.inl ⟨rfl, rfl, fun _ => rfl⟩
  | k + 1, hk => by
    have ih := fl_in hPB hpl k (by omega)
    by_cases hw : σ 12 k = nI 1
    · obtain ⟨p, hp, e⟩ := hPB k (by omega) hw
      right
      rcases ih with ⟨h1, h2, h3⟩ | ⟨a, b, hba, ha, h1, h2, h3⟩
      · refine ⟨p, p, Nat.le_refl _, by omega, ?_, ?_, fun F hF hF2 => ?_⟩
        · show (if σ 12 k = nI 1 ∧ ¬ σ 13 k ≤ fm σ k then σ 13 k else fm σ k) = nI p
          rw [h1, e, if_pos ⟨hw, Int32.not_le.mpr (m1_lt (by omega))⟩]
        · show (if σ 12 k = nI 1 then (if σ 13 k < lz σ k then σ 13 k else lz σ k) else lz σ k) = nI p
          rw [h2, e, if_pos hw, if_pos ((nI_ltI (by omega) (by omega)).mpr (by omega))]
        · show (if σ 12 k = nI 1 ∧ ¬ ls_ σ (nI F) k ≤ σ 13 k then σ 13 k else ls_ σ (nI F) k) = nI p
          rw [h3, e]
          split
          · rfl
          · rename_i q
            rw [nI_leI (by omega) (by omega)] at q
            rw [show F = p by rcases Nat.lt_or_ge p F with r | r; exact absurd ⟨hw, by omega⟩ q; omega]
      · refine ⟨max a p, min b p, by omega, by omega, ?_, ?_, fun F hF hF2 => ?_⟩
        · show (if σ 12 k = nI 1 ∧ ¬ σ 13 k ≤ fm σ k then σ 13 k else fm σ k) = _
          rw [h1, e]
          split
          · rename_i q
            rw [nI_leI (by omega) (by omega)] at q
            rw [show max a p = p by omega]
          · rename_i q
            rw [nI_leI (by omega) (by omega)] at q
            rw [show max a p = a by rcases Nat.lt_or_ge a p with r | r; exact absurd ⟨hw, by omega⟩ q; omega]
        · show (if σ 12 k = nI 1 then (if σ 13 k < lz σ k then σ 13 k else lz σ k) else lz σ k) = _
          rw [h2, e, if_pos hw]
          split
          · rename_i q
            rw [nI_ltI (by omega) (by omega)] at q
            rw [show min b p = p by omega]
          · rename_i q
            rw [nI_ltI (by omega) (by omega)] at q
            rw [show min b p = b by omega]
        · show (if σ 12 k = nI 1 ∧ ¬ ls_ σ (nI F) k ≤ σ 13 k then σ 13 k else ls_ σ (nI F) k) = _
          rw [h3 F (by omega) hF2, e]
          split
          · rename_i q
            rw [nI_leI (by omega) (by omega)] at q
            rw [show min b p = p by omega]
          · rename_i q
            rw [nI_leI (by omega) (by omega)] at q
            rw [show min b p = b by rcases Nat.lt_or_ge p b with r | r; exact absurd ⟨hw, by omega⟩ q; omega]
    · rcases ih with ⟨h1, h2, h3⟩ | ⟨a, b, hba, ha, h1, h2, h3⟩
      · left
        refine ⟨?_, ?_, fun F => ?_⟩
        · show (if σ 12 k = nI 1 ∧ _ then _ else _) = _
          rw [if_neg (fun z => hw z.1), h1]
        · show (if σ 12 k = nI 1 then _ else _) = _
          rw [if_neg hw, h2]
        · show (if σ 12 k = nI 1 ∧ _ then _ else _) = _
          rw [if_neg (fun z => hw z.1), h3]
      · right
        refine ⟨a, b, hba, ha, ?_, ?_, fun F hF hF2 => ?_⟩
        · show (if σ 12 k = nI 1 ∧ _ then _ else _) = _
          rw [if_neg (fun z => hw z.1), h1]
        · show (if σ 12 k = nI 1 then _ else _) = _
          rw [if_neg hw, h2]
        · show (if σ 12 k = nI 1 ∧ _ then _ else _) = _
          rw [if_neg (fun z => hw z.1), h3 F hF hF2]
theorem fl_y {pl nw : Nat} {σ : Sg} (hPB : PB pl nw σ) (hpl : pl ≤ 200) (h : 0 ≤ fm σ nw) : fm σ nw - lz σ nw = fm σ nw - ls_ σ (fm σ nw) nw := by
  rcases fl_in hPB hpl nw (Nat.le_refl _) with ⟨h1, h2, h3⟩ | ⟨a, b, hba, ha, h1, h2, h3⟩
  · rw [h1] at h; exact absurd h (by decide)
  · rw [h1, h2, h3 a (Nat.le_refl _) (by omega)]
theorem fl_n {pl nw : Nat} {σ : Sg} (hPB : PB pl nw σ) (hpl : pl ≤ 200) (h : ¬ 0 ≤ fm σ nw) : nI 0 = fm σ nw - ls_ σ (fm σ nw) nw := by
  rcases fl_in hPB hpl nw (Nat.le_refl _) with ⟨h1, h2, h3⟩ | ⟨a, b, hba, ha, h1, h2, h3⟩
  · rw [h3, h1]; rfl
  · rw [h1] at h
    exact absurd ((nI_leI (a := 0) (by decide) (by omega)).mpr (Nat.zero_le _)) h
/-- the histogram of a song's versions -/
def hiS (σ : Sg) (s o : Nat) : Nat → Int32 := fun v => nI (cnt (kvS σ s (nI v)) o)
def K9 (nw : Nat) (σ : Sg) : Prop := ∀ w s, w < nw → s < 6 → ∃ m, m ≤ 99 ∧ σ 16 (6 * w + s) = nI m
theorem K9_nN {nw w s : Nat} {σ : Sg} (h : K9 nw σ) (hw : w < nw) (hs : s < 6) : σ 16 (6 * w + s) = nI (nN (σ 16 (6 * w + s))) ∧ nN (σ 16 (6 * w + s)) ≤ 99 := by
  obtain ⟨m, h1, h2⟩ := h w s hw hs
  rw [h2, nN_nI (by omega)]
  exact ⟨rfl, h1⟩
theorem hiS_s {nw s o : Nat} {σ : Sg} (h : K9 nw σ) (ho : o < nw) (hs : s < 6) (v : Nat) (hv : v < 100) : upd (hiS σ s o) (nN (σ 16 (6 * o + s))) (hiS σ s o (nN (σ 16 (6 * o + s))) + nI 1) v = hiS σ s (o + 1) v := by
  obtain ⟨h1, h2⟩ := K9_nN h ho hs
  generalize hm : nN (σ 16 (6 * o + s)) = m at h1 h2
  unfold upd hiS
  by_cases q : v = m
  · subst q
    rw [if_pos rfl, nI_add]
    exact cnt_t (by unfold kvS; rw [h1]; simp)
  · rw [if_neg q]
    exact cnt_f (by unfold kvS; rw [h1, decide_eq_false]; exact fun z => q ((nI_eq (by omega) (by omega)).mp z).symm)
theorem hiS_0 {σ : Sg} {s : Nat} : (fun _ => 0 : Nat → Int32) = hiS σ s 0 := rfl
theorem cnt_le2 {p : Nat → Bool} {a b : Nat} (h : a ≤ b) : cnt p a ≤ cnt p b := by
  obtain ⟨d, rfl⟩ : ∃ d, b = a + d := ⟨b - a, by omega⟩
  rw [cnt_add]
  omega
theorem vs_t {σ : Sg} {nw s v : Nat} (hv : v < 99) (h : 0 < cnt (kvS σ s (nI (v + 1))) nw) : nI (vs σ nw s - cnt (vsS σ nw s) (v + 1) + 1) = nI (vs σ nw s - cnt (vsS σ nw s) v) := by
  have h1 : cnt (vsS σ nw s) (v + 1) = cnt (vsS σ nw s) v + 1 := by
    have : vsS σ nw s v = true := by unfold vsS; rw [decide_eq_true]; exact h
    simp [cnt, this]
  have h2 : cnt (vsS σ nw s) (v + 1) ≤ vs σ nw s := cnt_le2 (by omega)
  congr 1
  omega
theorem vs_f {σ : Sg} {nw s v : Nat} (h : cnt (kvS σ s (nI (v + 1))) nw = 0) : nI (vs σ nw s - cnt (vsS σ nw s) (v + 1) + 0) = nI (vs σ nw s - cnt (vsS σ nw s) v) := by
  have h1 : cnt (vsS σ nw s) (v + 1) = cnt (vsS σ nw s) v := by
    have : vsS σ nw s v = false := by unfold vsS kv; rw [h]; simp
    simp [cnt, this]
  rw [h1]
  rfl
/-- the commonest, counted down from 99 -/
def mst (f : Nat → Nat) : Nat → Nat
  | 0 => 0
  | d + 1 => if 0 < f (99 - d) ∧ (mst f d = 0 ∨ f (mst f d) ≤ f (99 - d)) then 99 - d else mst f d
theorem mst_in (f : Nat → Nat) : ∀ d, d ≤ 99 → (mst f d = 0 ∧ ∀ x, 99 - d < x → x ≤ 99 → f x = 0) ∨ (99 - d < mst f d ∧ mst f d ≤ 99 ∧ 0 < f (mst f d) ∧ ∀ x, 99 - d < x → x ≤ 99 → f x ≤ f (mst f d) ∧ (x < mst f d → f x < f (mst f d)))
  | 0, _ => Or.inl ⟨rfl, fun x h1 h2 => by omega⟩
  | d + 1, hd => by
    have ih := mst_in f d (by omega)
    by_cases c : 0 < f (99 - d) ∧ (mst f d = 0 ∨ f (mst f d) ≤ f (99 - d))
    · have e : mst f (d + 1) = 99 - d := if_pos c
      rw [e]
      right
      refine ⟨by omega, by omega, c.1, fun x h1 h2 => ⟨?_, fun h3 => by omega⟩⟩
      by_cases q : x = 99 - d
      · rw [q]; exact Nat.le_refl _
      · rcases ih with ⟨i1, i2⟩ | ⟨i1, i2, i3, i4⟩
        · rw [i2 x (by omega) h2]; omega
        · rcases c.2 with z | z
          · omega
          · exact Nat.le_trans (i4 x (by omega) h2).1 z
    · have e : mst f (d + 1) = mst f d := if_neg c
      rw [e]
      rcases ih with ⟨i1, i2⟩ | ⟨i1, i2, i3, i4⟩
      · left
        refine ⟨i1, fun x h1 h2 => ?_⟩
        by_cases q : x = 99 - d
        · rw [q]
          rcases Nat.eq_zero_or_pos (f (99 - d)) with z | z
          · exact z
          · exact absurd ⟨z, Or.inl i1⟩ c
        · exact i2 x (by omega) h2
      · right
        refine ⟨by omega, i2, i3, fun x h1 h2 => ?_⟩
        by_cases q : x = 99 - d
        · rw [q]
          rcases Nat.lt_or_ge (f (99 - d)) (f (mst f d)) with z | z
          · exact ⟨by omega, fun _ => z⟩
          · exact absurd ⟨by omega, Or.inr z⟩ c
        · exact i4 x (by omega) h2
theorem cm_in (σ : Sg) (nw s : Nat) : ∀ k, (∀ x, 1 ≤ x → x ≤ k → kv σ nw s (nI x) = 0) ∧ cm σ nw s k = (0, 0) ∨ (1 ≤ (cm σ nw s k).1 ∧ (cm σ nw s k).1 ≤ k ∧ (cm σ nw s k).2 = kv σ nw s (nI (cm σ nw s k).1) ∧ 0 < (cm σ nw s k).2 ∧ ∀ x, 1 ≤ x → x ≤ k → kv σ nw s (nI x) ≤ (cm σ nw s k).2 ∧ (x < (cm σ nw s k).1 → kv σ nw s (nI x) < (cm σ nw s k).2))
  | 0 => Or.inl ⟨fun x h1 h2 => by omega, rfl⟩
  | k + 1 => by
    have ih := cm_in σ nw s k
    by_cases c : (cm σ nw s k).2 < kv σ nw s (nI (k + 1))
    · have e : cm σ nw s (k + 1) = (k + 1, kv σ nw s (nI (k + 1))) := if_pos c
      rw [e]
      right
      refine ⟨by show 1 ≤ k + 1; omega, Nat.le_refl _, rfl, by show 0 < kv σ nw s (nI (k + 1)); omega, fun x h1 h2 => ?_⟩
      show kv σ nw s (nI x) ≤ kv σ nw s (nI (k + 1)) ∧ (x < k + 1 → kv σ nw s (nI x) < kv σ nw s (nI (k + 1)))
      by_cases q : x = k + 1
      · rw [q]; exact ⟨Nat.le_refl _, fun z => absurd z (Nat.lt_irrefl _)⟩
      · have : kv σ nw s (nI x) < kv σ nw s (nI (k + 1)) := by
          rcases ih with ⟨i1, i2⟩ | ⟨i1, i2, i3, i4, i5⟩
          · rw [i1 x h1 (by omega)]; omega
          · exact Nat.lt_of_le_of_lt (i5 x h1 (by omega)).1 c
        exact ⟨by omega, fun _ => this⟩
    · have e : cm σ nw s (k + 1) = cm σ nw s k := if_neg c
      rw [e]
      rcases ih with ⟨i1, i2⟩ | ⟨i1, i2, i3, i4, i5⟩
      · left
        refine ⟨fun x h1 h2 => ?_, i2⟩
        by_cases q : x = k + 1
        · rw [q]
          have c : ¬ (cm σ nw s k).2 < kv σ nw s (nI (k + 1)) := c
          rw [i2] at c
          have c : ¬ 0 < kv σ nw s (nI (k + 1)) := c
          omega
        · exact i1 x h1 (by omega)
      · right
        refine ⟨i1, by omega, i3, i4, fun x h1 h2 => ?_⟩
        by_cases q : x = k + 1
        · rw [q]; exact ⟨by omega, fun z => by omega⟩
        · exact i5 x h1 (by omega)
theorem mst_cm {σ : Sg} {nw s : Nat} : mst (fun x => kv σ nw s (nI x)) 99 = (cm σ nw s 99).1 := by
  rcases mst_in (fun x => kv σ nw s (nI x)) 99 (Nat.le_refl _) with ⟨a1, a2⟩ | ⟨a1, a2, a3, a4⟩ <;> rcases cm_in σ nw s 99 with ⟨b1, b2⟩ | ⟨b1, b2, b3, b4, b5⟩
  · rw [a1, b2]
  · have := a2 _ (show 99 - 99 < (cm σ nw s 99).1 by omega) b2
    have this : kv σ nw s (nI (cm σ nw s 99).1) = 0 := this
    omega
  · have := b1 _ (show 1 ≤ mst (fun x => kv σ nw s (nI x)) 99 by omega) a2
    have a3 : 0 < kv σ nw s (nI (mst (fun x => kv σ nw s (nI x)) 99)) := a3
    omega
  · generalize mst (fun x => kv σ nw s (nI x)) 99 = m at a1 a2 a3 a4
    have c1 := a4 (cm σ nw s 99).1 (by omega) b2
    have c1 : kv σ nw s (nI (cm σ nw s 99).1) ≤ kv σ nw s (nI m) ∧ ((cm σ nw s 99).1 < m → kv σ nw s (nI (cm σ nw s 99).1) < kv σ nw s (nI m)) := c1
    have c2 := b5 m (by omega) a2
    rw [b3] at c2
    rcases Nat.lt_trichotomy m (cm σ nw s 99).1 with h | h | h
    · have := c2.2 h; omega
    · exact h
    · have := c1.2 h; omega
theorem kn_hi {σ : Sg} {nw s : Nat} : nI nw - hiS σ s nw 0 = nI (kn σ nw s) := by
  have h : cnt (kvS σ s (nI 0)) nw + cnt (knS σ s) nw = nw := cnt_ne (fun k _ => by
    unfold kvS knS
    by_cases q : σ 16 (6 * k + s) = 0
    · simp [q]; rfl
    · rw [decide_eq_false (show ¬ σ 16 (6 * k + s) = nI 0 from q)]
      simp [q])
  show nI nw - nI (cnt (kvS σ s (nI 0)) nw) = nI (cnt (knS σ s) nw)
  rw [pk_sub (by omega)]
  congr 1
  omega
/-- what the class's questions answer at numbers they accept -/
theorem kTwo_0 {n hi k j : Nat} (hk : k < n) (hn : n ≤ 1000) (hj : j ≤ hi) (hh : hi ≤ 1000) : kTwo n hi (nI k) (nI j) = 0 := if_pos ⟨has_of (by omega) hk, isI_of (by omega) (Nat.zero_le _) hj⟩
theorem kKnow_0 {nw ns k j : Nat} (hk : k < nw) (hn : nw ≤ 1000) (hj : j < ns) (hs : ns ≤ 1000) : kKnow nw ns (nI k) (nI j) = 0 := if_pos ⟨has_of (by omega) hk, has_of (by omega) hj⟩
theorem kCount_0 {j : Nat} (hj : j ≤ 10) : kCount (nI j) = 0 := if_pos (isI_of (by decide) (Nat.zero_le _) hj)
theorem ifk_2 {n hi k j : Nat} {f : Nat → Nat → Int32} (hk : k < n) (hn : n ≤ 1000) (hj : j ≤ hi) (hh : hi ≤ 1000) : ifk (kTwo n hi (nI k) (nI j)) (f (nN (nI k)) (nN (nI j))) = f k j := by
  rw [ifk_0 (kTwo_0 hk hn hj hh), nN_nI (by omega), nN_nI (by omega)]
theorem vKnow_2 {nw ns k j : Nat} {σ : Sg} (hk : k < nw) (hn : nw ≤ 1000) (hj : j < ns) (hs : ns ≤ 1000) : vKnow nw ns σ (nI k) (nI j) = σ 16 (6 * k + j) := by
  unfold vKnow
  rw [if_pos (kKnow_0 hk hn hj hs), nN_nI (by omega), nN_nI (by omega)]
theorem ifk_c {f : Nat → Int32} {j : Nat} (hj : j ≤ 10) : ifk (kCount (nI j)) (f (nN (nI j))) = f j := by
  rw [ifk_0 (kCount_0 hj), nN_nI (by omega)]
/-- the sum of the lengths -/
theorem plS_eq {n pl : Nat} {σ : Sg} (h : RF n pl σ) : plS σ n = nI pl := by
  have key : ∀ k, k ≤ n → plS σ k = if k = 0 then nI 0 else nI (nN (σ 2 (k - 1)) + nN (σ 0 (k - 1))) := by
    intro k
    induction k with
    | zero => intro _; rfl
    | succ k ih =>
      intro hk
      show plS σ k + σ 0 k = if k + 1 = 0 then nI 0 else nI (nN (σ 2 (k + 1 - 1)) + nN (σ 0 (k + 1 - 1)))
      rw [if_neg (show ¬ k + 1 = 0 by omega), Nat.add_sub_cancel, ih (by omega)]
      by_cases h0 : k = 0
      · subst h0
        rw [if_pos rfl, h.2.1 (by omega), (h.1 0 (by omega)).1, nI_add, nN_nI (by have := (h.1 0 (by omega)).2.2.2.1; omega)]
      · obtain ⟨j, rfl⟩ : ∃ j, k = j + 1 := ⟨k - 1, by omega⟩
        have h4 := h.1 (j + 1) (by omega)
        rw [if_neg (show ¬ j + 1 = 0 by omega), Nat.add_sub_cancel, ← h.2.2.1 j (by omega), h4.1, nI_add, nN_nI (by have := h4.2.2.2.1; omega)]
  rw [key n (Nat.le_refl _)]
  by_cases h0 : n = 0
  · rw [if_pos h0, h.2.2.2.2 h0]
  · rw [if_neg h0, h.2.2.2.1 (by omega)]
theorem dc_all : ∀ a : Fin 21, ∀ b : Fin 21, 0 < b.1 → Op.cmpValue (FP.dcmp (FP.ddiv (FP.i2d (nI a.1)) (FP.i2d (nI b.1))) (FP.ddiv (FP.i2d (nI a.1)) (FP.i2d (nI b.1)))) .l = nI 0 := by decide +kernel
theorem dc_li {nw : Nat} {σ : Sg} (h : nw ≤ 20) : Op.cmpValue (FP.dcmp (liV nw σ) (liV nw σ)) .l = nI 0 := by
  unfold liV
  by_cases c : hm σ nw (nI 1) = 0
  · rw [if_pos c]
    decide +kernel
  · rw [if_neg c]
    have a1 := lb_le (σ := σ) (nw := nw)
    have a2 := hm_le (σ := σ) (nw := nw) (x := nI 1)
    exact dc_all ⟨lb σ nw, by omega⟩ ⟨hm σ nw (nI 1), by omega⟩ (by show 0 < hm σ nw (nI 1); omega)
