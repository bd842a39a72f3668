/-! THE TWO STEPS ARE ONE: songs -/
def vo (σ : Sg) : Option Nat → Int32
  | none => -1
  | some j => σ 5 j
def lrC (σ : Sg) (lr s : Nat) : Option Nat → Int32
  | none => nI 0
  | some j => if hrd σ lr j < σ 6 s then nI 0 else (if chg σ lr j = true then rem99 (σ 16 (6 * j + s)) + nI 1 else σ 16 (6 * j + s))
/-- what songs want: nothing known is below 0, voices are 0 to 9 -/
def SV (nw : Nat) (σ : Sg) : Prop := (∀ i, 0 ≤ σ 16 i) ∧ ∀ w, w < nw → σ 5 w = nI (nN (σ 5 w)) ∧ nN (σ 5 w) ≤ 9
def cS (lr sr : Nat) (v : Int32) (q : P2) (s : Nat) : Prop := q.2 1 (6 * lr + s) = 0 ∧ ¬ q.2 1 (6 * sr + s) = 0 ∧ ¬ v ≤ q.2 2 s
def vS (sr : Nat) (ch : Bool) (q : P2) (s : Nat) : Int32 := if ch = true then rem99 (q.2 1 (6 * sr + s)) + nI 1 else q.2 1 (6 * sr + s)
theorem lisF_at {lr sr : Nat} {v hd : Int32} {ch : Bool} {q : P2} : ∀ m, m ≤ 6 →
    (foldN (lis1 lr sr v hd ch) m q).2 1 = q.2 1 ∧ (∀ r, r ≠ 16 → (foldN (lis1 lr sr v hd ch) m q).1 r = q.1 r) ∧
    (∀ s, (s < m ∧ cS lr sr v q s → (foldN (lis1 lr sr v hd ch) m q).2 2 s = v) ∧ (¬ (s < m ∧ cS lr sr v q s) → (foldN (lis1 lr sr v hd ch) m q).2 2 s = q.2 2 s)) ∧
    (∀ i, (i / 6 = lr ∧ i % 6 < m ∧ cS lr sr v q (i % 6) ∧ ¬ hd < q.1 6 (i % 6) → (foldN (lis1 lr sr v hd ch) m q).1 16 i = vS sr ch q (i % 6)) ∧ (¬ (i / 6 = lr ∧ i % 6 < m ∧ cS lr sr v q (i % 6) ∧ ¬ hd < q.1 6 (i % 6)) → (foldN (lis1 lr sr v hd ch) m q).1 16 i = q.1 16 i)) := by
  intro m
  induction m with
  | zero => intro _; exact ⟨rfl, fun _ _ => rfl, fun s => ⟨fun h => absurd h.1 (Nat.not_lt_zero _), fun _ => rfl⟩, fun i => ⟨fun h => absurd h.2.1 (Nat.not_lt_zero _), fun _ => rfl⟩⟩
  | succ m ih =>
    intro hm
    obtain ⟨h1, h2, h3, h4⟩ := ih (by omega)
    show (lis1 lr sr v hd ch m (foldN (lis1 lr sr v hd ch) m q)).2 1 = _ ∧ (∀ r, r ≠ 16 → (lis1 lr sr v hd ch m (foldN (lis1 lr sr v hd ch) m q)).1 r = q.1 r) ∧
      (∀ s, (s < m + 1 ∧ cS lr sr v q s → (lis1 lr sr v hd ch m (foldN (lis1 lr sr v hd ch) m q)).2 2 s = v) ∧ (¬ (s < m + 1 ∧ cS lr sr v q s) → (lis1 lr sr v hd ch m (foldN (lis1 lr sr v hd ch) m q)).2 2 s = q.2 2 s)) ∧
      (∀ i, (i / 6 = lr ∧ i % 6 < m + 1 ∧ cS lr sr v q (i % 6) ∧ ¬ hd < q.1 6 (i % 6) → (lis1 lr sr v hd ch m (foldN (lis1 lr sr v hd ch) m q)).1 16 i = vS sr ch q (i % 6)) ∧ (¬ (i / 6 = lr ∧ i % 6 < m + 1 ∧ cS lr sr v q (i % 6) ∧ ¬ hd < q.1 6 (i % 6)) → (lis1 lr sr v hd ch m (foldN (lis1 lr sr v hd ch) m q)).1 16 i = q.1 16 i))
    generalize foldN (lis1 lr sr v hd ch) m q = F at h1 h2 h3 h4 ⊢
    have hl : F.2 2 m = q.2 2 m := (h3 m).2 (fun z => absurd z.1 (Nat.lt_irrefl m))
    have h6 : F.1 6 = q.1 6 := h2 6 (by omega)
    have dec : Decidable (cS lr sr v q m) := by unfold cS; exact inferInstance
    by_cases hc : cS lr sr v q m
    · have g1 : F.2 1 (6 * lr + m) = 0 := by rw [h1]; exact hc.1
      have g2 : ¬ F.2 1 (6 * sr + m) = 0 := by rw [h1]; exact hc.2.1
      have g3 : ¬ v ≤ F.2 2 m := by rw [hl]; exact hc.2.2
      have key2 : ∀ s (κ' : Sg), κ' = up2 F.2 2 m v → (s < m + 1 ∧ cS lr sr v q s → κ' 2 s = v) ∧ (¬ (s < m + 1 ∧ cS lr sr v q s) → κ' 2 s = q.2 2 s) := by
        intro s κ' e
        subst e
        rw [up2_at]
        by_cases q1 : s = m
        · subst q1
          rw [if_pos ⟨rfl, rfl⟩]
          exact ⟨fun _ => rfl, fun z => absurd ⟨Nat.lt_succ_self _, hc⟩ z⟩
        · rw [if_neg (fun z => q1 z.2)]
          exact ⟨fun z => (h3 s).1 ⟨by omega, z.2⟩, fun z => (h3 s).2 (fun y => z ⟨by omega, y.2⟩)⟩
      by_cases hh : hd < q.1 6 m
      · rw [lis1_d g1 g2 g3 (by rw [h6]; exact hh)]
        refine ⟨?_, h2, fun s => key2 s _ rfl, fun i => ⟨fun z => ?_, fun z => ?_⟩⟩
        · show up2 F.2 2 m v 1 = _
          rw [up2_row _ _ _ _ (by omega)]; exact h1
        · refine (h4 i).1 ⟨z.1, ?_, z.2.2⟩
          have : i % 6 ≠ m := fun y => z.2.2.2 (by rw [y]; exact hh)
          omega
        · exact (h4 i).2 (fun y => z ⟨y.1, by omega, y.2.2⟩)
      · have e : lis1 lr sr v hd ch m F = (up2 F.1 16 (6 * lr + m) (vS sr ch q m), up2 F.2 2 m v) := by
          cases hch : ch
          · rw [lis1_f g1 g2 g3 (by rw [h6]; exact hh) rfl, h1]
            rfl
          · rw [lis1_e g1 g2 g3 (by rw [h6]; exact hh) rfl, h1]
            rfl
        rw [e]
        refine ⟨?_, fun r hr => ?_, fun s => key2 s _ rfl, fun i => ?_⟩
        · show up2 F.2 2 m v 1 = _
          rw [up2_row _ _ _ _ (by omega)]; exact h1
        · show up2 F.1 16 (6 * lr + m) (vS sr ch q m) r = _
          rw [up2_row _ _ _ _ hr]; exact h2 r hr
        · show (_ → up2 F.1 16 (6 * lr + m) (vS sr ch q m) 16 i = _) ∧ (_ → up2 F.1 16 (6 * lr + m) (vS sr ch q m) 16 i = _)
          rw [up2_at]
          by_cases q1 : i = 6 * lr + m
          · subst q1
            rw [if_pos ⟨rfl, rfl⟩, show (6 * lr + m) % 6 = m by omega, show (6 * lr + m) / 6 = lr by omega]
            exact ⟨fun _ => rfl, fun z => absurd ⟨rfl, Nat.lt_succ_self _, hc, hh⟩ z⟩
          · rw [if_neg (fun z => q1 z.2)]
            exact ⟨fun z => (h4 i).1 ⟨z.1, by omega, z.2.2⟩, fun z => (h4 i).2 (fun y => z ⟨y.1, by omega, y.2.2⟩)⟩
    · have e : lis1 lr sr v hd ch m F = F := if_neg (fun z => hc ⟨by rw [← h1]; exact z.1, by rw [← h1]; exact z.2.1, by rw [← hl]; exact z.2.2⟩)
      rw [e]
      refine ⟨h1, h2, fun s => ⟨fun z => ?_, fun z => (h3 s).2 (fun y => z ⟨by omega, y.2⟩)⟩, fun i => ⟨fun z => ?_, fun z => (h4 i).2 (fun y => z ⟨y.1, by omega, y.2.2⟩)⟩⟩
      · refine (h3 s).1 ⟨?_, z.2⟩
        have : s ≠ m := fun y => hc (by rw [← y]; exact z.2)
        omega
      · refine (h4 i).1 ⟨z.1, ?_, z.2.2⟩
        have : i % 6 ≠ m := fun y => hc (by rw [← y]; exact z.2.2.1)
        omega
/-- what holds when the learner lr has heard the first m -/
def LI (σ : Sg) (T : Nat → Int32) (ns lr m : Nat) (q : P2) : Prop :=
  (∀ r, r ≠ 16 → q.1 r = σ r) ∧ q.2 1 = σ 16 ∧ (∀ s, s < ns → σ 16 (6 * lr + s) = 0 → q.2 2 s = vo σ (lfo σ lr s m) ∧ q.1 16 (6 * lr + s) = lrC σ lr s (lfo σ lr s m)) ∧
  (∀ i, ¬ (i / 6 = lr ∧ i % 6 < ns ∧ σ 16 i = 0) → q.1 16 i = T i)
theorem hrd_mono {nw : Nat} {σ : Sg} {lr j m : Nat} {x : Int32} (hSV : SV nw σ) (hj : j < nw) (hm : m < nw) (h : ¬ σ 5 m ≤ σ 5 j) (hx : hrd σ lr m < x) : hrd σ lr j < x := by
  obtain ⟨e1, l1⟩ := hSV.2 j hj
  obtain ⟨e2, l2⟩ := hSV.2 m hm
  refine Int32.lt_of_le_of_lt ?_ hx
  unfold hrd
  rw [e1, e2] at h ⊢
  rw [nI_leI (by omega) (by omega)] at h
  split
  · rw [nI_add, nI_add]
    exact nI_le (by omega) (by omega)
  · exact nI_le (by omega) (by omega)
theorem LI_step {nw ns lr m : Nat} {σ : Sg} {T : Nat → Int32} {q : P2} (hSV : SV nw σ) (hns : ns ≤ 6) (hm : m < nw) (h : LI σ T ns lr m q) : LI σ T ns lr (m + 1) (la1 ns lr m q) := by
  obtain ⟨h1, h2, h3, h4⟩ := h
  have en : nbr q.1 lr m = nbr σ lr m := nbr_rows (h1 12 (by omega)) (h1 13 (by omega)) lr m
  cases hn : nbr σ lr m
  · rw [la1_f (by rw [en]; exact hn)]
    exact ⟨h1, h2, fun s hs hu => by rw [lfo_0 hn]; exact h3 s hs hu, h4⟩
  · rw [la1_t (by rw [en]; exact hn)]
    have e5 : q.1 5 m = σ 5 m := by rw [h1 5 (by omega)]
    have eh : hrd q.1 lr m = hrd σ lr m := by unfold hrd; rw [h1 11 (by omega), h1 5 (by omega)]
    have ec : chg q.1 lr m = chg σ lr m := by unfold chg; rw [h1 11 (by omega)]
    unfold lisF
    rw [e5, eh, ec]
    obtain ⟨g1, g2, g3, g4⟩ := lisF_at (lr := lr) (sr := m) (v := σ 5 m) (hd := hrd σ lr m) (ch := chg σ lr m) (q := q) ns hns
    generalize foldN (lis1 lr m (σ 5 m) (hrd σ lr m) (chg σ lr m)) ns q = F at g1 g2 g3 g4 ⊢
    refine ⟨fun r hr => (g2 r hr).trans (h1 r hr), g1.trans h2, fun s hs hu => ?_, fun i hi => ?_⟩
    · obtain ⟨a1, a2⟩ := h3 s hs hu
      have d6 : (6 * lr + s) / 6 = lr := by omega
      have m6 : (6 * lr + s) % 6 = s := by omega
      have b4 := g4 (6 * lr + s)
      rw [d6, m6] at b4
      have e6 : q.1 6 s = σ 6 s := by rw [h1 6 (by omega)]
      have cS_iff : cS lr m (σ 5 m) q s ↔ (¬ σ 16 (6 * m + s) = 0 ∧ ¬ σ 5 m ≤ vo σ (lfo σ lr s m)) := by
        unfold cS
        rw [h2, a1]
        exact ⟨fun z => z.2, fun z => ⟨hu, z⟩⟩
      have hV : vS m (chg σ lr m) q s = (if chg σ lr m = true then rem99 (σ 16 (6 * m + s)) + nI 1 else σ 16 (6 * m + s)) := by unfold vS; rw [h2]
      by_cases hk : σ 16 (6 * m + s) ≤ 0
      · have hk0 : σ 16 (6 * m + s) = 0 := Int32.le_antisymm hk (hSV.1 _)
        have hnc : ¬ cS lr m (σ 5 m) q s := fun z => (cS_iff.mp z).1 hk0
        rw [lfo_1 hk, (g3 s).2 (fun z => hnc z.2), b4.2 (fun z => hnc z.2.2.1)]
        exact ⟨a1, a2⟩
      · have hk0 : ¬ σ 16 (6 * m + s) = 0 := fun z => hk (by rw [z]; decide)
        cases hlf : lfo σ lr s m with
        | none =>
          obtain ⟨e2, l2⟩ := hSV.2 m hm
          have hc : cS lr m (σ 5 m) q s := cS_iff.mpr ⟨hk0, by
            rw [hlf, e2]
            show ¬ nI _ ≤ -1
            intro z
            rw [Int32.le_iff_toInt_le, nI_toInt (by omega)] at z
            have : ((-1 : Int32)).toInt = -1 := by decide
            omega⟩
          rw [lfo_n hn hk hlf, (g3 s).1 ⟨hs, hc⟩]
          refine ⟨rfl, ?_⟩
          show F.1 16 (6 * lr + s) = if hrd σ lr m < σ 6 s then nI 0 else _
          by_cases hh : hrd σ lr m < σ 6 s
          · rw [if_pos hh, b4.2 (fun z => z.2.2.2 (by rw [e6]; exact hh)), a2, hlf]
            rfl
          · rw [if_neg hh, b4.1 ⟨rfl, hs, hc, by rw [e6]; exact hh⟩, hV]
        | some j =>
          have hj : j < m := lfo_lt hlf
          by_cases hv : σ 5 m ≤ σ 5 j
          · have hnc : ¬ cS lr m (σ 5 m) q s := fun z => (cS_iff.mp z).2 (by rw [hlf]; exact hv)
            rw [lfo_j hlf hv, (g3 s).2 (fun z => hnc z.2), b4.2 (fun z => hnc z.2.2.1), ← hlf]
            exact ⟨a1, a2⟩
          · have hc : cS lr m (σ 5 m) q s := cS_iff.mpr ⟨hk0, by rw [hlf]; exact hv⟩
            rw [lfo_k hn hk hlf hv, (g3 s).1 ⟨hs, hc⟩]
            refine ⟨rfl, ?_⟩
            show F.1 16 (6 * lr + s) = if hrd σ lr m < σ 6 s then nI 0 else _
            by_cases hh : hrd σ lr m < σ 6 s
            · rw [if_pos hh, b4.2 (fun z => z.2.2.2 (by rw [e6]; exact hh)), a2, hlf]
              exact if_pos (hrd_mono hSV (by omega) hm hv hh)
            · rw [if_neg hh, b4.1 ⟨rfl, hs, hc, by rw [e6]; exact hh⟩, hV]
    · refine ((g4 i).2 (fun z => hi ⟨z.1, z.2.1, ?_⟩)).trans (h4 i hi)
      have := z.2.2.1.1
      rw [h2, ← z.1] at this
      rw [show i = 6 * (i / 6) + i % 6 by omega]
      exact this
theorem LI_all {nw ns lr : Nat} {σ : Sg} {q : P2} (hSV : SV nw σ) (hns : ns ≤ 6) (h1 : ∀ r, r ≠ 16 → q.1 r = σ r) (h2 : q.2 1 = σ 16) (h3 : ∀ s, s < ns → σ 16 (6 * lr + s) = 0 → q.1 16 (6 * lr + s) = nI 0) : LI σ (q.1 16) ns lr nw (laF nw ns lr q) := by
  unfold laF
  have h0 : LI σ (q.1 16) ns lr 0 (q.1, va_up q.2 2 (fun _ => -1)) := by
    refine ⟨h1, ?_, fun s hs hu => ⟨?_, h3 s hs hu⟩, fun _ _ => rfl⟩
    · show va_up q.2 2 (fun _ => -1) 1 = σ 16
      rw [vu_ne (by omega)]
      exact h2
    · show va_up q.2 2 (fun _ => -1) 2 s = _
      rfl
  have key : ∀ m, m ≤ nw → LI σ (q.1 16) ns lr m (foldN (la1 ns lr) m (q.1, va_up q.2 2 (fun _ => -1))) := by
    intro m
    induction m with
    | zero => intro _; exact h0
    | succ m ih => intro hm; exact LI_step hSV hns (by omega) (ih (by omega))
  exact key nw (Nat.le_refl nw)
theorem lrC_lrn {nw w s : Nat} {σ : Sg} (hz : bz σ) : lrC σ w s (lfo σ w s nw) = lrn σ nw w s := by
  unfold lrn
  cases lfo σ w s nw with
  | none => rfl
  | some j =>
    show (if hrd σ w j < σ 6 s then nI 0 else _) = _
    have e : σ 5 j + (if σ 11 w = 0 then nI 3 else nI 0) = hrd σ w j := by
      unfold hrd
      split
      · rfl
      · exact Int32.add_zero _
    have ec : (chg σ w j = true) ↔ σ 11 w + σ 11 j = nI 2 := by
      unfold chg
      rcases hz w with a | a <;> rcases hz j with b | b <;> rw [a, b] <;> decide
    simp only [e]
    by_cases hh : hrd σ w j < σ 6 s
    · rw [if_pos hh, if_neg (Int32.not_le.mpr hh)]
    · rw [if_neg hh, if_pos (Int32.not_lt.mp hh)]
      by_cases hc : chg σ w j = true
      · rw [if_pos hc, if_pos (ec.mp hc)]
      · rw [if_neg hc, if_neg (fun z => hc (ec.mpr z))]
/-- the songs behind the class's sing -/
theorem sgF_at {nw ns : Nat} {σ κ : Sg} (hSV : SV nw σ) (hz : bz σ) (hns : ns ≤ 6) : ∀ i,
    (i / 6 < nw ∧ i % 6 < ns ∧ σ 12 (i / 6) = nI 1 ∧ σ 16 i = 0 → (sgF nw ns (σ, κ)).1 16 i = lrn σ nw (i / 6) (i % 6)) ∧
    (¬ (i / 6 < nw ∧ i % 6 < ns ∧ σ 12 (i / 6) = nI 1 ∧ σ 16 i = 0) → (sgF nw ns (σ, κ)).1 16 i = σ 16 i) := by
  have key : ∀ k, k ≤ nw → (∀ r, r ≠ 16 → (foldN (sg1 nw ns) k (σ, va_up κ 1 (σ 16))).1 r = σ r) ∧ (foldN (sg1 nw ns) k (σ, va_up κ 1 (σ 16))).2 1 = σ 16 ∧ ∀ i,
      (i / 6 < k ∧ i % 6 < ns ∧ σ 12 (i / 6) = nI 1 ∧ σ 16 i = 0 → (foldN (sg1 nw ns) k (σ, va_up κ 1 (σ 16))).1 16 i = lrn σ nw (i / 6) (i % 6)) ∧
      (¬ (i / 6 < k ∧ i % 6 < ns ∧ σ 12 (i / 6) = nI 1 ∧ σ 16 i = 0) → (foldN (sg1 nw ns) k (σ, va_up κ 1 (σ 16))).1 16 i = σ 16 i) := by
    intro k
    induction k with
    | zero =>
      intro _
      refine ⟨fun _ _ => rfl, ?_, fun i => ⟨fun z => absurd z.1 (Nat.not_lt_zero _), fun _ => rfl⟩⟩
      show va_up κ 1 (σ 16) 1 = σ 16
      rfl
    | succ k ih =>
      intro hk
      obtain ⟨h1, h2, h3⟩ := ih (by omega)
      show (∀ r, r ≠ 16 → (sg1 nw ns k (foldN (sg1 nw ns) k (σ, va_up κ 1 (σ 16)))).1 r = σ r) ∧ (sg1 nw ns k (foldN (sg1 nw ns) k (σ, va_up κ 1 (σ 16)))).2 1 = σ 16 ∧ ∀ i,
        (i / 6 < k + 1 ∧ i % 6 < ns ∧ σ 12 (i / 6) = nI 1 ∧ σ 16 i = 0 → (sg1 nw ns k (foldN (sg1 nw ns) k (σ, va_up κ 1 (σ 16)))).1 16 i = lrn σ nw (i / 6) (i % 6)) ∧
        (¬ (i / 6 < k + 1 ∧ i % 6 < ns ∧ σ 12 (i / 6) = nI 1 ∧ σ 16 i = 0) → (sg1 nw ns k (foldN (sg1 nw ns) k (σ, va_up κ 1 (σ 16)))).1 16 i = σ 16 i)
      generalize foldN (sg1 nw ns) k (σ, va_up κ 1 (σ 16)) = F at h1 h2 h3 ⊢
      by_cases hw : σ 12 k = nI 1
      · rw [sg1_t (by rw [h1 12 (by omega)]; exact hw)]
        have hL := LI_all (lr := k) (q := F) hSV hns h1 h2 (fun s hs hu => by
          rw [(h3 (6 * k + s)).2 (fun z => absurd z.1 (by omega))]; exact hu)
        obtain ⟨l1, l2, l3, l4⟩ := hL
        refine ⟨l1, l2, fun i => ⟨fun z => ?_, fun z => ?_⟩⟩
        · by_cases hi : i / 6 = k
          · have e : i = 6 * k + i % 6 := by omega
            have hu := z.2.2.2
            rw [e] at hu
            have := (l3 (i % 6) z.2.1 hu).2
            rw [← e] at this
            rw [this, hi]
            exact lrC_lrn hz
          · rw [l4 i (fun y => hi y.1)]
            exact (h3 i).1 ⟨by omega, z.2⟩
        · rw [l4 i (fun y => z ⟨by omega, y.2.1, by rw [y.1]; exact hw, y.2.2⟩)]
          exact (h3 i).2 (fun y => z ⟨by omega, y.2⟩)
      · rw [sg1_f (by rw [h1 12 (by omega)]; exact hw)]
        refine ⟨h1, h2, fun i => ⟨fun z => ?_, fun z => (h3 i).2 (fun y => z ⟨by omega, y.2⟩)⟩⟩
        refine (h3 i).1 ⟨?_, z.2⟩
        have : i / 6 ≠ k := fun y => hw (by rw [← y]; exact z.2.2.1)
        omega
  exact (key nw (Nat.le_refl nw)).2.2
theorem lrn_nn {nw w s : Nat} {σ : Sg} (hSV : SV nw σ) : 0 ≤ lrn σ nw w s := by
  unfold lrn
  split
  · decide
  · rename_i j _
    generalize σ 5 j + (if σ 11 w = 0 then nI 3 else nI 0) = H
    split
    · split
      · obtain ⟨a, ha, e⟩ := nI_of (Int32.not_lt.mpr (hSV.1 (6 * j + s)))
        have e3 : rem99 (nI a) = nI (a % 99) := by unfold rem99; exact pk_rem (a := a) (d := 99) ha (by omega) (by omega)
        have e4 : rem99 (nI a) + nI 1 = nI (a % 99 + 1) := by rw [e3]; exact nI_add (a % 99) 1
        have hl : a % 99 + 1 < 2 ^ 31 := by omega
        have e5 : (0 : Int32) ≤ nI (a % 99 + 1) := nI_pos' hl
        rw [← e4, ← e] at e5
        exact e5
      · exact hSV.1 _
    · decide
theorem sg_eq {nw ns : Nat} {σ κ : Sg} {g : Nat → Int32} (hSV : SV nw σ) (hz : bz σ) (hnw : nw ≤ 20) (hns : ns ≤ 6) (hg : ∀ i, ¬ (i / 6 < nw ∧ i % 6 < ns) → g i = 0) : sgM σ (lnR σ nw ns nw 0 g) 120 = (sgF nw ns (σ, κ)).1 := by
  funext r
  by_cases hr : r = 16
  · subst hr
    funext i
    obtain ⟨s1, s2⟩ := sgF_at (κ := κ) hSV hz hns i
    show cpk (knM σ (lnR σ nw ns nw 0 g)) (σ 16) 120 i = _
    unfold cpk
    by_cases hb : i / 6 < nw ∧ i % 6 < ns
    · rw [if_pos (by omega)]
      have hL : lnR σ nw ns nw 0 g i = lv9 σ nw (i / 6) (i % 6) := if_pos (Or.inl hb)
      have ei : 6 * (i / 6) + i % 6 = i := by omega
      unfold knM
      rw [hL]
      unfold lv9
      rw [ei]
      by_cases hc : σ 12 (i / 6) = nI 1 ∧ σ 16 i = 0
      · rw [if_pos hc, s1 ⟨hb.1, hb.2, hc⟩]
        by_cases h0 : lrn σ nw (i / 6) (i % 6) ≤ 0
        · rw [if_pos h0, hc.2]
          exact (Int32.le_antisymm h0 (lrn_nn hSV)).symm
        · rw [if_neg h0]
      · rw [if_neg hc, if_pos (by decide), s2 (fun z => hc z.2.2)]
    · rw [s2 (fun z => hb ⟨z.1, z.2.1⟩)]
      split
      · unfold knM
        have hL : lnR σ nw ns nw 0 g i = g i := if_neg (fun z => z.elim hb (fun y => absurd y.2 (Nat.not_lt_zero _)))
        rw [hL, hg i hb, if_pos (by decide)]
      · rfl
  · rw [sgM_at hr, sgF_row hr]
