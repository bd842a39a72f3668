/-! WHAT HOLDS BETWEEN CALLS -/
def L1 (n : Nat) (σ : Sg) : Prop := ∀ s, s < n → ∃ L, σ 1 s = nI L ∧ L ≤ 4
theorem L1_LT {n : Nat} {σ : Sg} (h : L1 n σ) : LT n σ := by
  intro s hs
  obtain ⟨L, h1, h2⟩ := h s hs
  have key : ∀ k, ∃ M, lt_ σ s k = nI M ∧ M ≤ L + k := by
    intro k
    induction k with
    | zero => exact ⟨L, h1, Nat.le_refl _⟩
    | succ k ih =>
      obtain ⟨M, a, b⟩ := ih
      simp only [lt_]
      split
      · exact ⟨M + 1, by rw [a]; exact nI_1 M, by omega⟩
      · exact ⟨M, a, by omega⟩
  obtain ⟨M, a, b⟩ := key 2
  exact ⟨M, a, by omega⟩
/-- what lies beyond the walkers and the stretches stays -/
def OU (n nw : Nat) (σ τ : Sg) : Prop := (∀ w, nw ≤ w → τ 12 w = σ 12 w ∧ τ 13 w = σ 13 w ∧ τ 14 w = σ 14 w ∧ τ 15 w = σ 15 w) ∧ ∀ s, n ≤ s → τ 8 s = σ 8 s ∧ τ 9 s = σ 9 s
theorem OU_refl {n nw : Nat} {σ : Sg} : OU n nw σ σ := ⟨fun _ _ => ⟨rfl, rfl, rfl, rfl⟩, fun _ _ => ⟨rfl, rfl⟩⟩
theorem OU_rows {n nw : Nat} {σ τ ρ : Sg} (h : OU n nw σ τ) (e : ∀ r, r = 8 ∨ r = 9 ∨ r = 12 ∨ r = 13 ∨ r = 14 ∨ r = 15 → ρ r = τ r) : OU n nw σ ρ := by
  unfold OU
  rw [e 8 (by omega), e 9 (by omega), e 12 (by omega), e 13 (by omega), e 14 (by omega), e 15 (by omega)]
  exact h
theorem up2_off {σ : Sg} {r i r' k : Nat} {v : Int32} (h : r' = r → k ≠ i) : up2 σ r i v r' k = σ r' k := by
  rw [up2_at, if_neg (fun z => h z.1 z.2)]
theorem OU_w {n nw w r : Nat} {σ τ : Sg} {v : Int32} (h : OU n nw σ τ) (hw : w < nw) (hr : r ≠ 8 ∧ r ≠ 9) : OU n nw σ (up2 τ r w v) := by
  refine ⟨fun o ho => ?_, fun s hs => ?_⟩
  · rw [up2_off (fun _ => by omega), up2_off (fun _ => by omega), up2_off (fun _ => by omega), up2_off (fun _ => by omega)]
    exact h.1 o ho
  · rw [up2_off (fun z => absurd z.symm hr.1), up2_off (fun z => absurd z.symm hr.2)]
    exact h.2 s hs
theorem OU_s {n nw s r : Nat} {σ τ : Sg} {v : Int32} (h : OU n nw σ τ) (hs : s < n) (hr : r = 8 ∨ r = 9) : OU n nw σ (up2 τ r s v) := by
  refine ⟨fun o ho => ?_, fun k hk => ?_⟩
  · rw [up2_off (fun z => by omega), up2_off (fun z => by omega), up2_off (fun z => by omega), up2_off (fun z => by omega)]
    exact h.1 o ho
  · rw [up2_off (fun _ => by omega), up2_off (fun _ => by omega)]
    exact h.2 k hk
theorem g2_OU {n nw pl w : Nat} {σ : Sg} {z : Int32} {q : P2} (hw : w < nw) (h : OU n nw σ q.1) : OU n nw σ (g2 pl w z q).2.1 := by
  unfold g2
  split
  · exact OU_w h hw (by omega)
  · exact OU_w (OU_w (OU_w h hw (by omega)) hw (by omega)) hw (by omega)
theorem pcQ_OU {n nw s : Nat} {σ : Sg} {q : P2} (hs : s < n) (h : OU n nw σ q.1) : OU n nw σ (pcQ s q).1 := by
  unfold pcQ
  split
  · exact OU_s h hs (by omega)
  · exact OU_s h hs (by omega)
theorem g1_OU {n nw pl w : Nat} {σ : Sg} {q : P2} (hw : w < nw) (h : OU n nw σ q.1) : OU n nw σ (g1 n pl nw w q).2.1 := by
  unfold g1
  split
  · exact h
  · split
    · exact g2_OU hw h
    · rename_i s hs
      have hsn : s < n := (fnd_lt hs).1
      split
      · exact g2_OU hw (pcQ_OU hsn h)
      · exact pcQ_OU hsn h
theorem wl_OU {n nw pl w : Nat} {σ : Sg} (hw : w < nw) : ∀ (m : Nat) (r : Bool × P2), OU n nw σ r.2.1 → OU n nw σ (wl n pl nw w m r).2.1
  | 0, r, h => h
  | m + 1, r, h => by
    simp only [wl]
    split
    · exact wl_OU hw m _ (g1_OU hw h)
    · exact h
theorem wkF_OU {n nw pl w : Nat} {σ : Sg} {q : P2} (hw : w < nw) (h : OU n nw σ q.1) : OU n nw σ (wkF n pl nw w q).1 := by
  unfold wkF
  refine wl_OU hw _ _ ?_
  show OU n nw σ (wk0 w q.1)
  unfold wk0
  split
  · exact OU_w h hw (by omega)
  · exact h
theorem goL_OU {n nw pl : Nat} {σ : Sg} (hnw : nw ≤ 20) : ∀ (m : Nat) (q : P2), OU n nw σ q.1 → OU n nw σ (goL n pl nw m q).1
  | 0, q, h => h
  | m + 1, q, h => by
    simp only [goL]
    split
    · exact h
    · rename_i hne
      obtain ⟨j, hj, e, -⟩ := fg_nat hne
      rw [e, nN_nI (by omega)]
      exact goL_OU hnw m _ (wkF_OU hj h)
theorem stF_OU {n nw : Nat} {σ τ : Sg} (h : OU n nw σ τ) : OU n nw σ (stF nw τ) :=
  foldN_inv (P := OU n nw σ) h (fun w ρ hw h => by
    unfold st1
    split
    · exact OU_w (OU_w h hw (by omega)) hw (by omega)
    · exact h)
theorem tsF_OU {n pl nw ns : Nat} {q : P2} (hnw : nw ≤ 20) : OU n nw q.1 (tsF n pl nw ns q).1 := by
  refine OU_rows (τ := stF nw (t2 n pl nw ns q).1) (stF_OU ?_) (fun r hr => up2_row _ _ _ _ (by omega))
  unfold t2 goF
  refine goL_OU hnw nw _ ?_
  refine OU_rows (τ := q.1) OU_refl (fun r hr => ?_)
  show (sgF nw ns (t1 nw q)).1 r = q.1 r
  rw [sgF_row (by omega)]
  unfold t1
  rw [leF_row (by omega)]
  show boF (windOf q.1) nw (bdF (windOf q.1) nw q.1) r = q.1 r
  rw [boF_row (by omega), bdF_row (by omega) (by omega)]
/-- who walks stays at a place of the route -/
theorem goL_PB {n nw pl : Nat} {S : Sg} (hnw : nw ≤ 20) (hpl : pl ≤ 200) : ∀ (m : Nat) (q : P2), PB pl nw q.1 → TH n S q.2 → PB pl nw (goL n pl nw m q).1
  | 0, q, h, _ => h
  | m + 1, q, h, hT => by
    simp only [goL]
    split
    · exact h
    · rename_i hne
      obtain ⟨j, hj, e, h12, -⟩ := fg_nat hne
      rw [e, nN_nI (by omega)]
      have r14 : ∀ r, r ≠ 14 → wk0 j q.1 r = q.1 r := fun r hr => by
        unfold wk0
        split
        · exact up2_row _ _ _ _ hr
        · rfl
      have hT' : TH n S (up2 q.2 4 j (nI 1)) := fun s hs => by
        rw [up2_row _ _ _ _ (by omega)]
        exact hT s hs
      obtain ⟨k1, k2, -⟩ := wl_keep (n := n) hpl hj (wkP j q.1) true (wk0 j q.1) (up2 q.2 4 j (nI 1)) (PB_rows (r14 12 (by omega)) (r14 13 (by omega)) h) hT' (fun _ => by rw [r14 12 (by omega)]; exact h12)
      exact goL_PB hnw hpl m _ k1 k2
theorem stF_PB {pl nw : Nat} {τ : Sg} (hp : 0 < pl) (h : PB pl nw τ) : PB pl nw (stF nw τ) :=
  foldN_inv (P := PB pl nw) h (fun w ρ hw h => by
    unfold st1
    split
    · intro o ho q
      by_cases z : o = w
      · subst z
        exact ⟨0, hp, by rw [up2_at, if_pos ⟨rfl, rfl⟩]⟩
      · rw [up2_off (fun _ => z), up2_off (fun _ => z)] at q
        rw [up2_off (fun _ => z), up2_off (fun _ => z)]
        exact h o ho q
    · exact h)
theorem tsF_PB {n pl nw ns : Nat} {q : P2} (hnw : nw ≤ 20) (hpl : pl ≤ 200) (hp : 0 < pl) (hLT : LT n q.1) (h : PB pl nw q.1) : PB pl nw (tsF n pl nw ns q).1 := by
  have hr : ∀ r, r ≠ 10 → r ≠ 11 → r ≠ 16 → (sgF nw ns (t1 nw q)).1 r = q.1 r := fun r a b c => by
    rw [sgF_row c]
    unfold t1
    rw [leF_row b]
    show boF (windOf q.1) nw (bdF (windOf q.1) nw q.1) r = q.1 r
    rw [boF_row b, bdF_row a b]
  have e : ∀ r, r ≠ 17 → (tsF n pl nw ns q).1 r = stF nw (t2 n pl nw ns q).1 r := fun r hr => up2_row (stF nw (t2 n pl nw ns q).1) 17 0 (stF nw (t2 n pl nw ns q).1 17 0 + nI 1) hr
  refine PB_rows (e 12 (by omega)) (e 13 (by omega)) (stF_PB hp ?_)
  unfold t2 goF
  refine goL_PB (n := n) (S := q.1) hnw hpl nw _ (PB_rows (hr 12 (by omega) (by omega) (by omega)) (hr 13 (by omega) (by omega) (by omega)) h) (fun s hs => ?_)
  obtain ⟨L, a, b⟩ := hLT s hs
  refine ⟨L, L, ?_, a, Nat.le_refl _, b⟩
  show hgF nw (slF n _) 3 s = _
  rw [hgF_at, if_neg (fun z => absurd z.1 (by omega)), slF_at, if_pos ⟨rfl, hs⟩, lt_rows (hr 1 (by omega) (by omega) (by omega)) (hr 7 (by omega) (by omega) (by omega))]
  exact a
theorem tsF_16 {n pl nw ns : Nat} {q : P2} : (tsF n pl nw ns q).1 16 = (sgF nw ns (t1 nw q)).1 16 := by
  show (up2 (stF nw (t2 n pl nw ns q).1) 17 0 (stF nw (t2 n pl nw ns q).1 17 0 + nI 1)) 16 = _
  rw [up2_row _ _ _ _ (by omega), stF_row (by omega) (by omega)]
  unfold t2
  rw [goF_row (by unfold goR; omega)]
theorem tsF_10 {n pl nw ns : Nat} {q : P2} : (tsF n pl nw ns q).1 10 = bdF (windOf q.1) nw q.1 10 := by
  show (up2 (stF nw (t2 n pl nw ns q).1) 17 0 (stF nw (t2 n pl nw ns q).1 17 0 + nI 1)) 10 = _
  rw [up2_row _ _ _ _ (by omega), stF_row (by omega) (by omega)]
  unfold t2
  rw [goF_row (by unfold goR; omega), sgF_row (by omega)]
  unfold t1
  rw [leF_row (by omega)]
  exact boF_row (by omega)
def KZ (nw ns : Nat) (σ : Sg) : Prop := ∀ i, ¬ (i / 6 < nw ∧ i % 6 < ns) → σ 16 i = 0
theorem t1_rows {nw r : Nat} {q : P2} (h1 : r ≠ 10) (h2 : r ≠ 11) : (t1 nw q).1 r = q.1 r := by
  unfold t1
  rw [leF_row h2]
  show boF (windOf q.1) nw (bdF (windOf q.1) nw q.1) r = q.1 r
  rw [boF_row h2, bdF_row h1 h2]
theorem t1_bz {nw : Nat} {q : P2} (h : bz q.1) : bz (t1 nw q).1 := leF_bz (q := (boF (windOf q.1) nw (bdF (windOf q.1) nw q.1), q.2)) (boF_bz (bdF_bz h))
theorem tsF_SV {n pl nw ns : Nat} {q : P2} (hz : bz q.1) (hns : ns ≤ 6) (h : SV nw q.1) : SV nw (tsF n pl nw ns q).1 := by
  refine ⟨fun i => ?_, fun w hw => by rw [tsF_row (by omega)]; exact h.2 w hw⟩
  have hS : SV nw (t1 nw q).1 := by
    unfold SV
    rw [t1_rows (by omega) (by omega), t1_rows (by omega) (by omega)]
    exact h
  obtain ⟨s1, s2⟩ := sgF_at (κ := (t1 nw q).2) hS (t1_bz hz) hns i
  rw [tsF_16]
  by_cases c : i / 6 < nw ∧ i % 6 < ns ∧ (t1 nw q).1 12 (i / 6) = nI 1 ∧ (t1 nw q).1 16 i = 0
  · exact (s1 c).symm ▸ lrn_nn hS
  · exact (s2 c).symm ▸ hS.1 i
theorem tsF_KZ {n pl nw ns : Nat} {q : P2} (hz : bz q.1) (hns : ns ≤ 6) (hS0 : SV nw q.1) (h : KZ nw ns q.1) : KZ nw ns (tsF n pl nw ns q).1 := by
  intro i hi
  have hS : SV nw (t1 nw q).1 := by
    unfold SV
    rw [t1_rows (by omega) (by omega), t1_rows (by omega) (by omega)]
    exact hS0
  obtain ⟨s1, s2⟩ := sgF_at (κ := (t1 nw q).2) hS (t1_bz hz) hns i
  rw [tsF_16]
  refine (s2 (fun z => hi ⟨z.1, z.2.1⟩)).trans ?_
  rw [t1_rows (by omega) (by omega)]
  exact h i hi
/-- beyond the walkers nobody waits; beyond the stretches no corner counts -/
def OZ (n nw : Nat) (σ : Sg) : Prop := (∀ w, nw ≤ w → σ 12 w = 0 ∧ σ 13 w = -1 ∧ σ 14 w = 0 ∧ σ 15 w = -1) ∧ ∀ s, n ≤ s → σ 8 s = 0 ∧ σ 9 s = 0
theorem OZ_OU {n nw : Nat} {σ τ : Sg} (h : OZ n nw σ) (g : OU n nw σ τ) : OZ n nw τ := by
  refine ⟨fun w hw => ?_, fun s hs => ?_⟩
  · obtain ⟨a, b, c, d⟩ := g.1 w hw
    rw [a, b, c, d]
    exact h.1 w hw
  · obtain ⟨a, b⟩ := g.2 s hs
    rw [a, b]
    exact h.2 s hs
def INV (n pl nw ns t : Nat) (σ : Sg) : Prop := (n ≤ 10 ∧ pl ≤ 200 ∧ nw ≤ 20 ∧ ns ≤ 6) ∧ okS nw t σ ∧ wz σ ∧ RF n pl σ ∧ PB pl nw σ ∧ L1 n σ ∧ SV nw σ ∧ KZ nw ns σ ∧ OZ n nw σ
theorem RF_pos {n pl : Nat} {σ : Sg} (h : RF n pl σ) (hn : 0 < n) : 0 < pl := by
  have h1 := (h.1 (n - 1) (by omega)).2.2.1
  have h2 := h.2.2.2.1 hn
  omega
theorem INV_step {n pl nw ns t : Nat} {q : P2} (hn : 0 < n) (h : INV n pl nw ns t q.1) : INV n pl nw ns (t + 1) (tsF n pl nw ns q).1 := by
  obtain ⟨hB, hok, hwz, hRF, hPB, hL1, hSV, hKZ, hOZ⟩ := h
  refine ⟨hB, tsF_ok hok, ?_, RF_rows hRF (tsF_row (by omega)) (tsF_row (by omega)), tsF_PB hB.2.2.1 hB.2.1 (RF_pos hRF hn) (L1_LT hL1) hPB, fun s hs => ?_, tsF_SV hok.1 hB.2.2.2 hSV, tsF_KZ hok.1 hB.2.2.2 hSV hKZ, OZ_OU hOZ (tsF_OU hB.2.2.1)⟩
  · exact wz_row (bdF_wz hwz) tsF_10
  · rw [tsF_row (by omega)]
    exact hL1 s hs
theorem INV_steps {n pl nw ns t : Nat} {q : P2} (hn : 0 < n) (h : INV n pl nw ns t q.1) : ∀ k, INV n pl nw ns (t + k) (tsN n pl nw ns k q).1
  | 0 => h
  | k + 1 => INV_step hn (INV_steps hn h k)
