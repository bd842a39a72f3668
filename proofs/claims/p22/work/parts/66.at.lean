/-! AT MOST TWO AT A PLACE: kept by going and starting -/
def AT (pl nw : Nat) (σ : Sg) : Prop := ∀ j, j < pl → wa σ nw (nI j) ≤ 2
theorem cnt_mono {p q : Nat → Bool} {n : Nat} (h : ∀ k, k < n → q k = true → p k = true) : cnt q n ≤ cnt p n := by
  induction n with
  | zero => exact Nat.le_refl _
  | succ n ih =>
    simp only [cnt]
    have h1 := ih (fun k hk => h k (Nat.lt_succ_of_lt hk))
    have h2 := h n (Nat.lt_succ_self n)
    cases hq : q n
    · simp; omega
    · rw [h2 hq]
      simp
      exact h1
theorem cnt_one {p q : Nat → Bool} {w n : Nat} (h : ∀ k, k < n → k ≠ w → q k = true → p k = true) : cnt q n ≤ cnt p n + 1 := by
  have key : (n ≤ w → cnt q n ≤ cnt p n) ∧ cnt q n ≤ cnt p n + 1 := by
    induction n with
    | zero => exact ⟨fun _ => Nat.le_refl _, Nat.zero_le _⟩
    | succ n ih =>
      obtain ⟨i1, i2⟩ := ih (fun k hk => h k (Nat.lt_succ_of_lt hk))
      refine ⟨fun z => cnt_mono (fun k hk => h k hk (by omega)), ?_⟩
      simp only [cnt]
      by_cases e : n = w
      · have := i1 (by omega)
        split <;> split <;> omega
      · have h2 := h n (Nat.lt_succ_self n) e
        cases hq : q n
        · simp; omega
        · rw [h2 hq]
          simp
          exact i2
  exact key.2
theorem waS_t {σ : Sg} {z : Int32} {k : Nat} : waS σ z k = true ↔ σ 12 k = nI 1 ∧ σ 13 k = z := by
  unfold waS
  rw [Bool.and_eq_true]
  exact ⟨fun h => ⟨of_decide_eq_true h.1, of_decide_eq_true h.2⟩, fun h => ⟨decide_eq_true h.1, decide_eq_true h.2⟩⟩
theorem AT_rows {pl nw : Nat} {σ τ : Sg} (h : AT pl nw σ) (h12 : τ 12 = σ 12) (h13 : τ 13 = σ 13) : AT pl nw τ := fun j hj => by
  rw [wa_rows h12 h13]
  exact h j hj
theorem AT_walk {pl nw w : Nat} {σ τ : Sg} {z : Int32} (h : AT pl nw σ) (h12 : ∀ k, k ≠ w → τ 12 k = σ 12 k) (h13 : ∀ k, k ≠ w → τ 13 k = σ 13 k) (hz : τ 13 w = z) (hwa : wa σ nw z < 2) : AT pl nw τ := fun j hj => by
  by_cases e : z = nI j
  · have h1 : wa τ nw (nI j) ≤ wa σ nw (nI j) + 1 := cnt_one (w := w) (fun k _ hk hq => by
      rw [waS_t, h12 k hk, h13 k hk] at hq
      exact waS_t.mpr hq)
    rw [← e] at h1 ⊢
    omega
  · refine Nat.le_trans (cnt_mono (fun k _ hq => ?_)) (h j hj)
    rw [waS_t] at hq
    by_cases hk : k = w
    · subst hk
      exact absurd (hz.symm.trans hq.2) e
    · rw [h12 k hk, h13 k hk] at hq
      exact waS_t.mpr hq
theorem AT_gone {pl nw w : Nat} {σ τ : Sg} (h : AT pl nw σ) (h12 : ∀ k, k ≠ w → τ 12 k = σ 12 k) (h13 : ∀ k, k ≠ w → τ 13 k = σ 13 k) (hz : τ 12 w ≠ nI 1) : AT pl nw τ := fun j hj => by
  refine Nat.le_trans (cnt_mono (fun k _ hq => ?_)) (h j hj)
  rw [waS_t] at hq
  by_cases hk : k = w
  · subst hk
    exact absurd hq.1 hz
  · rw [h12 k hk, h13 k hk] at hq
    exact waS_t.mpr hq
theorem g2_AT {pl nw w : Nat} {a : Sg} {q : P2} (hAT : AT pl nw a) (h12 : q.1 12 = a 12) (h13 : q.1 13 = a 13) (hwa : wa a nw (a 13 w + nI 1) < 2) : AT pl nw (g2 pl w (a 13 w + nI 1) q).2.1 := by
  unfold g2
  split
  · refine AT_walk (w := w) (z := a 13 w + nI 1) hAT (fun k _ => ?_) (fun k hk => ?_) ?_ hwa
    · show up2 q.1 13 w (a 13 w + nI 1) 12 k = a 12 k
      rw [up2_row _ _ _ _ (by omega), h12]
    · show up2 q.1 13 w (a 13 w + nI 1) 13 k = a 13 k
      rw [up2_at, if_neg (fun z => hk z.2), h13]
    · show up2 q.1 13 w (a 13 w + nI 1) 13 w = _
      rw [up2_at, if_pos ⟨rfl, rfl⟩]
  · refine AT_gone (w := w) hAT (fun k hk => ?_) (fun k hk => ?_) ?_
    · show ch1 w q.1 12 k = a 12 k
      unfold ch1
      rw [up2_row _ _ _ _ (by omega), up2_row _ _ _ _ (by omega), up2_at, if_neg (fun z => hk z.2), h12]
    · show ch1 w q.1 13 k = a 13 k
      unfold ch1
      rw [up2_row _ _ _ _ (by omega), up2_at, if_neg (fun z => hk z.2), up2_row _ _ _ _ (by omega), h13]
    · show ch1 w q.1 12 w ≠ nI 1
      unfold ch1
      rw [up2_row _ _ _ _ (by omega), up2_row _ _ _ _ (by omega), up2_at, if_pos ⟨rfl, rfl⟩]
      decide
theorem g1_AT {n pl nw w : Nat} {q : P2} (hAT : AT pl nw q.1) : AT pl nw (g1 n pl nw w q).2.1 := by
  unfold g1
  split
  · exact hAT
  · rename_i hw
    have hwa : wa q.1 nw (q.1 13 w + nI 1) < 2 := by omega
    split
    · exact g2_AT hAT rfl rfl hwa
    · rename_i s _
      have hp12 : (pcQ s q).1 12 = q.1 12 := pcQ_row (by omega) (by omega)
      have hp13 : (pcQ s q).1 13 = q.1 13 := pcQ_row (by omega) (by omega)
      split
      · exact g2_AT hAT hp12 hp13 hwa
      · exact AT_rows hAT hp12 hp13
theorem wl_AT {n pl nw w : Nat} : ∀ (m : Nat) (r : Bool × P2), AT pl nw r.2.1 → AT pl nw (wl n pl nw w m r).2.1
  | 0, r, h => h
  | m + 1, r, h => by
    simp only [wl]
    split
    · exact wl_AT m _ (g1_AT h)
    · exact h
theorem goL_AT {n pl nw : Nat} : ∀ (m : Nat) (q : P2), AT pl nw q.1 → AT pl nw (goL n pl nw m q).1
  | 0, q, h => h
  | m + 1, q, h => by
    simp only [goL]
    split
    · exact h
    · refine goL_AT m _ ?_
      unfold wkF
      refine wl_AT _ _ ?_
      have r14 : ∀ r, r ≠ 14 → wk0 (nN (fg q.1 q.2 nw).2) q.1 r = q.1 r := fun r hr => by
        unfold wk0
        split
        · exact up2_row _ _ _ _ hr
        · rfl
      exact AT_rows h (r14 12 (by omega)) (r14 13 (by omega))
theorem stF_AT {pl nw : Nat} {τ : Sg} (h : AT pl nw τ) : AT pl nw (stF nw τ) :=
  foldN_inv (P := AT pl nw) h (fun w ρ hw h => by
    unfold st1
    split
    · rename_i hc
      refine AT_walk (w := w) (z := nI 0) h (fun k hk => ?_) (fun k hk => ?_) ?_ hc.2
      · rw [up2_row _ _ _ _ (by omega), up2_at, if_neg (fun z => hk z.2)]
      · rw [up2_at, if_neg (fun z => hk z.2), up2_row _ _ _ _ (by omega)]
      · rw [up2_at, if_pos ⟨rfl, rfl⟩]
    · exact h)
theorem tsF_AT {n pl nw ns : Nat} {q : P2} (h : AT pl nw q.1) : AT pl nw (tsF n pl nw ns q).1 := by
  have e : ∀ r, r ≠ 17 → (tsF n pl nw ns q).1 r = stF nw (t2 n pl nw ns q).1 r := fun r hr => up2_row (stF nw (t2 n pl nw ns q).1) 17 0 (stF nw (t2 n pl nw ns q).1 17 0 + nI 1) hr
  refine AT_rows (stF_AT (τ := (t2 n pl nw ns q).1) ?_) (e 12 (by omega)) (e 13 (by omega))
  unfold t2 goF
  refine goL_AT nw _ ?_
  refine AT_rows h ?_ ?_
  · show (sgF nw ns (t1 nw q)).1 12 = q.1 12
    rw [sgF_row (by omega), t1_rows (by omega) (by omega)]
  · show (sgF nw ns (t1 nw q)).1 13 = q.1 13
    rw [sgF_row (by omega), t1_rows (by omega) (by omega)]
/-! going on, in the simulation's order of questions -/
theorem wl_nT {n pl nw w m : Nat} {q : P2} {F : Bool × P2} {b : Bool} {q' : P2} (hW : wl n pl nw w (m + 1) (true, q) = F) (hg : g1 n pl nw w q = (b, q')) : wl n pl nw w m (b, q') = F := by
  simp only [wl] at hW
  rw [if_pos trivial, hg] at hW
  exact hW
theorem wl_eT {n pl nw w m : Nat} {q : P2} {F : Bool × P2} {q' : P2} (hW : wl n pl nw w (m + 1) (true, q) = F) (hg : g1 n pl nw w q = (false, q')) : F.2 = q' := by
  have := wl_nT hW hg
  rw [wl_f] at this
  rw [← this]
theorem TH_lt {n j0 : Nat} {σ k9 : Sg} (hTH : TH n σ k9) (hj : j0 < n) : thr σ k9 j0 < lt_ σ j0 2 ↔ 0 < k9 3 j0 := by
  obtain ⟨d, L, h1, h2, h3, h4⟩ := hTH j0 hj
  unfold thr
  rw [h1, h2, pk_sub h3, nI_ltI (by omega) (by omega), show (0 : Int32) = nI 0 from rfl, nI_ltI (by omega) (by omega)]
  omega
theorem wa_out {pl nw : Nat} {σ : Sg} (hPB : PB pl nw σ) (hpl : pl ≤ 200) {j : Nat} (h : pl ≤ j) (hj : j < 1000) : wa σ nw (nI j) = 0 := cnt_0 (fun k hk => by
  unfold waS
  by_cases q : σ 12 k = nI 1
  · obtain ⟨i, hi, e⟩ := hPB k hk q
    have hne : ¬ nI i = nI j := fun z => by
      have := (nI_eq (a := i) (b := j) (by omega) (by omega)).mp z
      omega
    rw [e, decide_eq_false hne, Bool.and_false]
  · rw [decide_eq_false q, Bool.false_and])
theorem AT_le {pl nw : Nat} {σ : Sg} (hAT : AT pl nw σ) (hPB : PB pl nw σ) (hpl : pl ≤ 200) {j : Nat} (hj : j < 1000) : wa σ nw (nI j) ≤ 2 := by
  by_cases h : j < pl
  · exact hAT j h
  · rw [wa_out hPB hpl (by omega) hj]
    omega
