/-! the model's going: one place, in the class's words -/
def thr (σ κ : Sg) : Nat → Int32 := fun s => lt_ σ s 2 - κ 3 s
/-- what the corners still let through: a number up to what they let -/
def TH (n : Nat) (σ κ : Sg) : Prop := ∀ s, s < n → ∃ d L, κ 3 s = nI d ∧ lt_ σ s 2 = nI L ∧ d ≤ L ∧ L ≤ 10
def thE (σ η κ : Sg) : Sg := va_up η 2 (thr σ κ)
theorem lt_rows {σ τ : Sg} (h1 : τ 1 = σ 1) (h7 : τ 7 = σ 7) (s : Nat) : ∀ k, lt_ τ s k = lt_ σ s k
  | 0 => by simp only [lt_, h1]
  | k + 1 => by simp only [lt_, h7, lt_rows h1 h7 s k]
theorem RF_rows {n pl : Nat} {σ τ : Sg} (h : RF n pl σ) (h0 : τ 0 = σ 0) (h2 : τ 2 = σ 2) : RF n pl τ := by
  unfold RF at h ⊢
  rw [h0, h2]
  exact h
section GM
variable {n pl nw w jz j0 : Nat} {σ s9 k9 η : Sg}
theorem gm_c (h : RF n pl s9) (hj : j0 < n) (hz : s9 13 w = nI jz) (hp : pl ≤ 200) (hjz : jz < pl) : s9 13 w = s9 2 j0 + s9 0 j0 - nI 1 ↔ jz + 1 = nN (s9 2 j0) + nN (s9 0 j0) := by
  obtain ⟨-, -, h1, h2, h3⟩ := h.1 j0 hj
  rw [RF_end h hj, pk_sub (by omega), hz, nI_eq (by omega) (by omega)]
  omega
theorem gm_e (h : RF n pl s9) (hz : s9 13 w = nI jz) (hp : pl ≤ 200) (hjz : jz < pl) : s9 13 w = plv s9 n - nI 1 ↔ jz + 1 = pl := by
  rw [RF_plv h, pk_sub (by omega), hz, nI_eq (by omega) (by omega)]
  omega
theorem gm_ec (h : RF n pl s9) (hj : j0 < n) (ha : nN (s9 2 j0) ≤ jz) (hb : jz < nN (s9 2 j0) + nN (s9 0 j0)) (he : jz + 1 = pl) : jz + 1 = nN (s9 2 j0) + nN (s9 0 j0) := by
  have h3 := (h.1 j0 hj).2.2.2.2
  omega
theorem seS_nat (h : RF n pl s9) (hz : s9 13 w = nI jz) (hp : pl ≤ 200) (hjz : jz < pl) {s : Nat} (hs : s < n) : seS s9 (s9 13 w) s = decide (jz + 1 = nN (s9 2 s) + nN (s9 0 s)) := by
  unfold seS
  refine decide_eq_decide.mpr ?_
  rw [eq_comm]
  exact gm_c h hs hz hp hjz
theorem fnd_one {p : Nat → Bool} {n j : Nat} (hj : j < n) (h : p j = true) (hu : ∀ s, s < n → p s = true → s = j) : fnd p n = some j := by
  have key : ∀ m, m ≤ j → fnd p m = none := by
    intro m
    induction m with
    | zero => intro _; rfl
    | succ m ih =>
      intro hm
      refine fnd_n (ih (by omega)) ?_
      cases hp : p m
      · rfl
      · exact absurd (hu m (by omega) hp) (by omega)
  exact fnd_s hj (key j (Nat.le_refl j)) h
theorem fnd_no {p : Nat → Bool} {n : Nat} (h : ∀ s, s < n → p s = false) : fnd p n = none := by
  induction n with
  | zero => rfl
  | succ n ih => exact fnd_n (ih (fun s hs => h s (Nat.lt_succ_of_lt hs))) (h n (Nat.lt_succ_self n))
theorem gm_sc (h : RF n pl s9) (hj : j0 < n) (hz : s9 13 w = nI jz) (hp : pl ≤ 200) (hjz : jz < pl) (ha : nN (s9 2 j0) ≤ jz) (hb : jz < nN (s9 2 j0) + nN (s9 0 j0)) (hc : jz + 1 = nN (s9 2 j0) + nN (s9 0 j0)) : se s9 n (s9 13 w) = some j0 := by
  refine fnd_one hj (by rw [seS_nat h hz hp hjz hj]; exact decide_eq_true hc) (fun s hs q => ?_)
  rw [seS_nat h hz hp hjz hs] at q
  have q := of_decide_eq_true q
  have h1 := (h.1 s hs).2.2.1
  exact RF_uniq h hs hj (j := jz) (by omega) (by omega) ha hb
theorem gm_sn (h : RF n pl s9) (hj : j0 < n) (hz : s9 13 w = nI jz) (hp : pl ≤ 200) (hjz : jz < pl) (ha : nN (s9 2 j0) ≤ jz) (hb : jz < nN (s9 2 j0) + nN (s9 0 j0)) (hc : ¬ jz + 1 = nN (s9 2 j0) + nN (s9 0 j0)) : se s9 n (s9 13 w) = none := by
  refine fnd_no (fun s hs => ?_)
  rw [seS_nat h hz hp hjz hs]
  refine decide_eq_false (fun q => hc ?_)
  have h1 := (h.1 s hs).2.2.1
  have := RF_uniq h hs hj (j := jz) (by omega) (by omega) ha hb
  rw [← this]
  exact q
theorem gm_lt (hz : s9 13 w = nI jz) (hp : pl ≤ 200) (hjz : jz < pl) : s9 13 w + nI 1 < nI pl ↔ ¬ jz + 1 = pl := by
  rw [hz, nI_add, nI_ltI (by omega) (by omega)]
  omega
theorem cnt_0 {p : Nat → Bool} {n : Nat} (h : ∀ k, k < n → p k = false) : cnt p n = 0 := by
  induction n with
  | zero => rfl
  | succ n ih =>
    simp only [cnt]
    rw [ih (fun k hk => h k (Nat.lt_succ_of_lt hk)), h n (Nat.lt_succ_self n)]
    rfl
theorem gm_wa (hPB : PB pl nw s9) (hz : s9 13 w = nI jz) (hp : pl ≤ 200) (he : jz + 1 = pl) : wa s9 nw (s9 13 w + nI 1) < 2 := by
  have : wa s9 nw (s9 13 w + nI 1) = 0 := by
    unfold wa
    refine cnt_0 (fun k hk => ?_)
    unfold waS
    by_cases q : s9 12 k = nI 1
    · obtain ⟨j, hj, e⟩ := hPB k hk q
      have hne : ¬ nI j = nI (jz + 1) := fun q2 => by
        have := (nI_eq (a := j) (b := jz + 1) (by omega) (by omega)).mp q2
        omega
      rw [e, hz, nI_add, decide_eq_false hne, Bool.and_false]
    · rw [decide_eq_false q, Bool.false_and]
  omega
theorem TH_eq (hTH : TH n σ k9) (hj : j0 < n) : thr σ k9 j0 = lt_ σ j0 2 ↔ ¬ 0 < k9 3 j0 := by
  obtain ⟨d, L, h1, h2, h3, h4⟩ := hTH j0 hj
  unfold thr
  rw [h1, h2, pk_sub h3, nI_eq (by omega) (by omega), show (0 : Int32) = nI 0 from rfl, nI_ltI (by omega) (by omega)]
  omega
theorem TH_up (hTH : TH n σ k9) (hj : j0 < n) (hd : 0 < k9 3 j0) : TH n σ (up2 k9 3 j0 (k9 3 j0 - nI 1)) := by
  intro s hs
  obtain ⟨d, L, h1, h2, h3, h4⟩ := hTH s hs
  by_cases q : s = j0
  · subst q
    have hd : 0 < d := by
      rw [h1, show (0 : Int32) = nI 0 from rfl, nI_ltI (by omega) (by omega)] at hd
      exact hd
    refine ⟨d - 1, L, ?_, h2, by omega, h4⟩
    rw [up2_at, if_pos ⟨rfl, rfl⟩, h1, pk_sub (by omega)]
  · exact ⟨d, L, by rw [up2_at, if_neg (fun z => q z.2)]; exact h1, h2, h3, h4⟩
theorem thE_up : up2 (thE σ η k9) 2 j0 (thE σ η k9 2 j0 + nI 1) = thE σ η (up2 k9 3 j0 (k9 3 j0 - nI 1)) := by
  funext r i
  rw [up2_at]
  unfold thE va_up thr
  by_cases h : r = 2
  · subst h
    simp only [if_true]
    by_cases q : i = j0
    · subst q
      rw [if_pos ⟨trivial, rfl⟩, up2_at, if_pos ⟨rfl, rfl⟩]
      generalize lt_ σ i 2 = x
      generalize k9 3 i = y
      apply Int32.toBitVec_inj.mp
      simp only [Int32.toBitVec_add, Int32.toBitVec_sub]
      generalize x.toBitVec = a
      generalize y.toBitVec = b
      generalize (nI 1).toBitVec = c
      rw [BitVec.sub_eq_add_neg, BitVec.sub_eq_add_neg, BitVec.sub_eq_add_neg, BitVec.neg_add, BitVec.sub_eq_add_neg, BitVec.neg_neg, BitVec.add_assoc]
    · rw [if_neg (fun z => q z.2), up2_at, if_neg (fun z => q z.2)]
  · simp only [if_neg h]
    rw [if_neg (fun z => h z.1)]
theorem ch1_m {τ : Sg} : up2 (up2 (up2 τ 13 w (-1)) 12 w (nI 2)) 15 w (τ 17 0) = ch1 w τ := by
  unfold ch1
  funext r i
  simp only [up2_at]
  by_cases h : r = 15
  · subst h; simp
  · by_cases h2 : r = 12
    · subst h2; simp
    · by_cases h3 : r = 13
      · subst h3; simp
      · simp [h, h2, h3]
theorem PB_walk {τ : Sg} (hPB : PB pl nw s9) (h12 : τ 12 = s9 12) (h13 : ∀ o, o ≠ w → τ 13 o = s9 13 o) (hw : ∃ j, j < pl ∧ τ 13 w = nI j) : PB pl nw τ := by
  intro o ho q
  by_cases z : o = w
  · subst z; exact hw
  · rw [h12] at q
    rw [h13 o z]
    exact hPB o ho q
theorem PB_home {τ : Sg} (hPB : PB pl nw s9) (h12 : τ 12 w = nI 2) (h12' : ∀ o, o ≠ w → τ 12 o = s9 12 o) (h13 : ∀ o, o ≠ w → τ 13 o = s9 13 o) : PB pl nw τ := by
  intro o ho q
  by_cases z : o = w
  · subst z
    rw [h12] at q
    exact absurd q (by decide)
  · rw [h12' o z] at q
    rw [h13 o z]
    exact hPB o ho q
end GM
theorem pcQ_t {s : Nat} {a b : Sg} (h : 0 < b 3 s) : pcQ s (a, b) = (up2 a 8 s (a 8 s + nI 1), up2 b 3 s (b 3 s - nI 1)) := if_pos h
theorem pcQ_f {s : Nat} {a b : Sg} (h : ¬ 0 < b 3 s) : pcQ s (a, b) = (up2 a 9 s (a 9 s + nI 1), b) := if_neg h
theorem pcB_t {s : Nat} {a b : Sg} (h : 0 < b 3 s) : pcB s (a, b) = true := decide_eq_true h
theorem pcB_f {s : Nat} {a b : Sg} (h : ¬ 0 < b 3 s) : pcB s (a, b) = false := decide_eq_false h
theorem thE_id {σ η κ : Sg} (h : η 2 = thr σ κ) : thE σ η κ = η := by
  funext r
  unfold thE va_up
  split
  · rename_i q; rw [q, h]
  · rfl
theorem wl_next {n pl nw w m : Nat} {q : P2} {F : Bool × P2} {b : Bool} {q' : P2} {c : Prop} [Decidable c] (hW : wl n pl nw w (m + 1) (decide c, q) = F) (h : c) (hg : g1 n pl nw w q = (b, q')) : wl n pl nw w m (b, q') = F := by
  rw [decide_eq_true h] at hW
  simp only [wl] at hW
  rw [if_pos trivial, hg] at hW
  exact hW
theorem wl_end {n pl nw w m : Nat} {q : P2} {F : Bool × P2} {q' : P2} {c : Prop} [Decidable c] (hW : wl n pl nw w (m + 1) (decide c, q) = F) (h : c) (hg : g1 n pl nw w q = (false, q')) : F.2 = q' := by
  have := wl_next hW h hg
  rw [wl_f] at this
  rw [← this]
theorem wl_out {n pl nw w m : Nat} {q : P2} {F : Bool × P2} {c : Prop} [Decidable c] (hW : wl n pl nw w m (decide c, q) = F) (h : m = 0 ∨ ¬ c) : F.2 = q := by
  rcases h with h | h
  · subst h
    rw [← hW]
    rfl
  · rw [decide_eq_false h, wl_f] at hW
    rw [← hW]
section GMS
variable {n pl nw w j0 : Nat} {s9 k9 : Sg}
theorem gs_d (hwa : wa s9 nw (s9 13 w + nI 1) < 2) (hse : se s9 n (s9 13 w) = none) (hz : s9 13 w + nI 1 < nI pl) : g1 n pl nw w (s9, k9) = (true, (up2 s9 13 w (s9 13 w + nI 1), k9)) := g1_d hwa hse hz
theorem gs_f (hwa : wa s9 nw (s9 13 w + nI 1) < 2) (hse : se s9 n (s9 13 w) = some j0) (hp : 0 < k9 3 j0) (hz : s9 13 w + nI 1 < nI pl) : g1 n pl nw w (s9, k9) = (true, (up2 (up2 s9 8 j0 (s9 8 j0 + nI 1)) 13 w (s9 13 w + nI 1), up2 k9 3 j0 (k9 3 j0 - nI 1))) := by
  rw [g1_f hwa hse (pcB_t hp) hz, pcQ_t hp]
theorem gs_e (hwa : wa s9 nw (s9 13 w + nI 1) < 2) (hse : se s9 n (s9 13 w) = some j0) (hp : 0 < k9 3 j0) (hz : ¬ s9 13 w + nI 1 < nI pl) : g1 n pl nw w (s9, k9) = (false, (up2 (up2 (up2 (up2 s9 8 j0 (s9 8 j0 + nI 1)) 13 w (-1)) 12 w (nI 2)) 15 w ((up2 s9 8 j0 (s9 8 j0 + nI 1)) 17 0), up2 k9 3 j0 (k9 3 j0 - nI 1))) := by
  rw [g1_e hwa hse (pcB_t hp) hz, pcQ_t hp, ch1_m]
theorem gs_b (hwa : wa s9 nw (s9 13 w + nI 1) < 2) (hse : se s9 n (s9 13 w) = some j0) (hp : ¬ 0 < k9 3 j0) : g1 n pl nw w (s9, k9) = (false, (up2 s9 9 j0 (s9 9 j0 + nI 1), k9)) := by
  rw [g1_b hwa hse (pcB_f hp), pcQ_f hp]
end GMS
