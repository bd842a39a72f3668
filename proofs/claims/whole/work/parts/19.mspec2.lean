/-! the model's burning and lighting -/
theorem lossOf_le {x : Int32} (h : x ≤ nI 5) : lossOf x = nI 1 := lossOf_t (by rw [Int32.lt_iff_toInt_lt]; rw [Int32.le_iff_toInt_le] at h; have e5 : (nI 5).toInt = 5 := (by decide); have e6 : (nI 6).toInt = 6 := (by decide); omega)
theorem lossOf_nle {x : Int32} (h : ¬ x ≤ nI 5) : lossOf x = nI 2 := lossOf_f (by intro q; apply h; rw [Int32.lt_iff_toInt_lt] at q; rw [Int32.le_iff_toInt_le]; have e5 : (nI 5).toInt = 5 := (by decide); have e6 : (nI 6).toInt = 6 := (by decide); omega)
theorem mx0_nn (x : Int32) : 0 ≤ mx0 x := by
  unfold mx0
  split
  · rename_i h
    exact Int32.le_of_lt h
  · decide
theorem mb_z {x g : Int32} {k : Nat} {F : Sg} (hg : lossOf x = g) (h1 : ¬ F 11 k = 0) (h2 : ¬ F 12 k = nI 2) (h3 : mx0 (F 10 k - g) = 0) : bd1 (lossOf x) k F = up2 (up2 F 10 k (mx0 (F 10 k - g))) 11 k (nI 0) := by
  subst hg
  exact bd1_a h1 h2 (by rw [h3]; decide)
theorem up2_id {σ : Sg} {r i : Nat} {x : Int32} (h : σ r i = x) : up2 σ r i x = σ := by
  funext a b
  rw [up2_at]
  split
  · rename_i q
    rw [q.1, q.2, h]
  · rfl
theorem up2_up2 {σ : Sg} {r i : Nat} {x y : Int32} : up2 (up2 σ r i x) r i y = up2 σ r i y := by
  funext a b
  rw [up2_at, up2_at, up2_at]
  split <;> rfl
theorem mb_n {x g : Int32} {k : Nat} {F : Sg} (hz : bz F) (hg : lossOf x = g) (h1 : ¬ F 11 k = 0) (h2 : ¬ F 12 k = nI 2) (h3 : ¬ mx0 (F 10 k - g) = 0) : bd1 (lossOf x) k F = up2 F 10 k (mx0 (F 10 k - g)) := by
  subst hg
  rw [bd1_b h1 h2 (fun q => h3 (Int32.le_antisymm q (mx0_nn _)))]
  refine up2_id ?_
  rw [up2_row _ _ _ _ (by omega)]
  rcases hz k with q | q
  · exact absurd q h1
  · exact q
theorem foldN_bz {g : Int32} {σ : Sg} (h : bz σ) (n : Nat) : bz (foldN (bd1 g) n σ) :=
  foldN_inv (P := bz) h (fun w τ _ h => by
    unfold bd1
    split
    · refine bz_up (bz_row h (up2_row _ _ _ _ (by omega))) ?_
      split
      · exact Or.inl rfl
      · exact Or.inr rfl
    · exact h)
/-- the wicks are not below 0 -/
def wz (σ : Sg) : Prop := ∀ i, 0 ≤ σ 10 i
theorem bdF_wz {x : Int32} {nw : Nat} {σ : Sg} (h : wz σ) : wz (bdF x nw σ) :=
  foldN_inv (P := wz) h (fun w τ _ h => by
    unfold bd1
    split
    · intro i
      rw [up2_at, if_neg (fun q => absurd q.1 (by decide)), up2_at]
      split
      · exact mx0_nn _
      · exact h i
    · exact h)
theorem wz_row {σ τ : Sg} (h : wz σ) (e : τ 10 = σ 10) : wz τ := fun i => by rw [e]; exact h i
/-- the lanterns that light up, by what burned before -/
def ltB (τ : Sg) (w o : Nat) : Bool := nbr τ w o && decide (τ 11 o = nI 1)
def lt9 (τ : Sg) (nw w : Nat) : Bool := decide (τ 12 w = nI 1) && (decide (¬ τ 10 w = 0) && anyN (ltB τ w) nw)
def lg1 (τ : Sg) (nw w : Nat) (σ : Sg) : Sg := if lt9 τ nw w = true then up2 σ 11 w (nI 1) else σ
theorem lg1_t {τ : Sg} {nw w : Nat} {σ : Sg} (h : lt9 τ nw w = true) : lg1 τ nw w σ = up2 σ 11 w (nI 1) := if_pos h
theorem lg1_f {τ : Sg} {nw w : Nat} {σ : Sg} (h : lt9 τ nw w = false) : lg1 τ nw w σ = σ := if_neg (by rw [h]; decide)
theorem anyN_congr {p q : Nat → Bool} {n : Nat} (h : ∀ k, k < n → p k = q k) : anyN p n = anyN q n := by
  induction n with
  | zero => rfl
  | succ n ih => simp only [anyN]; rw [ih (fun k hk => h k (Nat.lt_succ_of_lt hk)), h n (Nat.lt_succ_self n)]
theorem cnt_congr {p q : Nat → Bool} {n : Nat} (h : ∀ k, k < n → p k = q k) : cnt p n = cnt q n := by
  induction n with
  | zero => rfl
  | succ n ih => simp only [cnt]; rw [ih (fun k hk => h k (Nat.lt_succ_of_lt hk)), h n (Nat.lt_succ_self n)]
theorem nbr_rows {σ τ : Sg} (h1 : τ 12 = σ 12) (h2 : τ 13 = σ 13) (i j : Nat) : nbr τ i j = nbr σ i j := by unfold nbr; rw [h1, h2]
theorem nz1 {x : Int32} (h : x = nI 0 ∨ x = nI 1) : (¬ x = 0) ↔ x = nI 1 := by
  rcases h with h | h <;> subst h <;> decide
theorem le_lg {κ : Sg} {nw : Nat} {τ : Sg} (hz : bz τ) (hw : wz τ) : (leF nw (τ, κ)).1 = foldN (lg1 τ nw) nw τ := by
  show foldN (le1 (leK (τ, κ)) nw) nw τ = _
  have key : ∀ k, foldN (le1 (leK (τ, κ)) nw) k τ = foldN (lg1 τ nw) k τ ∧ ∀ r, r ≠ 11 → foldN (lg1 τ nw) k τ r = τ r := by
    intro k
    induction k with
    | zero => exact ⟨rfl, fun _ _ => rfl⟩
    | succ k ih =>
      obtain ⟨e, hr⟩ := ih
      refine ⟨?_, fun r h => ?_⟩
      · show le1 (leK (τ, κ)) nw k (foldN (le1 (leK (τ, κ)) nw) k τ) = lg1 τ nw k (foldN (lg1 τ nw) k τ)
        rw [e]
        have hb : bb (foldN (lg1 τ nw) k τ) (leK (τ, κ)) nw k = anyN (ltB τ k) nw := by
          unfold bb
          refine anyN_congr (fun o _ => ?_)
          unfold bbS ltB
          rw [nbr_rows (hr 12 (by omega)) (hr 13 (by omega)), Bool.and_comm]
          congr 1
          refine decide_eq_decide.mpr ?_
          show (¬ τ 11 o = 0) ↔ _
          exact nz1 (hz o)
        have h10 : (¬ τ 10 k ≤ 0) ↔ ¬ τ 10 k = 0 := not_congr ⟨fun q => Int32.le_antisymm q (hw k), fun q => by rw [q]; decide⟩
        have : (foldN (lg1 τ nw) k τ 12 k = nI 1 ∧ ¬ foldN (lg1 τ nw) k τ 10 k ≤ 0 ∧ bb (foldN (lg1 τ nw) k τ) (leK (τ, κ)) nw k = true) ↔ lt9 τ nw k = true := by
          rw [hr 12 (by omega), hr 10 (by omega), hb, h10]
          unfold lt9
          simp
        generalize foldN (lg1 τ nw) k τ = F at this ⊢
        unfold le1 lg1
        by_cases q : lt9 τ nw k = true
        · rw [if_pos (this.mpr q), if_pos q]
        · rw [if_neg (fun z => q (this.mp z)), if_neg q]
      · show lg1 τ nw k (foldN (lg1 τ nw) k τ) r = τ r
        unfold lg1
        split
        · rw [up2_row _ _ _ _ h]; exact hr r h
        · exact hr r h
  exact (key nw).1
theorem lt9_0 {τ : Sg} {nw w : Nat} (h : ¬ τ 12 w = nI 1) : lt9 τ nw w = false := by unfold lt9; simp [h]
theorem lt9_1 {τ : Sg} {nw w : Nat} (h : τ 10 w = 0) : lt9 τ nw w = false := by unfold lt9; simp [h]
theorem lt9_a {τ : Sg} {nw w : Nat} (h : τ 12 w = nI 1) (h2 : ¬ τ 10 w = 0) : lt9 τ nw w = anyN (ltB τ w) nw := by unfold lt9; simp [h, h2]
/-- the row of lights, of the first k -/
def lgE (τ : Sg) (nw : Nat) (η : Sg) (k : Nat) : Sg := va_up η 1 (cpk (fun w => zI (lt9 τ nw w)) (η 1) k)
theorem lgE_0 {τ : Sg} {nw : Nat} {η : Sg} : lgE τ nw η 0 = η := by
  unfold lgE
  rw [cpk_0]
  funext j
  unfold va_up
  split
  · rename_i h; rw [h]
  · rfl
theorem lgE_s {τ : Sg} {nw : Nat} {η : Sg} {k : Nat} {x : Int32} (h : x = zI (lt9 τ nw k)) : up2 (lgE τ nw η k) 1 k x = lgE τ nw η (k + 1) := by
  subst h
  unfold lgE up2
  funext j
  unfold va_up
  split
  · rename_i h
    simp only [if_true]
    exact cpk_s (fun w => zI (lt9 τ nw w)) (η 1) k
  · rfl
theorem lgE_at {τ : Sg} {nw : Nat} {η : Sg} {k w : Nat} (h : w < k) : lgE τ nw η k 1 w = zI (lt9 τ nw w) := by
  unfold lgE va_up cpk
  simp [h]
theorem anyN_s1 {p : Nat → Bool} {k : Nat} (h : anyN p k = true ∨ p k = true) : zI (anyN p (k + 1)) = nI 1 := by
  simp only [anyN]
  rcases h with h | h <;> simp [h, zI]
theorem anyN_s0 {p : Nat → Bool} {k : Nat} (h : anyN p k = false) (h2 : p k = false) : zI (anyN p (k + 1)) = nI 0 := by
  simp [anyN, h, h2, zI]
