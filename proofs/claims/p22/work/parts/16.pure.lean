/-! PURE WORDS of whole, as they stand there (parts 16 to 46) -/
-- 16.mworld.lean.txt
/-! THE MODEL'S WORLD (wM): the same rows s; the route and the people lie in one row each (encR, encP); η: rows of notes (0 learns 1 lights 2 through 3 went 4 ahead) -/
def rid : Nat → Nat
  | 0 => 0
  | 1 => 1
  | 2 => 2
  | 3 => 8
  | _ => 9
def pid : Nat → Nat
  | 0 => 4
  | 1 => 10
  | 2 => 5
  | 3 => 11
  | 4 => 12
  | 5 => 13
  | 6 => 14
  | _ => 15
def encR (σ : Sg) : Nat → Int32 := fun j => σ (rid (j % 5)) (j / 5)
def encP (nw : Nat) (σ : Sg) : Nat → Int32 := fun j => if (j % 8 = 5 ∨ j % 8 = 7) ∧ nw ≤ j / 8 then 0 else σ (pid (j % 8)) (j / 8)
theorem rid_ne {k r : Nat} (h : r ≠ 0 ∧ r ≠ 1 ∧ r ≠ 2 ∧ r ≠ 8 ∧ r ≠ 9) : r ≠ rid k := by
  unfold rid
  split <;> omega
-- 17.mspec.lean.txt
/-! THE ROUTE, THE WALKERS' PLACES, and what the model's questions say of them -/
/-- the route of n stretches and pl places -/
def RF (n pl : Nat) (σ : Sg) : Prop :=
  (∀ s, s < n → σ 0 s = nI (nN (σ 0 s)) ∧ σ 2 s = nI (nN (σ 2 s)) ∧ 1 ≤ nN (σ 0 s) ∧ nN (σ 0 s) ≤ 20 ∧ nN (σ 2 s) + nN (σ 0 s) ≤ pl) ∧
  (0 < n → nN (σ 2 0) = 0) ∧ (∀ s, s + 1 < n → nN (σ 2 (s + 1)) = nN (σ 2 s) + nN (σ 0 s)) ∧ (0 < n → pl = nN (σ 2 (n - 1)) + nN (σ 0 (n - 1))) ∧ (n = 0 → pl = 0)
/-- who walks is at a place of the route -/
def PB (pl nw : Nat) (σ : Sg) : Prop := ∀ w, w < nw → σ 12 w = nI 1 → ∃ j, j < pl ∧ σ 13 w = nI j
def soS (σ : Sg) (z : Int32) (s : Nat) : Bool := decide (z < σ 2 s + σ 0 s)
/-- the stretch of a place: the first one that ends behind it -/
def so (σ : Sg) (n : Nat) (z : Int32) : Option Nat := fnd (soS σ z) n
def plv (σ : Sg) (n : Nat) : Int32 := if n = 0 then nI 0 else σ 2 (n - 1) + σ 0 (n - 1)
theorem RF_plv {n pl : Nat} {σ : Sg} (h : RF n pl σ) : plv σ n = nI pl := by
  unfold plv
  obtain ⟨h1, h2, h3, h4, h5⟩ := h
  split
  · rename_i hn
    rw [h5 hn]
  · rename_i hn
    have hn : 0 < n := by omega
    obtain ⟨a, b, -⟩ := h1 (n - 1) (by omega)
    rw [a, b, nI_add, h4 hn]
theorem RF_end {n pl : Nat} {σ : Sg} (h : RF n pl σ) {s : Nat} (hs : s < n) : σ 2 s + σ 0 s = nI (nN (σ 2 s) + nN (σ 0 s)) := by
  obtain ⟨a, b, -⟩ := h.1 s hs
  conv => lhs; rw [a, b, nI_add]
theorem RF_soS {n pl : Nat} {σ : Sg} (h : RF n pl σ) (hpl : pl ≤ 200) {s j : Nat} (hs : s < n) (hj : j < 2 ^ 30) : soS σ (nI j) s = decide (j < nN (σ 2 s) + nN (σ 0 s)) := by
  unfold soS
  rw [RF_end h hs]
  have h9 := (h.1 s hs).2.2.2.2
  by_cases q : j < nN (σ 2 s) + nN (σ 0 s)
  · rw [decide_eq_true q, decide_eq_true ((nI_ltI (by omega) (by omega)).mpr q)]
  · rw [decide_eq_false q, decide_eq_false (fun z => q ((nI_ltI (by omega) (by omega)).mp z))]
/-- a place of the route lies on one stretch -/
theorem RF_on {n pl : Nat} {σ : Sg} (h : RF n pl σ) (hpl : pl ≤ 200) {j : Nat} (hj : j < pl) : ∃ s, s < n ∧ so σ n (nI j) = some s ∧ nN (σ 2 s) ≤ j ∧ j < nN (σ 2 s) + nN (σ 0 s) := by
  obtain ⟨h1, h2, h3, h4, h5⟩ := id h
  have hn : 0 < n := by
    rcases Nat.eq_zero_or_pos n with q | q
    · have := h5 q; omega
    · exact q
  have key : ∀ m, m ≤ n → (∀ s, s < m → nN (σ 2 s) + nN (σ 0 s) ≤ j) ∧ fnd (soS σ (nI j)) m = none ∨ ∃ s, s < m ∧ fnd (soS σ (nI j)) m = some s ∧ nN (σ 2 s) ≤ j ∧ j < nN (σ 2 s) + nN (σ 0 s) := by
    intro m
    induction m with
    | zero => intro _; exact Or.inl ⟨fun s hs => absurd hs (Nat.not_lt_zero _), rfl⟩
    | succ m ih =>
      intro hm
      rcases ih (by omega) with ⟨a, b⟩ | ⟨s, a, b, c, d⟩
      · by_cases q : j < nN (σ 2 m) + nN (σ 0 m)
        · refine Or.inr ⟨m, Nat.lt_succ_self m, fnd_s (Nat.lt_succ_self m) b (by rw [RF_soS h hpl (by omega) (by omega)]; exact decide_eq_true q), ?_, q⟩
          rcases Nat.eq_zero_or_pos m with z | z
          · rw [z, h2 hn]; exact Nat.zero_le _
          · have e1 := h3 (m - 1) (by omega)
            have e2 := a (m - 1) (by omega)
            rw [show m - 1 + 1 = m by omega] at e1
            omega
        · refine Or.inl ⟨fun s hs => ?_, fnd_n b (by rw [RF_soS h hpl (by omega) (by omega)]; exact decide_eq_false q)⟩
          rcases Nat.lt_or_ge s m with z | z
          · exact a s z
          · have : s = m := by omega
            subst this; omega
      · refine Or.inr ⟨s, by omega, ?_, c, d⟩
        simp only [fnd, b]
  rcases key n (Nat.le_refl n) with ⟨a, b⟩ | ⟨s, a, b, c, d⟩
  · have := a (n - 1) (by omega)
    have := h4 hn
    omega
  · exact ⟨s, a, b, c, d⟩
theorem RF_mono {n pl : Nat} {σ : Sg} (h : RF n pl σ) : ∀ {s t : Nat}, t < n → s < t → nN (σ 2 s) + nN (σ 0 s) ≤ nN (σ 2 t) := by
  intro s t
  induction t with
  | zero => intro _ hs; exact absurd hs (Nat.not_lt_zero _)
  | succ t ih =>
    intro ht hs
    have e1 := h.2.2.1 t ht
    rcases Nat.lt_or_ge s t with q | q
    · have := ih (by omega) q; omega
    · have : s = t := by omega
      subst this; omega
theorem RF_uniq {n pl : Nat} {σ : Sg} (h : RF n pl σ) {j s t : Nat} (hs : s < n) (ht : t < n) (h1 : nN (σ 2 s) ≤ j) (h2 : j < nN (σ 2 s) + nN (σ 0 s)) (h3 : nN (σ 2 t) ≤ j) (h4 : j < nN (σ 2 t) + nN (σ 0 t)) : s = t := by
  rcases Nat.lt_trichotomy s t with q | q | q
  · have := RF_mono h ht q; omega
  · exact q
  · have := RF_mono h hs q; omega
theorem has_isIn {n : Nat} (hn : n ≤ 1000) (z : Int32) : (decide (¬ z < nI 0) && decide (¬ nI n - nI 1 < z)) = has n z := by
  unfold has
  congr 1
  refine decide_eq_decide.mpr (not_congr ?_)
  by_cases hz : z < 0
  · have h0 : ¬ nI n ≤ z := fun q => nI_pos (n := n) (by omega) (Int32.lt_of_le_of_lt q hz)
    rcases Nat.eq_zero_or_pos n with q | q
    · subst q
      have e : nI 0 - nI 1 = -1 := by decide
      rw [e]
      refine ⟨fun h => ?_, fun h => absurd h h0⟩
      exfalso
      rw [Int32.lt_iff_toInt_lt] at h hz
      have e1 : ((-1 : Int32)).toInt = -1 := by decide
      have e2 : ((0 : Int32)).toInt = 0 := by decide
      omega
    · rw [pk_sub q]
      refine ⟨fun h => ?_, fun h => absurd h h0⟩
      exact absurd (Int32.lt_trans h hz) (nI_pos (by omega))
  · obtain ⟨j, hj, rfl⟩ := nI_of hz
    rcases Nat.eq_zero_or_pos n with q | q
    · subst q
      refine ⟨fun _ => nI_le (Nat.zero_le _) hj, fun _ => ?_⟩
      rw [Int32.lt_iff_toInt_lt, nI_toInt hj]
      have e1 : (nI 0 - nI 1).toInt = -1 := by decide
      omega
    · rw [pk_sub q, nI_ltI (by omega) hj, nI_leI (by omega) hj]
      omega
theorem absle (x y : Int32) : (nI 1 < (if 0 ≤ x - y then x - y else 0 - (x - y))) ↔ (nI 1 < x - y ∨ nI 1 < y - x) := by
  have e1 : (nI 1).toInt = 1 := by decide
  have e0 : ((0 : Int32)).toInt = 0 := by decide
  have hx1 := Int32.le_toInt x
  have hx2 := Int32.toInt_lt x
  have hy1 := Int32.le_toInt y
  have hy2 := Int32.toInt_lt y
  have a1 := Int32.toInt_sub x y
  have a2 := Int32.toInt_sub y x
  have a3 := Int32.toInt_sub 0 (x - y)
  simp only [Int.bmod] at a1 a2 a3
  split
  · rename_i h
    rw [Int32.le_iff_toInt_le, e0] at h
    rw [Int32.lt_iff_toInt_lt, Int32.lt_iff_toInt_lt, e1]
    split at a1 <;> split at a2 <;> omega
  · rename_i h
    rw [Int32.le_iff_toInt_le, e0] at h
    rw [Int32.lt_iff_toInt_lt, Int32.lt_iff_toInt_lt, Int32.lt_iff_toInt_lt, e1]
    rw [e0] at a3
    split at a1 <;> split at a2 <;> split at a3 <;> omega
def absI (x : Int32) : Int32 := if 0 ≤ x then x else 0 - x
theorem nbr_abs (σ : Sg) (i j : Nat) : nbr σ i j = (decide (i ≠ j) && (decide (σ 12 i = nI 1) && (decide (σ 12 j = nI 1) && decide (¬ nI 1 < absI (σ 13 i - σ 13 j))))) := by
  have h := absle (σ 13 i) (σ 13 j)
  unfold nbr
  have : (decide (¬ nI 1 < σ 13 i - σ 13 j) && decide (¬ nI 1 < σ 13 j - σ 13 i)) = decide (¬ nI 1 < absI (σ 13 i - σ 13 j)) := by
    rw [← Bool.decide_and]
    refine decide_eq_decide.mpr ?_
    unfold absI
    rw [h, not_or]
  rw [this]
-- 19.mspec2.lean.txt
/-! the model's burning and lighting -/
theorem lossOf_le {x : Int32} (h : x ≤ nI 5) : lossOf x = nI 1 := lossOf_t (by rw [Int32.lt_iff_toInt_lt]; rw [Int32.le_iff_toInt_le] at h; have e5 : (nI 5).toInt = 5 := (by decide); have e6 : (nI 6).toInt = 6 := (by decide); omega)
theorem lossOf_nle {x : Int32} (h : ¬ x ≤ nI 5) : lossOf x = nI 2 := lossOf_f (by intro q; apply h; rw [Int32.lt_iff_toInt_lt] at q; rw [Int32.le_iff_toInt_le]; have e5 : (nI 5).toInt = 5 := (by decide); have e6 : (nI 6).toInt = 6 := (by decide); omega)
theorem mx0_nn (x : Int32) : 0 ≤ mx0 x := by
  unfold mx0
  split
  · rename_i h
    exact Int32.le_of_lt h
  · decide
theorem mb_z {x g : Int32} {k : Nat} {F : Sg} (hg : lossOf x = g) (h1 : ¬ F 11 k = 0) (h2 : ¬ F 12 k = nI 2) (h3 : mx0 (F 10 k - g) = 0) : bd1 (lossOf x) k F = up2 (up2 F 10 k (mx0 (F 10 k - g))) 11 k (nI 0) := by
  subst hg
  exact bd1_a h1 h2 (by rw [h3]; decide)
theorem up2_id {σ : Sg} {r i : Nat} {x : Int32} (h : σ r i = x) : up2 σ r i x = σ := by
  funext a b
  rw [up2_at]
  split
  · rename_i q
    rw [q.1, q.2, h]
  · rfl
theorem up2_up2 {σ : Sg} {r i : Nat} {x y : Int32} : up2 (up2 σ r i x) r i y = up2 σ r i y := by
  funext a b
  rw [up2_at, up2_at, up2_at]
  split <;> rfl
theorem mb_n {x g : Int32} {k : Nat} {F : Sg} (hz : bz F) (hg : lossOf x = g) (h1 : ¬ F 11 k = 0) (h2 : ¬ F 12 k = nI 2) (h3 : ¬ mx0 (F 10 k - g) = 0) : bd1 (lossOf x) k F = up2 F 10 k (mx0 (F 10 k - g)) := by
  subst hg
  rw [bd1_b h1 h2 (fun q => h3 (Int32.le_antisymm q (mx0_nn _)))]
  refine up2_id ?_
  rw [up2_row _ _ _ _ (by omega)]
  rcases hz k with q | q
  · exact absurd q h1
  · exact q
theorem foldN_bz {g : Int32} {σ : Sg} (h : bz σ) (n : Nat) : bz (foldN (bd1 g) n σ) :=
  foldN_inv (P := bz) h (fun w τ _ h => by
    unfold bd1
    split
    · refine bz_up (bz_row h (up2_row _ _ _ _ (by omega))) ?_
      split
      · exact Or.inl rfl
      · exact Or.inr rfl
    · exact h)
/-- the wicks are not below 0 -/
def wz (σ : Sg) : Prop := ∀ i, 0 ≤ σ 10 i
theorem bdF_wz {x : Int32} {nw : Nat} {σ : Sg} (h : wz σ) : wz (bdF x nw σ) :=
  foldN_inv (P := wz) h (fun w τ _ h => by
    unfold bd1
    split
    · intro i
      rw [up2_at, if_neg (fun q => absurd q.1 (by decide)), up2_at]
      split
      · exact mx0_nn _
      · exact h i
    · exact h)
theorem wz_row {σ τ : Sg} (h : wz σ) (e : τ 10 = σ 10) : wz τ := fun i => by rw [e]; exact h i
/-- the lanterns that light up, by what burned before -/
def ltB (τ : Sg) (w o : Nat) : Bool := nbr τ w o && decide (τ 11 o = nI 1)
def lt9 (τ : Sg) (nw w : Nat) : Bool := decide (τ 12 w = nI 1) && (decide (¬ τ 10 w = 0) && anyN (ltB τ w) nw)
def lg1 (τ : Sg) (nw w : Nat) (σ : Sg) : Sg := if lt9 τ nw w = true then up2 σ 11 w (nI 1) else σ
theorem lg1_t {τ : Sg} {nw w : Nat} {σ : Sg} (h : lt9 τ nw w = true) : lg1 τ nw w σ = up2 σ 11 w (nI 1) := if_pos h
theorem lg1_f {τ : Sg} {nw w : Nat} {σ : Sg} (h : lt9 τ nw w = false) : lg1 τ nw w σ = σ := if_neg (by rw [h]; decide)
theorem anyN_congr {p q : Nat → Bool} {n : Nat} (h : ∀ k, k < n → p k = q k) : anyN p n = anyN q n := by
  induction n with
  | zero => rfl
  | succ n ih => simp only [anyN]; rw [ih (fun k hk => h k (Nat.lt_succ_of_lt hk)), h n (Nat.lt_succ_self n)]
theorem cnt_congr {p q : Nat → Bool} {n : Nat} (h : ∀ k, k < n → p k = q k) : cnt p n = cnt q n := by
  induction n with
  | zero => rfl
  | succ n ih => simp only [cnt]; rw [ih (fun k hk => h k (Nat.lt_succ_of_lt hk)), h n (Nat.lt_succ_self n)]
theorem nbr_rows {σ τ : Sg} (h1 : τ 12 = σ 12) (h2 : τ 13 = σ 13) (i j : Nat) : nbr τ i j = nbr σ i j := by unfold nbr; rw [h1, h2]
theorem nz1 {x : Int32} (h : x = nI 0 ∨ x = nI 1) : (¬ x = 0) ↔ x = nI 1 := by
  rcases h with h | h <;> subst h <;> decide
theorem le_lg {κ : Sg} {nw : Nat} {τ : Sg} (hz : bz τ) (hw : wz τ) : (leF nw (τ, κ)).1 = foldN (lg1 τ nw) nw τ := by
  show foldN (le1 (leK (τ, κ)) nw) nw τ = _
  have key : ∀ k, foldN (le1 (leK (τ, κ)) nw) k τ = foldN (lg1 τ nw) k τ ∧ ∀ r, r ≠ 11 → foldN (lg1 τ nw) k τ r = τ r := by
    intro k
    induction k with
    | zero => exact ⟨rfl, fun _ _ => rfl⟩
    | succ k ih =>
      obtain ⟨e, hr⟩ := ih
      refine ⟨?_, fun r h => ?_⟩
      · show le1 (leK (τ, κ)) nw k (foldN (le1 (leK (τ, κ)) nw) k τ) = lg1 τ nw k (foldN (lg1 τ nw) k τ)
        rw [e]
        have hb : bb (foldN (lg1 τ nw) k τ) (leK (τ, κ)) nw k = anyN (ltB τ k) nw := by
          unfold bb
          refine anyN_congr (fun o _ => ?_)
          unfold bbS ltB
          rw [nbr_rows (hr 12 (by omega)) (hr 13 (by omega)), Bool.and_comm]
          congr 1
          refine decide_eq_decide.mpr ?_
          show (¬ τ 11 o = 0) ↔ _
          exact nz1 (hz o)
        have h10 : (¬ τ 10 k ≤ 0) ↔ ¬ τ 10 k = 0 := not_congr ⟨fun q => Int32.le_antisymm q (hw k), fun q => by rw [q]; decide⟩
        have : (foldN (lg1 τ nw) k τ 12 k = nI 1 ∧ ¬ foldN (lg1 τ nw) k τ 10 k ≤ 0 ∧ bb (foldN (lg1 τ nw) k τ) (leK (τ, κ)) nw k = true) ↔ lt9 τ nw k = true := by
          rw [hr 12 (by omega), hr 10 (by omega), hb, h10]
          unfold lt9
          simp
        generalize foldN (lg1 τ nw) k τ = F at this ⊢
        unfold le1 lg1
        by_cases q : lt9 τ nw k = true
        · rw [if_pos (this.mpr q), if_pos q]
        · rw [if_neg (fun z => q (this.mp z)), if_neg q]
      · show lg1 τ nw k (foldN (lg1 τ nw) k τ) r = τ r
        unfold lg1
        split
        · rw [up2_row _ _ _ _ h]; exact hr r h
        · exact hr r h
  exact (key nw).1
theorem lt9_0 {τ : Sg} {nw w : Nat} (h : ¬ τ 12 w = nI 1) : lt9 τ nw w = false := by unfold lt9; simp [h]
theorem lt9_1 {τ : Sg} {nw w : Nat} (h : τ 10 w = 0) : lt9 τ nw w = false := by unfold lt9; simp [h]
theorem lt9_a {τ : Sg} {nw w : Nat} (h : τ 12 w = nI 1) (h2 : ¬ τ 10 w = 0) : lt9 τ nw w = anyN (ltB τ w) nw := by unfold lt9; simp [h, h2]
/-- the row of lights, of the first k -/
def lgE (τ : Sg) (nw : Nat) (η : Sg) (k : Nat) : Sg := va_up η 1 (cpk (fun w => zI (lt9 τ nw w)) (η 1) k)
theorem lgE_0 {τ : Sg} {nw : Nat} {η : Sg} : lgE τ nw η 0 = η := by
  unfold lgE
  rw [cpk_0]
  funext j
  unfold va_up
  split
  · rename_i h; rw [h]
  · rfl
theorem lgE_s {τ : Sg} {nw : Nat} {η : Sg} {k : Nat} {x : Int32} (h : x = zI (lt9 τ nw k)) : up2 (lgE τ nw η k) 1 k x = lgE τ nw η (k + 1) := by
  subst h
  unfold lgE up2
  funext j
  unfold va_up
  split
  · rename_i h
    simp only [if_true]
    exact cpk_s (fun w => zI (lt9 τ nw w)) (η 1) k
  · rfl
theorem lgE_at {τ : Sg} {nw : Nat} {η : Sg} {k w : Nat} (h : w < k) : lgE τ nw η k 1 w = zI (lt9 τ nw w) := by
  unfold lgE va_up cpk
  simp [h]
theorem anyN_s1 {p : Nat → Bool} {k : Nat} (h : anyN p k = true ∨ p k = true) : zI (anyN p (k + 1)) = nI 1 := by
  simp only [anyN]
  rcases h with h | h <;> simp [h, zI]
theorem anyN_s0 {p : Nat → Bool} {k : Nat} (h : anyN p k = false) (h2 : p k = false) : zI (anyN p (k + 1)) = nI 0 := by
  simp [anyN, h, h2, zI]
-- 21.mspec3.lean.txt
/-! the model's songs -/
def louder (σ : Sg) (x : Option Nat) (k : Nat) : Bool := match x with
  | none => true
  | some j => decide (¬ σ 5 k ≤ σ 5 j)
/-- from whom one learns: the loudest neighbour of the first k who knows the song -/
def lfo (σ : Sg) (w sg : Nat) : Nat → Option Nat
  | 0 => none
  | k + 1 => if nbr σ w k = true ∧ ¬ σ 16 (6 * k + sg) ≤ 0 ∧ louder σ (lfo σ w sg k) k = true then some k else lfo σ w sg k
def lrn (σ : Sg) (nw w sg : Nat) : Int32 := match lfo σ w sg nw with
  | none => nI 0
  | some j => if σ 6 sg ≤ σ 5 j + (if σ 11 w = 0 then nI 3 else nI 0) then (if σ 11 w + σ 11 j = nI 2 then rem99 (σ 16 (6 * j + sg)) + nI 1 else σ 16 (6 * j + sg)) else nI 0
theorem lfo_lt {σ : Sg} {w sg : Nat} : ∀ {k j : Nat}, lfo σ w sg k = some j → j < k
  | 0, j, h => by cases h
  | k + 1, j, h => by
    simp only [lfo] at h
    split at h
    · cases h; exact Nat.lt_succ_self _
    · exact Nat.lt_succ_of_lt (lfo_lt h)
section LFO
variable {σ : Sg} {w sg k j : Nat}
theorem lfo_0 (h : nbr σ w k = false) : lfo σ w sg (k + 1) = lfo σ w sg k := if_neg (fun q => by rw [h] at q; exact absurd q.1 (by decide))
theorem lfo_1 (h : σ 16 (6 * k + sg) ≤ 0) : lfo σ w sg (k + 1) = lfo σ w sg k := if_neg (fun q => q.2.1 h)
theorem lfo_n (h : nbr σ w k = true) (h2 : ¬ σ 16 (6 * k + sg) ≤ 0) (h3 : lfo σ w sg k = none) : lfo σ w sg (k + 1) = some k := if_pos ⟨h, h2, by rw [h3]; rfl⟩
theorem lfo_k (h : nbr σ w k = true) (h2 : ¬ σ 16 (6 * k + sg) ≤ 0) (h3 : lfo σ w sg k = some j) (h4 : ¬ σ 5 k ≤ σ 5 j) : lfo σ w sg (k + 1) = some k := if_pos ⟨h, h2, by rw [h3]; exact decide_eq_true h4⟩
theorem lfo_j (h3 : lfo σ w sg k = some j) (h4 : σ 5 k ≤ σ 5 j) : lfo σ w sg (k + 1) = some j := by
  simp only [lfo]
  rw [if_neg (fun q => by rw [h3] at q; exact absurd h4 (of_decide_eq_true q.2.2))]
  exact h3
end LFO
def lv9 (σ : Sg) (nw w s : Nat) : Int32 := if σ 12 w = nI 1 ∧ σ 16 (6 * w + s) = 0 then lrn σ nw w s else nI 0
theorem lv9_0 {σ : Sg} {nw w s : Nat} (h : ¬ σ 12 w = nI 1) : lv9 σ nw w s = nI 0 := if_neg (fun q => h q.1)
theorem lv9_1 {σ : Sg} {nw w s : Nat} (h : ¬ σ 16 (6 * w + s) = 0) : lv9 σ nw w s = nI 0 := if_neg (fun q => h q.2)
theorem lv9_a {σ : Sg} {nw w s : Nat} (h : σ 12 w = nI 1) (h2 : σ 16 (6 * w + s) = 0) : lv9 σ nw w s = lrn σ nw w s := if_pos ⟨h, h2⟩
/-- what is learnt, of the first w walkers and s songs of the next -/
def lnR (σ : Sg) (nw ns w s : Nat) (g : Nat → Int32) : Nat → Int32 := fun i => if (i / 6 < w ∧ i % 6 < ns) ∨ (i / 6 = w ∧ i % 6 < s) then lv9 σ nw (i / 6) (i % 6) else g i
def lnE (σ : Sg) (nw ns : Nat) (η : Sg) (w s : Nat) : Sg := va_up η 0 (lnR σ nw ns w s (η 0))
theorem lnE_0 {σ : Sg} {nw ns : Nat} {η : Sg} : lnE σ nw ns η 0 0 = η := by
  funext j
  unfold lnE va_up
  split
  · rename_i h
    subst h
    funext i
    unfold lnR
    rw [if_neg (by omega)]
  · rfl
theorem lnE_n {σ : Sg} {nw ns : Nat} {η : Sg} {w : Nat} : lnE σ nw ns η w ns = lnE σ nw ns η (w + 1) 0 := by
  unfold lnE
  congr 1
  funext i
  unfold lnR
  by_cases h : (i / 6 < w ∧ i % 6 < ns) ∨ (i / 6 = w ∧ i % 6 < ns)
  · rw [if_pos h, if_pos (by omega)]
  · rw [if_neg h, if_neg (by omega)]
theorem lnE_s {σ : Sg} {nw ns : Nat} {η : Sg} {w s : Nat} {x : Int32} (hs : s < 6) (h : x = lv9 σ nw w s) : up2 (lnE σ nw ns η w s) 0 (6 * w + s) x = lnE σ nw ns η w (s + 1) := by
  subst h
  unfold lnE up2
  funext j
  unfold va_up
  split
  · simp only [if_true]
    funext i
    unfold upd lnR
    by_cases h : i = 6 * w + s
    · subst h
      rw [if_pos rfl, if_pos (by omega), show (6 * w + s) / 6 = w by omega, show (6 * w + s) % 6 = s by omega]
    · rw [if_neg h]
      by_cases q : (i / 6 < w ∧ i % 6 < ns) ∨ (i / 6 = w ∧ i % 6 < s)
      · rw [if_pos q, if_pos (by omega)]
      · rw [if_neg q, if_neg (by omega)]
  · rfl
def knM (σ : Sg) (L : Nat → Int32) (i : Nat) : Int32 := if L i ≤ 0 then σ 16 i else L i
/-- the songs behind the model's sing, of the first k -/
def sgM (σ : Sg) (L : Nat → Int32) (k : Nat) : Sg := va_up σ 16 (cpk (knM σ L) (σ 16) k)
theorem sgM_0 {σ : Sg} {L : Nat → Int32} : sgM σ L 0 = σ := by
  funext j
  unfold sgM
  rw [cpk_0]
  unfold va_up
  split
  · rename_i h; rw [h]
  · rfl
theorem sgM_s {σ : Sg} {L : Nat → Int32} {k : Nat} {x : Int32} (h : x = knM σ L k) : up2 (sgM σ L k) 16 k x = sgM σ L (k + 1) := by
  subst h
  unfold sgM up2
  funext j
  unfold va_up
  split
  · simp only [if_true]
    exact cpk_s (knM σ L) (σ 16) k
  · rfl
theorem sgM_f {σ : Sg} {L : Nat → Int32} {k : Nat} (h : L k ≤ 0) : sgM σ L k = sgM σ L (k + 1) := by
  rw [← sgM_s (x := knM σ L k) rfl]
  refine (up2_id ?_).symm
  unfold sgM va_up cpk knM
  simp [h]
theorem sgM_at {σ : Sg} {L : Nat → Int32} {k r : Nat} (h : r ≠ 16) : sgM σ L k r = σ r := by unfold sgM va_up; rw [if_neg h]
-- 23.mspec4.lean.txt
/-! the model's going: one place, in the class's words -/
def thr (σ κ : Sg) : Nat → Int32 := fun s => lt_ σ s 2 - κ 3 s
/-- what the corners still let through: a number up to what they let -/
def TH (n : Nat) (σ κ : Sg) : Prop := ∀ s, s < n → ∃ d L, κ 3 s = nI d ∧ lt_ σ s 2 = nI L ∧ d ≤ L ∧ L ≤ 10
def thE (σ η κ : Sg) : Sg := va_up η 2 (thr σ κ)
theorem lt_rows {σ τ : Sg} (h1 : τ 1 = σ 1) (h7 : τ 7 = σ 7) (s : Nat) : ∀ k, lt_ τ s k = lt_ σ s k
  | 0 => by simp only [lt_, h1]
  | k + 1 => by simp only [lt_, h7, lt_rows h1 h7 s k]
theorem RF_rows {n pl : Nat} {σ τ : Sg} (h : RF n pl σ) (h0 : τ 0 = σ 0) (h2 : τ 2 = σ 2) : RF n pl τ := by
  unfold RF at h ⊢
  rw [h0, h2]
  exact h
section GM
variable {n pl nw w jz j0 : Nat} {σ s9 k9 η : Sg}
theorem gm_c (h : RF n pl s9) (hj : j0 < n) (hz : s9 13 w = nI jz) (hp : pl ≤ 200) (hjz : jz < pl) : s9 13 w = s9 2 j0 + s9 0 j0 - nI 1 ↔ jz + 1 = nN (s9 2 j0) + nN (s9 0 j0) := by
  obtain ⟨-, -, h1, h2, h3⟩ := h.1 j0 hj
  rw [RF_end h hj, pk_sub (by omega), hz, nI_eq (by omega) (by omega)]
  omega
theorem gm_e (h : RF n pl s9) (hz : s9 13 w = nI jz) (hp : pl ≤ 200) (hjz : jz < pl) : s9 13 w = plv s9 n - nI 1 ↔ jz + 1 = pl := by
  rw [RF_plv h, pk_sub (by omega), hz, nI_eq (by omega) (by omega)]
  omega
theorem gm_ec (h : RF n pl s9) (hj : j0 < n) (ha : nN (s9 2 j0) ≤ jz) (hb : jz < nN (s9 2 j0) + nN (s9 0 j0)) (he : jz + 1 = pl) : jz + 1 = nN (s9 2 j0) + nN (s9 0 j0) := by
  have h3 := (h.1 j0 hj).2.2.2.2
  omega
theorem seS_nat (h : RF n pl s9) (hz : s9 13 w = nI jz) (hp : pl ≤ 200) (hjz : jz < pl) {s : Nat} (hs : s < n) : seS s9 (s9 13 w) s = decide (jz + 1 = nN (s9 2 s) + nN (s9 0 s)) := by
  unfold seS
  refine decide_eq_decide.mpr ?_
  rw [eq_comm]
  exact gm_c h hs hz hp hjz
theorem fnd_one {p : Nat → Bool} {n j : Nat} (hj : j < n) (h : p j = true) (hu : ∀ s, s < n → p s = true → s = j) : fnd p n = some j := by
  have key : ∀ m, m ≤ j → fnd p m = none := by
    intro m
    induction m with
    | zero => intro _; rfl
    | succ m ih =>
      intro hm
      refine fnd_n (ih (by omega)) ?_
      cases hp : p m
      · rfl
      · exact absurd (hu m (by omega) hp) (by omega)
  exact fnd_s hj (key j (Nat.le_refl j)) h
theorem fnd_no {p : Nat → Bool} {n : Nat} (h : ∀ s, s < n → p s = false) : fnd p n = none := by
  induction n with
  | zero => rfl
  | succ n ih => exact fnd_n (ih (fun s hs => h s (Nat.lt_succ_of_lt hs))) (h n (Nat.lt_succ_self n))
theorem gm_sc (h : RF n pl s9) (hj : j0 < n) (hz : s9 13 w = nI jz) (hp : pl ≤ 200) (hjz : jz < pl) (ha : nN (s9 2 j0) ≤ jz) (hb : jz < nN (s9 2 j0) + nN (s9 0 j0)) (hc : jz + 1 = nN (s9 2 j0) + nN (s9 0 j0)) : se s9 n (s9 13 w) = some j0 := by
  refine fnd_one hj (by rw [seS_nat h hz hp hjz hj]; exact decide_eq_true hc) (fun s hs q => ?_)
  rw [seS_nat h hz hp hjz hs] at q
  have q := of_decide_eq_true q
  have h1 := (h.1 s hs).2.2.1
  exact RF_uniq h hs hj (j := jz) (by omega) (by omega) ha hb
theorem gm_sn (h : RF n pl s9) (hj : j0 < n) (hz : s9 13 w = nI jz) (hp : pl ≤ 200) (hjz : jz < pl) (ha : nN (s9 2 j0) ≤ jz) (hb : jz < nN (s9 2 j0) + nN (s9 0 j0)) (hc : ¬ jz + 1 = nN (s9 2 j0) + nN (s9 0 j0)) : se s9 n (s9 13 w) = none := by
  refine fnd_no (fun s hs => ?_)
  rw [seS_nat h hz hp hjz hs]
  refine decide_eq_false (fun q => hc ?_)
  have h1 := (h.1 s hs).2.2.1
  have := RF_uniq h hs hj (j := jz) (by omega) (by omega) ha hb
  rw [← this]
  exact q
theorem gm_lt (hz : s9 13 w = nI jz) (hp : pl ≤ 200) (hjz : jz < pl) : s9 13 w + nI 1 < nI pl ↔ ¬ jz + 1 = pl := by
  rw [hz, nI_add, nI_ltI (by omega) (by omega)]
  omega
theorem cnt_0 {p : Nat → Bool} {n : Nat} (h : ∀ k, k < n → p k = false) : cnt p n = 0 := by
  induction n with
  | zero => rfl
  | succ n ih =>
    simp only [cnt]
    rw [ih (fun k hk => h k (Nat.lt_succ_of_lt hk)), h n (Nat.lt_succ_self n)]
    rfl
theorem gm_wa (hPB : PB pl nw s9) (hz : s9 13 w = nI jz) (hp : pl ≤ 200) (he : jz + 1 = pl) : wa s9 nw (s9 13 w + nI 1) < 2 := by
  have : wa s9 nw (s9 13 w + nI 1) = 0 := by
    unfold wa
    refine cnt_0 (fun k hk => ?_)
    unfold waS
    by_cases q : s9 12 k = nI 1
    · obtain ⟨j, hj, e⟩ := hPB k hk q
      have hne : ¬ nI j = nI (jz + 1) := fun q2 => by
        have := (nI_eq (a := j) (b := jz + 1) (by omega) (by omega)).mp q2
        omega
      rw [e, hz, nI_add, decide_eq_false hne, Bool.and_false]
    · rw [decide_eq_false q, Bool.false_and]
  omega
theorem TH_eq (hTH : TH n σ k9) (hj : j0 < n) : thr σ k9 j0 = lt_ σ j0 2 ↔ ¬ 0 < k9 3 j0 := by
  obtain ⟨d, L, h1, h2, h3, h4⟩ := hTH j0 hj
  unfold thr
  rw [h1, h2, pk_sub h3, nI_eq (by omega) (by omega), show (0 : Int32) = nI 0 from rfl, nI_ltI (by omega) (by omega)]
  omega
theorem TH_up (hTH : TH n σ k9) (hj : j0 < n) (hd : 0 < k9 3 j0) : TH n σ (up2 k9 3 j0 (k9 3 j0 - nI 1)) := by
  intro s hs
  obtain ⟨d, L, h1, h2, h3, h4⟩ := hTH s hs
  by_cases q : s = j0
  · subst q
    have hd : 0 < d := by
      rw [h1, show (0 : Int32) = nI 0 from rfl, nI_ltI (by omega) (by omega)] at hd
      exact hd
    refine ⟨d - 1, L, ?_, h2, by omega, h4⟩
    rw [up2_at, if_pos ⟨rfl, rfl⟩, h1, pk_sub (by omega)]
  · exact ⟨d, L, by rw [up2_at, if_neg (fun z => q z.2)]; exact h1, h2, h3, h4⟩
theorem thE_up : up2 (thE σ η k9) 2 j0 (thE σ η k9 2 j0 + nI 1) = thE σ η (up2 k9 3 j0 (k9 3 j0 - nI 1)) := by
  funext r i
  rw [up2_at]
  unfold thE va_up thr
  by_cases h : r = 2
  · subst h
    simp only [if_true]
    by_cases q : i = j0
    · subst q
      rw [if_pos ⟨trivial, rfl⟩, up2_at, if_pos ⟨rfl, rfl⟩]
      generalize lt_ σ i 2 = x
      generalize k9 3 i = y
      apply Int32.toBitVec_inj.mp
      simp only [Int32.toBitVec_add, Int32.toBitVec_sub]
      generalize x.toBitVec = a
      generalize y.toBitVec = b
      generalize (nI 1).toBitVec = c
      rw [BitVec.sub_eq_add_neg, BitVec.sub_eq_add_neg, BitVec.sub_eq_add_neg, BitVec.neg_add, BitVec.sub_eq_add_neg, BitVec.neg_neg, BitVec.add_assoc]
    · rw [if_neg (fun z => q z.2), up2_at, if_neg (fun z => q z.2)]
  · simp only [if_neg h]
    rw [if_neg (fun z => h z.1)]
theorem ch1_m {τ : Sg} : up2 (up2 (up2 τ 13 w (-1)) 12 w (nI 2)) 15 w (τ 17 0) = ch1 w τ := by
  unfold ch1
  funext r i
  simp only [up2_at]
  by_cases h : r = 15
  · subst h; simp
  · by_cases h2 : r = 12
    · subst h2; simp
    · by_cases h3 : r = 13
      · subst h3; simp
      · simp [h, h2, h3]
theorem PB_walk {τ : Sg} (hPB : PB pl nw s9) (h12 : τ 12 = s9 12) (h13 : ∀ o, o ≠ w → τ 13 o = s9 13 o) (hw : ∃ j, j < pl ∧ τ 13 w = nI j) : PB pl nw τ := by
  intro o ho q
  by_cases z : o = w
  · subst z; exact hw
  · rw [h12] at q
    rw [h13 o z]
    exact hPB o ho q
theorem PB_home {τ : Sg} (hPB : PB pl nw s9) (h12 : τ 12 w = nI 2) (h12' : ∀ o, o ≠ w → τ 12 o = s9 12 o) (h13 : ∀ o, o ≠ w → τ 13 o = s9 13 o) : PB pl nw τ := by
  intro o ho q
  by_cases z : o = w
  · subst z
    rw [h12] at q
    exact absurd q (by decide)
  · rw [h12' o z] at q
    rw [h13 o z]
    exact hPB o ho q
end GM
theorem pcQ_t {s : Nat} {a b : Sg} (h : 0 < b 3 s) : pcQ s (a, b) = (up2 a 8 s (a 8 s + nI 1), up2 b 3 s (b 3 s - nI 1)) := if_pos h
theorem pcQ_f {s : Nat} {a b : Sg} (h : ¬ 0 < b 3 s) : pcQ s (a, b) = (up2 a 9 s (a 9 s + nI 1), b) := if_neg h
theorem pcB_t {s : Nat} {a b : Sg} (h : 0 < b 3 s) : pcB s (a, b) = true := decide_eq_true h
theorem pcB_f {s : Nat} {a b : Sg} (h : ¬ 0 < b 3 s) : pcB s (a, b) = false := decide_eq_false h
theorem thE_id {σ η κ : Sg} (h : η 2 = thr σ κ) : thE σ η κ = η := by
  funext r
  unfold thE va_up
  split
  · rename_i q; rw [q, h]
  · rfl
theorem wl_next {n pl nw w m : Nat} {q : P2} {F : Bool × P2} {b : Bool} {q' : P2} {c : Prop} [Decidable c] (hW : wl n pl nw w (m + 1) (decide c, q) = F) (h : c) (hg : g1 n pl nw w q = (b, q')) : wl n pl nw w m (b, q') = F := by
  rw [decide_eq_true h] at hW
  simp only [wl] at hW
  rw [if_pos trivial, hg] at hW
  exact hW
theorem wl_end {n pl nw w m : Nat} {q : P2} {F : Bool × P2} {q' : P2} {c : Prop} [Decidable c] (hW : wl n pl nw w (m + 1) (decide c, q) = F) (h : c) (hg : g1 n pl nw w q = (false, q')) : F.2 = q' := by
  have := wl_next hW h hg
  rw [wl_f] at this
  rw [← this]
theorem wl_out {n pl nw w m : Nat} {q : P2} {F : Bool × P2} {c : Prop} [Decidable c] (hW : wl n pl nw w m (decide c, q) = F) (h : m = 0 ∨ ¬ c) : F.2 = q := by
  rcases h with h | h
  · subst h
    rw [← hW]
    rfl
  · rw [decide_eq_false h, wl_f] at hW
    rw [← hW]
section GMS
variable {n pl nw w j0 : Nat} {s9 k9 : Sg}
theorem gs_d (hwa : wa s9 nw (s9 13 w + nI 1) < 2) (hse : se s9 n (s9 13 w) = none) (hz : s9 13 w + nI 1 < nI pl) : g1 n pl nw w (s9, k9) = (true, (up2 s9 13 w (s9 13 w + nI 1), k9)) := g1_d hwa hse hz
theorem gs_f (hwa : wa s9 nw (s9 13 w + nI 1) < 2) (hse : se s9 n (s9 13 w) = some j0) (hp : 0 < k9 3 j0) (hz : s9 13 w + nI 1 < nI pl) : g1 n pl nw w (s9, k9) = (true, (up2 (up2 s9 8 j0 (s9 8 j0 + nI 1)) 13 w (s9 13 w + nI 1), up2 k9 3 j0 (k9 3 j0 - nI 1))) := by
  rw [g1_f hwa hse (pcB_t hp) hz, pcQ_t hp]
theorem gs_e (hwa : wa s9 nw (s9 13 w + nI 1) < 2) (hse : se s9 n (s9 13 w) = some j0) (hp : 0 < k9 3 j0) (hz : ¬ s9 13 w + nI 1 < nI pl) : g1 n pl nw w (s9, k9) = (false, (up2 (up2 (up2 (up2 s9 8 j0 (s9 8 j0 + nI 1)) 13 w (-1)) 12 w (nI 2)) 15 w ((up2 s9 8 j0 (s9 8 j0 + nI 1)) 17 0), up2 k9 3 j0 (k9 3 j0 - nI 1))) := by
  rw [g1_e hwa hse (pcB_t hp) hz, pcQ_t hp, ch1_m]
theorem gs_b (hwa : wa s9 nw (s9 13 w + nI 1) < 2) (hse : se s9 n (s9 13 w) = some j0) (hp : ¬ 0 < k9 3 j0) : g1 n pl nw w (s9, k9) = (false, (up2 s9 9 j0 (s9 9 j0 + nI 1), k9)) := by
  rw [g1_b hwa hse (pcB_f hp), pcQ_f hp]
end GMS
-- 25.mspec5.lean.txt
/-! the model's step -/
def mlo (ah : Nat → Int32) (x : Option Nat) (k : Nat) : Bool := match x with
  | none => true
  | some j => decide (¬ ah k ≤ ah j)
/-- who goes next, of the first k -/
def mf (wt ah : Nat → Int32) : Nat → Option Nat
  | 0 => none
  | k + 1 => if wt k = 0 ∧ mlo ah (mf wt ah k) k = true then some k else mf wt ah k
theorem mf_lt {wt ah : Nat → Int32} : ∀ {k j : Nat}, mf wt ah k = some j → j < k ∧ wt j = 0
  | 0, j, h => by cases h
  | k + 1, j, h => by
    simp only [mf] at h
    split at h
    · rename_i q
      cases h
      exact ⟨Nat.lt_succ_self _, q.1⟩
    · exact ⟨Nat.lt_succ_of_lt (mf_lt h).1, (mf_lt h).2⟩
section MF
variable {wt ah : Nat → Int32} {k j : Nat}
theorem mf_0 (h : ¬ wt k = 0) : mf wt ah (k + 1) = mf wt ah k := if_neg (fun q => h q.1)
theorem mf_n (h : wt k = 0) (h3 : mf wt ah k = none) : mf wt ah (k + 1) = some k := if_pos ⟨h, by rw [h3]; rfl⟩
theorem mf_k (h : wt k = 0) (h3 : mf wt ah k = some j) (h4 : ¬ ah k ≤ ah j) : mf wt ah (k + 1) = some k := if_pos ⟨h, by rw [h3]; exact decide_eq_true h4⟩
theorem mf_j (h3 : mf wt ah k = some j) (h4 : ah k ≤ ah j) : mf wt ah (k + 1) = some j := by
  simp only [mf]
  rw [if_neg (fun q => by rw [h3] at q; exact absurd h4 (of_decide_eq_true q.2))]
  exact h3
end MF
/-- the turns -/
def mgo (n pl nw : Nat) (ah : Nat → Int32) : Nat → P2 → (Nat → Int32) → P2 × (Nat → Int32)
  | 0, q, wt => (q, wt)
  | m + 1, q, wt => match mf wt ah nw with
    | none => (q, wt)
    | some j => mgo n pl nw ah m (wl n pl nw j (wkP j q.1) (true, q)).2 (upd wt j (nI 1))
theorem mgo_n {n pl nw m : Nat} {ah wt : Nat → Int32} {q : P2} (h : mf wt ah nw = none) : mgo n pl nw ah (m + 1) q wt = (q, wt) := by simp only [mgo, h]
theorem mgo_s {n pl nw m j : Nat} {ah wt : Nat → Int32} {q : P2} (h : mf wt ah nw = some j) : mgo n pl nw ah (m + 1) q wt = mgo n pl nw ah m (wl n pl nw j (wkP j q.1) (true, q)).2 (upd wt j (nI 1)) := by simp only [mgo, h]
/-- steps in the dark, of the first k -/
def dk1 (τ : Sg) (w : Nat) (σ : Sg) : Sg := if τ 12 w = nI 1 ∧ τ 11 w = 0 then up2 σ 14 w (σ 14 w + nI 1) else σ
def dkS (τ : Sg) (k : Nat) : Sg := foldN (dk1 τ) k τ
theorem dkS_row {τ : Sg} {k r : Nat} (h : r ≠ 14) : dkS τ k r = τ r :=
  foldN_inv (P := fun (σ : Sg) => σ r = τ r) rfl (fun w σ _ q => by unfold dk1; split; rw [up2_row _ _ _ _ h]; exact q; exact q)
theorem dk_0 {τ : Sg} {k : Nat} (h : ¬ τ 12 k = nI 1) : dkS τ (k + 1) = dkS τ k := if_neg (fun q => h q.1)
theorem dk_1 {τ : Sg} {k : Nat} (h : ¬ τ 11 k = 0) : dkS τ (k + 1) = dkS τ k := if_neg (fun q => h q.2)
theorem dk_a {τ : Sg} {k : Nat} (h : τ 12 k = nI 1) (h2 : τ 11 k = 0) : dkS τ (k + 1) = up2 (dkS τ k) 14 k (dkS τ k 14 k + nI 1) := if_pos ⟨h, h2⟩
def wtF (τ : Sg) : Nat → Int32 := fun w => if τ 12 w = nI 1 then nI 0 else nI 1
/-- the notes of those who went and where they stood, of the first k -/
def wnE (τ η : Sg) (k : Nat) : Sg := va_up (va_up η 3 (cpk (wtF τ) (η 3) k)) 4 (cpk (τ 13) (η 4) k)
theorem va_up_id {α : Type} {f : Nat → α} {k : Nat} {v : α} (h : f k = v) : va_up f k v = f := by
  funext j
  unfold va_up
  split
  · rename_i q; rw [q, h]
  · rfl
theorem wnE_0 {τ η : Sg} : wnE τ η 0 = η := by
  unfold wnE
  rw [cpk_0, cpk_0, va_up_id (f := η) rfl, va_up_id rfl]
theorem wnE_s {τ η : Sg} {k : Nat} {x z : Int32} (h : x = wtF τ k) (hz : z = τ 13 k) : up2 (up2 (wnE τ η k) 3 k x) 4 k z = wnE τ η (k + 1) := by
  subst h
  subst hz
  unfold wnE
  funext r i
  simp only [up2_at]
  by_cases h4 : r = 4
  · subst h4
    simp only [va_up, if_true, true_and]
    have := congrFun (cpk_s (τ 13) (η 4) k) i
    unfold upd at this
    rw [← this]
    by_cases q : i = k
    · simp [q]
    · simp [q]
  · by_cases h3 : r = 3
    · subst h3
      simp only [va_up]
      have := congrFun (cpk_s (wtF τ) (η 3) k) i
      unfold upd at this
      simp
      rw [← this]
    · simp [va_up, h3, h4]
/-- the notes in the turns: through, went -/
def tuE (σ η κ : Sg) (wt : Nat → Int32) : Sg := va_up (thE σ η κ) 3 wt
theorem tuE_up {σ η κ : Sg} {wt : Nat → Int32} {j : Nat} {x : Int32} : up2 (tuE σ η κ wt) 3 j x = tuE σ η κ (upd wt j x) := by
  funext r i
  rw [up2_at]
  unfold tuE va_up upd
  by_cases h : r = 3
  · subst h
    by_cases q : i = j
    · simp [q]
    · simp [q]
  · simp [h]
theorem tuE_th {σ η κ κ' : Sg} {wt : Nat → Int32} : thE σ (tuE σ η κ wt) κ' = tuE σ η κ' wt := by
  funext r
  unfold thE tuE thE va_up
  by_cases h : r = 3
  · subst h; simp
  · by_cases h2 : r = 2
    · subst h2; simp
    · simp [h, h2]
theorem tuE_2 {σ η κ : Sg} {wt : Nat → Int32} : tuE σ η κ wt 2 = thr σ κ := by
  unfold tuE thE va_up
  simp
theorem thr_rows {σ τ κ : Sg} (h1 : τ 1 = σ 1) (h7 : τ 7 = σ 7) : thr τ κ = thr σ κ := by
  funext s
  unfold thr
  rw [lt_rows h1 h7]
theorem thE_rows {σ τ η κ : Sg} (h1 : τ 1 = σ 1) (h7 : τ 7 = σ 7) : thE τ η κ = thE σ η κ := by
  unfold thE
  rw [thr_rows h1 h7]
/-- corners that let all through that they may -/
def k0 (σ : Sg) : Sg := fun _ s => lt_ σ s 2
theorem thr_k0 (σ : Sg) : thr σ (k0 σ) = fun _ => nI 0 := by
  funext s
  unfold thr k0
  exact Int32.sub_self _
/-- each corner lets 1 to 10 through -/
def LT (n : Nat) (σ : Sg) : Prop := ∀ s, s < n → ∃ L, lt_ σ s 2 = nI L ∧ L ≤ 10
theorem TH_k0 {n : Nat} {σ : Sg} (h : LT n σ) : TH n σ (k0 σ) := fun s hs => by
  obtain ⟨L, h1, h2⟩ := h s hs
  exact ⟨L, L, h1, h1, Nat.le_refl _, h2⟩
theorem TH_rows {n : Nat} {σ τ κ : Sg} (h1 : τ 1 = σ 1) (h7 : τ 7 = σ 7) (h : TH n σ κ) : TH n τ κ := fun s hs => by
  obtain ⟨d, L, a, b, c⟩ := h s hs
  exact ⟨d, L, a, by rw [lt_rows h1 h7]; exact b, c⟩
theorem LT_rows {n : Nat} {σ τ : Sg} (h1 : τ 1 = σ 1) (h7 : τ 7 = σ 7) (h : LT n σ) : LT n τ := fun s hs => by
  obtain ⟨L, a, b⟩ := h s hs
  exact ⟨L, by rw [lt_rows h1 h7]; exact a, b⟩
theorem PB_rows {pl nw : Nat} {σ τ : Sg} (h1 : τ 12 = σ 12) (h2 : τ 13 = σ 13) (h : PB pl nw σ) : PB pl nw τ := by
  unfold PB at h ⊢
  rw [h1, h2]
  exact h
/-- what one walker's going keeps -/
def goK (r : Nat) : Prop := r ≠ 8 ∧ r ≠ 9 ∧ r ≠ 12 ∧ r ≠ 13 ∧ r ≠ 15
theorem g1_rowK {n pl nw w : Nat} {q : P2} {k : Nat} (h : goK k) : (g1 n pl nw w q).2.1 k = q.1 k := by
  obtain ⟨h8, h9, h12, h13, h15⟩ := h
  unfold g1
  split
  · rfl
  · split
    · exact g2_row h12 h13 h15
    · split
      · rw [g2_row h12 h13 h15, pcQ_row h8 h9]
      · exact pcQ_row h8 h9
theorem wl_rowK {n pl nw w : Nat} {k : Nat} (h : goK k) : ∀ (m : Nat) (r : Bool × P2), (wl n pl nw w m r).2.1 k = r.2.1 k
  | 0, r => rfl
  | m + 1, r => by
    simp only [wl]
    split
    · rw [wl_rowK h m, g1_rowK h]
    · rfl
/-- one place further keeps the other walkers, and the route's and places' order -/
theorem pcQ_TH {n s : Nat} {σ a b : Sg} (hTH : TH n σ b) (hs : s < n) : TH n σ (pcQ s (a, b)).2 := by
  by_cases h : 0 < b 3 s
  · rw [pcQ_t h]
    exact TH_up hTH hs h
  · rw [pcQ_f h]
    exact hTH
theorem g1_keep {n pl nw w : Nat} {σ a b : Sg} (hpl : pl ≤ 200) (hw : w < nw) (hPB : PB pl nw a) (hTH : TH n σ b) (hwk : a 12 w = nI 1) :
    PB pl nw (g1 n pl nw w (a, b)).2.1 ∧ TH n σ (g1 n pl nw w (a, b)).2.2 ∧ (∀ o, o ≠ w → (g1 n pl nw w (a, b)).2.1 12 o = a 12 o ∧ (g1 n pl nw w (a, b)).2.1 13 o = a 13 o) ∧ ((g1 n pl nw w (a, b)).1 = true → (g1 n pl nw w (a, b)).2.1 12 w = nI 1) := by
  obtain ⟨jz, hjz, hz⟩ := hPB w hw hwk
  have g2k : ∀ (τ κ : Sg), τ 12 = a 12 → τ 13 = a 13 → TH n σ κ → PB pl nw (g2 pl w (a 13 w + nI 1) (τ, κ)).2.1 ∧ TH n σ (g2 pl w (a 13 w + nI 1) (τ, κ)).2.2 ∧ (∀ o, o ≠ w → (g2 pl w (a 13 w + nI 1) (τ, κ)).2.1 12 o = a 12 o ∧ (g2 pl w (a 13 w + nI 1) (τ, κ)).2.1 13 o = a 13 o) ∧ ((g2 pl w (a 13 w + nI 1) (τ, κ)).1 = true → (g2 pl w (a 13 w + nI 1) (τ, κ)).2.1 12 w = nI 1) := by
    intro τ κ e12 e13 hT
    unfold g2
    split
    · rename_i hlt
      rw [gm_lt hz hpl hjz] at hlt
      refine ⟨PB_walk hPB (w := w) ?_ (fun o ho => ?_) ⟨jz + 1, by omega, ?_⟩, hT, fun o ho => ⟨?_, ?_⟩, fun _ => ?_⟩
      · show up2 τ 13 w (a 13 w + nI 1) 12 = a 12
        rw [up2_row _ _ _ _ (by omega), e12]
      · show up2 τ 13 w (a 13 w + nI 1) 13 o = a 13 o
        rw [up2_at, if_neg (fun z => ho z.2), e13]
      · show up2 τ 13 w (a 13 w + nI 1) 13 w = nI (jz + 1)
        rw [up2_at, if_pos ⟨rfl, rfl⟩, hz, nI_add]
      · show up2 τ 13 w (a 13 w + nI 1) 12 o = a 12 o
        rw [up2_row _ _ _ _ (by omega), e12]
      · show up2 τ 13 w (a 13 w + nI 1) 13 o = a 13 o
        rw [up2_at, if_neg (fun z => ho z.2), e13]
      · show up2 τ 13 w (a 13 w + nI 1) 12 w = nI 1
        rw [up2_row _ _ _ _ (by omega), e12, hwk]
    · have c12 : ∀ o, o ≠ w → ch1 w τ 12 o = a 12 o := fun o ho => by
        unfold ch1
        rw [up2_row _ _ _ _ (by omega), up2_row _ _ _ _ (by omega), up2_at, if_neg (fun z => ho z.2), e12]
      have c13 : ∀ o, o ≠ w → ch1 w τ 13 o = a 13 o := fun o ho => by
        unfold ch1
        rw [up2_row _ _ _ _ (by omega), up2_at, if_neg (fun z => ho z.2), up2_row _ _ _ _ (by omega), e13]
      refine ⟨PB_home (w := w) hPB ?_ c12 c13, hT, fun o ho => ⟨c12 o ho, c13 o ho⟩, fun h => Bool.noConfusion (show false = true from h)⟩
      show ch1 w τ 12 w = nI 2
      unfold ch1
      rw [up2_row _ _ _ _ (by omega), up2_row _ _ _ _ (by omega), up2_at, if_pos ⟨rfl, rfl⟩]
  unfold g1
  split
  · exact ⟨hPB, hTH, fun o _ => ⟨rfl, rfl⟩, fun h => Bool.noConfusion (show false = true from h)⟩
  · split
    · exact g2k a b rfl rfl hTH
    · rename_i s hs
      have hsn : s < n := (fnd_lt hs).1
      have hp12 : (pcQ s (a, b)).1 12 = a 12 := pcQ_row (by omega) (by omega)
      have hp13 : (pcQ s (a, b)).1 13 = a 13 := pcQ_row (by omega) (by omega)
      split
      · exact g2k _ _ hp12 hp13 (pcQ_TH hTH hsn)
      · refine ⟨PB_rows hp12 hp13 hPB, pcQ_TH hTH hsn, fun o _ => ⟨by rw [hp12], by rw [hp13]⟩, fun h => Bool.noConfusion (show false = true from h)⟩
theorem wl_keep {n pl nw w : Nat} {σ : Sg} (hpl : pl ≤ 200) (hw : w < nw) : ∀ (m : Nat) (b0 : Bool) (a b : Sg), PB pl nw a → TH n σ b → (b0 = true → a 12 w = nI 1) →
    PB pl nw (wl n pl nw w m (b0, (a, b))).2.1 ∧ TH n σ (wl n pl nw w m (b0, (a, b))).2.2 ∧ (∀ o, o ≠ w → (wl n pl nw w m (b0, (a, b))).2.1 12 o = a 12 o ∧ (wl n pl nw w m (b0, (a, b))).2.1 13 o = a 13 o)
  | 0, b0, a, b, h1, h2, _ => ⟨h1, h2, fun o _ => ⟨rfl, rfl⟩⟩
  | m + 1, b0, a, b, h1, h2, h3 => by
    simp only [wl]
    split
    · rename_i hb
      obtain ⟨k1, k2, k3, k4⟩ := g1_keep hpl hw h1 h2 (h3 hb)
      obtain ⟨m1, m2, m3⟩ := wl_keep hpl hw m (g1 n pl nw w (a, b)).1 (g1 n pl nw w (a, b)).2.1 (g1 n pl nw w (a, b)).2.2 k1 k2 k4
      exact ⟨m1, m2, fun o ho => ⟨(m3 o ho).1.trans (k3 o ho).1, (m3 o ho).2.trans (k3 o ho).2⟩⟩
    · exact ⟨h1, h2, fun o _ => ⟨rfl, rfl⟩⟩
theorem ms_bz {nw : Nat} {x : Int32} {σ η : Sg} (h : bz σ) : bz (leF nw (boF x nw (bdF x nw σ), η)).1 := leF_bz (q := (boF x nw (bdF x nw σ), η)) (boF_bz (bdF_bz h))
def ms1 (nw : Nat) (σ η : Sg) : Sg := (leF nw (boF (windOf σ) nw (bdF (windOf σ) nw σ), η)).1
def me1 (nw : Nat) (σ η : Sg) : Sg := lgE (boF (windOf σ) nw (bdF (windOf σ) nw σ)) nw η nw
def ms2 (nw ns : Nat) (σ η : Sg) : Sg := sgM (ms1 nw σ η) (lnR (ms1 nw σ η) nw ns nw 0 (me1 nw σ η 0)) 120
def me2 (nw ns : Nat) (σ η : Sg) : Sg := lnE (ms1 nw σ η) nw ns (me1 nw σ η) nw 0
def me3 (nw ns : Nat) (σ η : Sg) : Sg := wnE (ms2 nw ns σ η) (thE (ms2 nw ns σ η) (me2 nw ns σ η) (k0 (ms2 nw ns σ η))) nw
def mgF (n pl nw ns : Nat) (σ η : Sg) : P2 × (Nat → Int32) := mgo n pl nw (me3 nw ns σ η 4) nw (dkS (ms2 nw ns σ η) nw, k0 (ms2 nw ns σ η)) (me3 nw ns σ η 3)
def ms5 (n pl nw ns : Nat) (σ η : Sg) : Sg := up2 (stF nw (mgF n pl nw ns σ η).1.1) 17 0 (stF nw (mgF n pl nw ns σ η).1.1 17 0 + nI 1)
def me5 (n pl nw ns : Nat) (σ η : Sg) : Sg := tuE (ms2 nw ns σ η) (me3 nw ns σ η) (mgF n pl nw ns σ η).1.2 (mgF n pl nw ns σ η).2
theorem ms1_row {nw : Nat} {σ η : Sg} {r : Nat} (h1 : r ≠ 10) (h2 : r ≠ 11) : ms1 nw σ η r = σ r := by
  unfold ms1
  rw [leF_row h2]
  show boF (windOf σ) nw (bdF (windOf σ) nw σ) r = σ r
  rw [boF_row h2, bdF_row h1 h2]
theorem ms2_row {nw ns : Nat} {σ η : Sg} {r : Nat} (h : r ≠ 16) : ms2 nw ns σ η r = ms1 nw σ η r := sgM_at h
theorem ms2_rowS {nw ns : Nat} {σ η : Sg} {r : Nat} (h1 : r ≠ 10) (h2 : r ≠ 11) (h : r ≠ 16) : ms2 nw ns σ η r = σ r := by rw [ms2_row h, ms1_row h1 h2]
/-- what holds in the turns, over the rows S at their beginning -/
def gI (n pl nw : Nat) (S s9 k9 : Sg) (wt : Nat → Int32) : Prop := (∀ r, goK r → s9 r = dkS S nw r) ∧ PB pl nw s9 ∧ TH n S k9 ∧ ∀ o, o < nw → wt o = 0 → s9 12 o = nI 1
theorem gI_step {n pl nw j : Nat} {S s9 k9 : Sg} {wt ah : Nat → Int32} (hpl : pl ≤ 200) (h : gI n pl nw S s9 k9 wt) (hm : mf wt ah nw = some j) : gI n pl nw S (wl n pl nw j (wkP j s9) (true, (s9, k9))).2.1 (wl n pl nw j (wkP j s9) (true, (s9, k9))).2.2 (upd wt j (nI 1)) := by
  obtain ⟨h1, h2, h3, h4⟩ := h
  obtain ⟨hj, hw⟩ := mf_lt hm
  obtain ⟨k1, k2, k3⟩ := wl_keep (n := n) hpl hj (wkP j s9) true s9 k9 h2 h3 (fun _ => h4 j hj hw)
  refine ⟨fun r hr => (wl_rowK hr _ _).trans (h1 r hr), k1, k2, fun o ho q => ?_⟩
  unfold upd at q
  by_cases z : o = j
  · rw [if_pos z] at q
    exact absurd q (by decide)
  · rw [if_neg z] at q
    rw [(k3 o z).1]
    exact h4 o ho q
theorem gI_0 {n pl nw : Nat} {S η : Sg} (hPB : PB pl nw S) (hLT : LT n S) : gI n pl nw S (dkS S nw) (k0 S) (wnE S (thE S η (k0 S)) nw 3) := by
  refine ⟨fun _ _ => rfl, PB_rows (dkS_row (by omega)) (dkS_row (by omega)) hPB, TH_k0 hLT, fun o ho q => ?_⟩
  rw [dkS_row (by omega)]
  have : wnE S (thE S η (k0 S)) nw 3 o = wtF S o := by
    unfold wnE va_up cpk
    simp [ho]
  rw [this] at q
  unfold wtF at q
  split at q
  · assumption
  · exact absurd q (by decide)
theorem wnE_2 {S η κ : Sg} {nw : Nat} : wnE S (thE S η κ) nw 2 = thr S κ := by
  unfold wnE thE va_up
  simp
theorem tuE_id {S X κ : Sg} (h : X 2 = thr S κ) : tuE S X κ (X 3) = X := by
  unfold tuE
  rw [thE_id h]
  exact va_up_id rfl
theorem tuE_4 {S X κ : Sg} {wt : Nat → Int32} : tuE S X κ wt 4 = X 4 := by
  unfold tuE thE va_up
  simp
theorem tuE_3 {S X κ : Sg} {wt : Nat → Int32} : tuE S X κ wt 3 = wt := by
  unfold tuE va_up
  simp
-- 27.equiv.lean.txt
/-! THE TWO STEPS ARE ONE: songs -/
def vo (σ : Sg) : Option Nat → Int32
  | none => -1
  | some j => σ 5 j
def lrC (σ : Sg) (lr s : Nat) : Option Nat → Int32
  | none => nI 0
  | some j => if hrd σ lr j < σ 6 s then nI 0 else (if chg σ lr j = true then rem99 (σ 16 (6 * j + s)) + nI 1 else σ 16 (6 * j + s))
/-- what songs want: nothing known is below 0, voices are 0 to 9 -/
def SV (nw : Nat) (σ : Sg) : Prop := (∀ i, 0 ≤ σ 16 i) ∧ ∀ w, w < nw → σ 5 w = nI (nN (σ 5 w)) ∧ nN (σ 5 w) ≤ 9
def cS (lr sr : Nat) (v : Int32) (q : P2) (s : Nat) : Prop := q.2 1 (6 * lr + s) = 0 ∧ ¬ q.2 1 (6 * sr + s) = 0 ∧ ¬ v ≤ q.2 2 s
def vS (sr : Nat) (ch : Bool) (q : P2) (s : Nat) : Int32 := if ch = true then rem99 (q.2 1 (6 * sr + s)) + nI 1 else q.2 1 (6 * sr + s)
theorem lisF_at {lr sr : Nat} {v hd : Int32} {ch : Bool} {q : P2} : ∀ m, m ≤ 6 →
    (foldN (lis1 lr sr v hd ch) m q).2 1 = q.2 1 ∧ (∀ r, r ≠ 16 → (foldN (lis1 lr sr v hd ch) m q).1 r = q.1 r) ∧
    (∀ s, (s < m ∧ cS lr sr v q s → (foldN (lis1 lr sr v hd ch) m q).2 2 s = v) ∧ (¬ (s < m ∧ cS lr sr v q s) → (foldN (lis1 lr sr v hd ch) m q).2 2 s = q.2 2 s)) ∧
    (∀ i, (i / 6 = lr ∧ i % 6 < m ∧ cS lr sr v q (i % 6) ∧ ¬ hd < q.1 6 (i % 6) → (foldN (lis1 lr sr v hd ch) m q).1 16 i = vS sr ch q (i % 6)) ∧ (¬ (i / 6 = lr ∧ i % 6 < m ∧ cS lr sr v q (i % 6) ∧ ¬ hd < q.1 6 (i % 6)) → (foldN (lis1 lr sr v hd ch) m q).1 16 i = q.1 16 i)) := by
  intro m
  induction m with
  | zero => intro _; exact ⟨rfl, fun _ _ => rfl, fun s => ⟨fun h => absurd h.1 (Nat.not_lt_zero _), fun _ => rfl⟩, fun i => ⟨fun h => absurd h.2.1 (Nat.not_lt_zero _), fun _ => rfl⟩⟩
  | succ m ih =>
    intro hm
    obtain ⟨h1, h2, h3, h4⟩ := ih (by omega)
    show (lis1 lr sr v hd ch m (foldN (lis1 lr sr v hd ch) m q)).2 1 = _ ∧ (∀ r, r ≠ 16 → (lis1 lr sr v hd ch m (foldN (lis1 lr sr v hd ch) m q)).1 r = q.1 r) ∧
      (∀ s, (s < m + 1 ∧ cS lr sr v q s → (lis1 lr sr v hd ch m (foldN (lis1 lr sr v hd ch) m q)).2 2 s = v) ∧ (¬ (s < m + 1 ∧ cS lr sr v q s) → (lis1 lr sr v hd ch m (foldN (lis1 lr sr v hd ch) m q)).2 2 s = q.2 2 s)) ∧
      (∀ i, (i / 6 = lr ∧ i % 6 < m + 1 ∧ cS lr sr v q (i % 6) ∧ ¬ hd < q.1 6 (i % 6) → (lis1 lr sr v hd ch m (foldN (lis1 lr sr v hd ch) m q)).1 16 i = vS sr ch q (i % 6)) ∧ (¬ (i / 6 = lr ∧ i % 6 < m + 1 ∧ cS lr sr v q (i % 6) ∧ ¬ hd < q.1 6 (i % 6)) → (lis1 lr sr v hd ch m (foldN (lis1 lr sr v hd ch) m q)).1 16 i = q.1 16 i))
    generalize foldN (lis1 lr sr v hd ch) m q = F at h1 h2 h3 h4 ⊢
    have hl : F.2 2 m = q.2 2 m := (h3 m).2 (fun z => absurd z.1 (Nat.lt_irrefl m))
    have h6 : F.1 6 = q.1 6 := h2 6 (by omega)
    have dec : Decidable (cS lr sr v q m) := by unfold cS; exact inferInstance
    by_cases hc : cS lr sr v q m
    · have g1 : F.2 1 (6 * lr + m) = 0 := by rw [h1]; exact hc.1
      have g2 : ¬ F.2 1 (6 * sr + m) = 0 := by rw [h1]; exact hc.2.1
      have g3 : ¬ v ≤ F.2 2 m := by rw [hl]; exact hc.2.2
      have key2 : ∀ s (κ' : Sg), κ' = up2 F.2 2 m v → (s < m + 1 ∧ cS lr sr v q s → κ' 2 s = v) ∧ (¬ (s < m + 1 ∧ cS lr sr v q s) → κ' 2 s = q.2 2 s) := by
        intro s κ' e
        subst e
        rw [up2_at]
        by_cases q1 : s = m
        · subst q1
          rw [if_pos ⟨rfl, rfl⟩]
          exact ⟨fun _ => rfl, fun z => absurd ⟨Nat.lt_succ_self _, hc⟩ z⟩
        · rw [if_neg (fun z => q1 z.2)]
          exact ⟨fun z => (h3 s).1 ⟨by omega, z.2⟩, fun z => (h3 s).2 (fun y => z ⟨by omega, y.2⟩)⟩
      by_cases hh : hd < q.1 6 m
      · rw [lis1_d g1 g2 g3 (by rw [h6]; exact hh)]
        refine ⟨?_, h2, fun s => key2 s _ rfl, fun i => ⟨fun z => ?_, fun z => ?_⟩⟩
        · show up2 F.2 2 m v 1 = _
          rw [up2_row _ _ _ _ (by omega)]; exact h1
        · refine (h4 i).1 ⟨z.1, ?_, z.2.2⟩
          have : i % 6 ≠ m := fun y => z.2.2.2 (by rw [y]; exact hh)
          omega
        · exact (h4 i).2 (fun y => z ⟨y.1, by omega, y.2.2⟩)
      · have e : lis1 lr sr v hd ch m F = (up2 F.1 16 (6 * lr + m) (vS sr ch q m), up2 F.2 2 m v) := by
          cases hch : ch
          · rw [lis1_f g1 g2 g3 (by rw [h6]; exact hh) rfl, h1]
            rfl
          · rw [lis1_e g1 g2 g3 (by rw [h6]; exact hh) rfl, h1]
            rfl
        rw [e]
        refine ⟨?_, fun r hr => ?_, fun s => key2 s _ rfl, fun i => ?_⟩
        · show up2 F.2 2 m v 1 = _
          rw [up2_row _ _ _ _ (by omega)]; exact h1
        · show up2 F.1 16 (6 * lr + m) (vS sr ch q m) r = _
          rw [up2_row _ _ _ _ hr]; exact h2 r hr
        · show (_ → up2 F.1 16 (6 * lr + m) (vS sr ch q m) 16 i = _) ∧ (_ → up2 F.1 16 (6 * lr + m) (vS sr ch q m) 16 i = _)
          rw [up2_at]
          by_cases q1 : i = 6 * lr + m
          · subst q1
            rw [if_pos ⟨rfl, rfl⟩, show (6 * lr + m) % 6 = m by omega, show (6 * lr + m) / 6 = lr by omega]
            exact ⟨fun _ => rfl, fun z => absurd ⟨rfl, Nat.lt_succ_self _, hc, hh⟩ z⟩
          · rw [if_neg (fun z => q1 z.2)]
            exact ⟨fun z => (h4 i).1 ⟨z.1, by omega, z.2.2⟩, fun z => (h4 i).2 (fun y => z ⟨y.1, by omega, y.2.2⟩)⟩
    · have e : lis1 lr sr v hd ch m F = F := if_neg (fun z => hc ⟨by rw [← h1]; exact z.1, by rw [← h1]; exact z.2.1, by rw [← hl]; exact z.2.2⟩)
      rw [e]
      refine ⟨h1, h2, fun s => ⟨fun z => ?_, fun z => (h3 s).2 (fun y => z ⟨by omega, y.2⟩)⟩, fun i => ⟨fun z => ?_, fun z => (h4 i).2 (fun y => z ⟨y.1, by omega, y.2.2⟩)⟩⟩
      · refine (h3 s).1 ⟨?_, z.2⟩
        have : s ≠ m := fun y => hc (by rw [← y]; exact z.2)
        omega
      · refine (h4 i).1 ⟨z.1, ?_, z.2.2⟩
        have : i % 6 ≠ m := fun y => hc (by rw [← y]; exact z.2.2.1)
        omega
/-- what holds when the learner lr has heard the first m -/
def LI (σ : Sg) (T : Nat → Int32) (ns lr m : Nat) (q : P2) : Prop :=
  (∀ r, r ≠ 16 → q.1 r = σ r) ∧ q.2 1 = σ 16 ∧ (∀ s, s < ns → σ 16 (6 * lr + s) = 0 → q.2 2 s = vo σ (lfo σ lr s m) ∧ q.1 16 (6 * lr + s) = lrC σ lr s (lfo σ lr s m)) ∧
  (∀ i, ¬ (i / 6 = lr ∧ i % 6 < ns ∧ σ 16 i = 0) → q.1 16 i = T i)
theorem hrd_mono {nw : Nat} {σ : Sg} {lr j m : Nat} {x : Int32} (hSV : SV nw σ) (hj : j < nw) (hm : m < nw) (h : ¬ σ 5 m ≤ σ 5 j) (hx : hrd σ lr m < x) : hrd σ lr j < x := by
  obtain ⟨e1, l1⟩ := hSV.2 j hj
  obtain ⟨e2, l2⟩ := hSV.2 m hm
  refine Int32.lt_of_le_of_lt ?_ hx
  unfold hrd
  rw [e1, e2] at h ⊢
  rw [nI_leI (by omega) (by omega)] at h
  split
  · rw [nI_add, nI_add]
    exact nI_le (by omega) (by omega)
  · exact nI_le (by omega) (by omega)
theorem LI_step {nw ns lr m : Nat} {σ : Sg} {T : Nat → Int32} {q : P2} (hSV : SV nw σ) (hns : ns ≤ 6) (hm : m < nw) (h : LI σ T ns lr m q) : LI σ T ns lr (m + 1) (la1 ns lr m q) := by
  obtain ⟨h1, h2, h3, h4⟩ := h
  have en : nbr q.1 lr m = nbr σ lr m := nbr_rows (h1 12 (by omega)) (h1 13 (by omega)) lr m
  cases hn : nbr σ lr m
  · rw [la1_f (by rw [en]; exact hn)]
    exact ⟨h1, h2, fun s hs hu => by rw [lfo_0 hn]; exact h3 s hs hu, h4⟩
  · rw [la1_t (by rw [en]; exact hn)]
    have e5 : q.1 5 m = σ 5 m := by rw [h1 5 (by omega)]
    have eh : hrd q.1 lr m = hrd σ lr m := by unfold hrd; rw [h1 11 (by omega), h1 5 (by omega)]
    have ec : chg q.1 lr m = chg σ lr m := by unfold chg; rw [h1 11 (by omega)]
    unfold lisF
    rw [e5, eh, ec]
    obtain ⟨g1, g2, g3, g4⟩ := lisF_at (lr := lr) (sr := m) (v := σ 5 m) (hd := hrd σ lr m) (ch := chg σ lr m) (q := q) ns hns
    generalize foldN (lis1 lr m (σ 5 m) (hrd σ lr m) (chg σ lr m)) ns q = F at g1 g2 g3 g4 ⊢
    refine ⟨fun r hr => (g2 r hr).trans (h1 r hr), g1.trans h2, fun s hs hu => ?_, fun i hi => ?_⟩
    · obtain ⟨a1, a2⟩ := h3 s hs hu
      have d6 : (6 * lr + s) / 6 = lr := by omega
      have m6 : (6 * lr + s) % 6 = s := by omega
      have b4 := g4 (6 * lr + s)
      rw [d6, m6] at b4
      have e6 : q.1 6 s = σ 6 s := by rw [h1 6 (by omega)]
      have cS_iff : cS lr m (σ 5 m) q s ↔ (¬ σ 16 (6 * m + s) = 0 ∧ ¬ σ 5 m ≤ vo σ (lfo σ lr s m)) := by
        unfold cS
        rw [h2, a1]
        exact ⟨fun z => z.2, fun z => ⟨hu, z⟩⟩
      have hV : vS m (chg σ lr m) q s = (if chg σ lr m = true then rem99 (σ 16 (6 * m + s)) + nI 1 else σ 16 (6 * m + s)) := by unfold vS; rw [h2]
      by_cases hk : σ 16 (6 * m + s) ≤ 0
      · have hk0 : σ 16 (6 * m + s) = 0 := Int32.le_antisymm hk (hSV.1 _)
        have hnc : ¬ cS lr m (σ 5 m) q s := fun z => (cS_iff.mp z).1 hk0
        rw [lfo_1 hk, (g3 s).2 (fun z => hnc z.2), b4.2 (fun z => hnc z.2.2.1)]
        exact ⟨a1, a2⟩
      · have hk0 : ¬ σ 16 (6 * m + s) = 0 := fun z => hk (by rw [z]; decide)
        cases hlf : lfo σ lr s m with
        | none =>
          obtain ⟨e2, l2⟩ := hSV.2 m hm
          have hc : cS lr m (σ 5 m) q s := cS_iff.mpr ⟨hk0, by
            rw [hlf, e2]
            show ¬ nI _ ≤ -1
            intro z
            rw [Int32.le_iff_toInt_le, nI_toInt (by omega)] at z
            have : ((-1 : Int32)).toInt = -1 := by decide
            omega⟩
          rw [lfo_n hn hk hlf, (g3 s).1 ⟨hs, hc⟩]
          refine ⟨rfl, ?_⟩
          show F.1 16 (6 * lr + s) = if hrd σ lr m < σ 6 s then nI 0 else _
          by_cases hh : hrd σ lr m < σ 6 s
          · rw [if_pos hh, b4.2 (fun z => z.2.2.2 (by rw [e6]; exact hh)), a2, hlf]
            rfl
          · rw [if_neg hh, b4.1 ⟨rfl, hs, hc, by rw [e6]; exact hh⟩, hV]
        | some j =>
          have hj : j < m := lfo_lt hlf
          by_cases hv : σ 5 m ≤ σ 5 j
          · have hnc : ¬ cS lr m (σ 5 m) q s := fun z => (cS_iff.mp z).2 (by rw [hlf]; exact hv)
            rw [lfo_j hlf hv, (g3 s).2 (fun z => hnc z.2), b4.2 (fun z => hnc z.2.2.1), ← hlf]
            exact ⟨a1, a2⟩
          · have hc : cS lr m (σ 5 m) q s := cS_iff.mpr ⟨hk0, by rw [hlf]; exact hv⟩
            rw [lfo_k hn hk hlf hv, (g3 s).1 ⟨hs, hc⟩]
            refine ⟨rfl, ?_⟩
            show F.1 16 (6 * lr + s) = if hrd σ lr m < σ 6 s then nI 0 else _
            by_cases hh : hrd σ lr m < σ 6 s
            · rw [if_pos hh, b4.2 (fun z => z.2.2.2 (by rw [e6]; exact hh)), a2, hlf]
              exact if_pos (hrd_mono hSV (by omega) hm hv hh)
            · rw [if_neg hh, b4.1 ⟨rfl, hs, hc, by rw [e6]; exact hh⟩, hV]
    · refine ((g4 i).2 (fun z => hi ⟨z.1, z.2.1, ?_⟩)).trans (h4 i hi)
      have := z.2.2.1.1
      rw [h2, ← z.1] at this
      rw [show i = 6 * (i / 6) + i % 6 by omega]
      exact this
theorem LI_all {nw ns lr : Nat} {σ : Sg} {q : P2} (hSV : SV nw σ) (hns : ns ≤ 6) (h1 : ∀ r, r ≠ 16 → q.1 r = σ r) (h2 : q.2 1 = σ 16) (h3 : ∀ s, s < ns → σ 16 (6 * lr + s) = 0 → q.1 16 (6 * lr + s) = nI 0) : LI σ (q.1 16) ns lr nw (laF nw ns lr q) := by
  unfold laF
  have h0 : LI σ (q.1 16) ns lr 0 (q.1, va_up q.2 2 (fun _ => -1)) := by
    refine ⟨h1, ?_, fun s hs hu => ⟨?_, h3 s hs hu⟩, fun _ _ => rfl⟩
    · show va_up q.2 2 (fun _ => -1) 1 = σ 16
      rw [vu_ne (by omega)]
      exact h2
    · show va_up q.2 2 (fun _ => -1) 2 s = _
      rfl
  have key : ∀ m, m ≤ nw → LI σ (q.1 16) ns lr m (foldN (la1 ns lr) m (q.1, va_up q.2 2 (fun _ => -1))) := by
    intro m
    induction m with
    | zero => intro _; exact h0
    | succ m ih => intro hm; exact LI_step hSV hns (by omega) (ih (by omega))
  exact key nw (Nat.le_refl nw)
theorem lrC_lrn {nw w s : Nat} {σ : Sg} (hz : bz σ) : lrC σ w s (lfo σ w s nw) = lrn σ nw w s := by
  unfold lrn
  cases lfo σ w s nw with
  | none => rfl
  | some j =>
    show (if hrd σ w j < σ 6 s then nI 0 else _) = _
    have e : σ 5 j + (if σ 11 w = 0 then nI 3 else nI 0) = hrd σ w j := by
      unfold hrd
      split
      · rfl
      · exact Int32.add_zero _
    have ec : (chg σ w j = true) ↔ σ 11 w + σ 11 j = nI 2 := by
      unfold chg
      rcases hz w with a | a <;> rcases hz j with b | b <;> rw [a, b] <;> decide
    simp only [e]
    by_cases hh : hrd σ w j < σ 6 s
    · rw [if_pos hh, if_neg (Int32.not_le.mpr hh)]
    · rw [if_neg hh, if_pos (Int32.not_lt.mp hh)]
      by_cases hc : chg σ w j = true
      · rw [if_pos hc, if_pos (ec.mp hc)]
      · rw [if_neg hc, if_neg (fun z => hc (ec.mpr z))]
/-- the songs behind the class's sing -/
theorem sgF_at {nw ns : Nat} {σ κ : Sg} (hSV : SV nw σ) (hz : bz σ) (hns : ns ≤ 6) : ∀ i,
    (i / 6 < nw ∧ i % 6 < ns ∧ σ 12 (i / 6) = nI 1 ∧ σ 16 i = 0 → (sgF nw ns (σ, κ)).1 16 i = lrn σ nw (i / 6) (i % 6)) ∧
    (¬ (i / 6 < nw ∧ i % 6 < ns ∧ σ 12 (i / 6) = nI 1 ∧ σ 16 i = 0) → (sgF nw ns (σ, κ)).1 16 i = σ 16 i) := by
  have key : ∀ k, k ≤ nw → (∀ r, r ≠ 16 → (foldN (sg1 nw ns) k (σ, va_up κ 1 (σ 16))).1 r = σ r) ∧ (foldN (sg1 nw ns) k (σ, va_up κ 1 (σ 16))).2 1 = σ 16 ∧ ∀ i,
      (i / 6 < k ∧ i % 6 < ns ∧ σ 12 (i / 6) = nI 1 ∧ σ 16 i = 0 → (foldN (sg1 nw ns) k (σ, va_up κ 1 (σ 16))).1 16 i = lrn σ nw (i / 6) (i % 6)) ∧
      (¬ (i / 6 < k ∧ i % 6 < ns ∧ σ 12 (i / 6) = nI 1 ∧ σ 16 i = 0) → (foldN (sg1 nw ns) k (σ, va_up κ 1 (σ 16))).1 16 i = σ 16 i) := by
    intro k
    induction k with
    | zero =>
      intro _
      refine ⟨fun _ _ => rfl, ?_, fun i => ⟨fun z => absurd z.1 (Nat.not_lt_zero _), fun _ => rfl⟩⟩
      show va_up κ 1 (σ 16) 1 = σ 16
      rfl
    | succ k ih =>
      intro hk
      obtain ⟨h1, h2, h3⟩ := ih (by omega)
      show (∀ r, r ≠ 16 → (sg1 nw ns k (foldN (sg1 nw ns) k (σ, va_up κ 1 (σ 16)))).1 r = σ r) ∧ (sg1 nw ns k (foldN (sg1 nw ns) k (σ, va_up κ 1 (σ 16)))).2 1 = σ 16 ∧ ∀ i,
        (i / 6 < k + 1 ∧ i % 6 < ns ∧ σ 12 (i / 6) = nI 1 ∧ σ 16 i = 0 → (sg1 nw ns k (foldN (sg1 nw ns) k (σ, va_up κ 1 (σ 16)))).1 16 i = lrn σ nw (i / 6) (i % 6)) ∧
        (¬ (i / 6 < k + 1 ∧ i % 6 < ns ∧ σ 12 (i / 6) = nI 1 ∧ σ 16 i = 0) → (sg1 nw ns k (foldN (sg1 nw ns) k (σ, va_up κ 1 (σ 16)))).1 16 i = σ 16 i)
      generalize foldN (sg1 nw ns) k (σ, va_up κ 1 (σ 16)) = F at h1 h2 h3 ⊢
      by_cases hw : σ 12 k = nI 1
      · rw [sg1_t (by rw [h1 12 (by omega)]; exact hw)]
        have hL := LI_all (lr := k) (q := F) hSV hns h1 h2 (fun s hs hu => by
          rw [(h3 (6 * k + s)).2 (fun z => absurd z.1 (by omega))]; exact hu)
        obtain ⟨l1, l2, l3, l4⟩ := hL
        refine ⟨l1, l2, fun i => ⟨fun z => ?_, fun z => ?_⟩⟩
        · by_cases hi : i / 6 = k
          · have e : i = 6 * k + i % 6 := by omega
            have hu := z.2.2.2
            rw [e] at hu
            have := (l3 (i % 6) z.2.1 hu).2
            rw [← e] at this
            rw [this, hi]
            exact lrC_lrn hz
          · rw [l4 i (fun y => hi y.1)]
            exact (h3 i).1 ⟨by omega, z.2⟩
        · rw [l4 i (fun y => z ⟨by omega, y.2.1, by rw [y.1]; exact hw, y.2.2⟩)]
          exact (h3 i).2 (fun y => z ⟨by omega, y.2⟩)
      · rw [sg1_f (by rw [h1 12 (by omega)]; exact hw)]
        refine ⟨h1, h2, fun i => ⟨fun z => ?_, fun z => (h3 i).2 (fun y => z ⟨by omega, y.2⟩)⟩⟩
        refine (h3 i).1 ⟨?_, z.2⟩
        have : i / 6 ≠ k := fun y => hw (by rw [← y]; exact z.2.2.1)
        omega
  exact (key nw (Nat.le_refl nw)).2.2
theorem lrn_nn {nw w s : Nat} {σ : Sg} (hSV : SV nw σ) : 0 ≤ lrn σ nw w s := by
  unfold lrn
  split
  · decide
  · rename_i j _
    generalize σ 5 j + (if σ 11 w = 0 then nI 3 else nI 0) = H
    split
    · split
      · obtain ⟨a, ha, e⟩ := nI_of (Int32.not_lt.mpr (hSV.1 (6 * j + s)))
        have e3 : rem99 (nI a) = nI (a % 99) := by unfold rem99; exact pk_rem (a := a) (d := 99) ha (by omega) (by omega)
        have e4 : rem99 (nI a) + nI 1 = nI (a % 99 + 1) := by rw [e3]; exact nI_add (a % 99) 1
        have hl : a % 99 + 1 < 2 ^ 31 := by omega
        have e5 : (0 : Int32) ≤ nI (a % 99 + 1) := nI_pos' hl
        rw [← e4, ← e] at e5
        exact e5
      · exact hSV.1 _
    · decide
theorem sg_eq {nw ns : Nat} {σ κ : Sg} {g : Nat → Int32} (hSV : SV nw σ) (hz : bz σ) (hnw : nw ≤ 20) (hns : ns ≤ 6) (hg : ∀ i, ¬ (i / 6 < nw ∧ i % 6 < ns) → g i = 0) : sgM σ (lnR σ nw ns nw 0 g) 120 = (sgF nw ns (σ, κ)).1 := by
  funext r
  by_cases hr : r = 16
  · subst hr
    funext i
    obtain ⟨s1, s2⟩ := sgF_at (κ := κ) hSV hz hns i
    show cpk (knM σ (lnR σ nw ns nw 0 g)) (σ 16) 120 i = _
    unfold cpk
    by_cases hb : i / 6 < nw ∧ i % 6 < ns
    · rw [if_pos (by omega)]
      have hL : lnR σ nw ns nw 0 g i = lv9 σ nw (i / 6) (i % 6) := if_pos (Or.inl hb)
      have ei : 6 * (i / 6) + i % 6 = i := by omega
      unfold knM
      rw [hL]
      unfold lv9
      rw [ei]
      by_cases hc : σ 12 (i / 6) = nI 1 ∧ σ 16 i = 0
      · rw [if_pos hc, s1 ⟨hb.1, hb.2, hc⟩]
        by_cases h0 : lrn σ nw (i / 6) (i % 6) ≤ 0
        · rw [if_pos h0, hc.2]
          exact (Int32.le_antisymm h0 (lrn_nn hSV)).symm
        · rw [if_neg h0]
      · rw [if_neg hc, if_pos (by decide), s2 (fun z => hc z.2.2)]
    · rw [s2 (fun z => hb ⟨z.1, z.2.1⟩)]
      split
      · unfold knM
        have hL : lnR σ nw ns nw 0 g i = g i := if_neg (fun z => z.elim hb (fun y => absurd y.2 (Nat.not_lt_zero _)))
        rw [hL, hg i hb, if_pos (by decide)]
      · rfl
  · rw [sgM_at hr, sgF_row hr]
-- 28.equiv2.lean.txt
/-! THE TWO STEPS ARE ONE: going -/
def CG (n : Nat) (q q' : P2) : Prop := (∀ r, r ≠ 14 → q'.1 r = q.1 r) ∧ ∀ s, s < n → q'.2 3 s = q.2 3 s
theorem wa_rows {σ τ : Sg} (h12 : τ 12 = σ 12) (h13 : τ 13 = σ 13) (nw : Nat) (z : Int32) : wa τ nw z = wa σ nw z := by
  unfold wa waS
  rw [h12, h13]
theorem se_rows {σ τ : Sg} (h0 : τ 0 = σ 0) (h2 : τ 2 = σ 2) (n : Nat) (z : Int32) : se τ n z = se σ n z := by
  unfold se seS
  rw [h0, h2]
theorem CG_up {n : Nat} {a b a' b' : Sg} (h : CG n (a, b) (a', b')) (r i : Nat) (v : Int32) : CG n (up2 a r i v, b) (up2 a' r i v, b') := by
  refine ⟨fun r' hr => ?_, h.2⟩
  show up2 a' r i v r' = up2 a r i v r'
  funext k
  rw [up2_at, up2_at]
  split
  · rfl
  · exact congrFun (h.1 r' hr) k
theorem CG_up3 {n : Nat} {a b a' b' : Sg} (h : CG n (a, b) (a', b')) (i : Nat) (v : Int32) : CG n (a, up2 b 3 i v) (a', up2 b' 3 i v) := by
  refine ⟨h.1, fun s hs => ?_⟩
  show up2 b' 3 i v 3 s = up2 b 3 i v 3 s
  rw [up2_at, up2_at]
  split
  · rfl
  · exact h.2 s hs
theorem pcQ_cg {n s : Nat} {a b a' b' : Sg} (h : CG n (a, b) (a', b')) (hs : s < n) : pcB s (a', b') = pcB s (a, b) ∧ CG n (pcQ s (a, b)) (pcQ s (a', b')) := by
  have e3 : b' 3 s = b 3 s := h.2 s hs
  by_cases q : 0 < b 3 s
  · have q' : 0 < b' 3 s := by rw [e3]; exact q
    rw [pcB_t q, pcB_t q', pcQ_t q, pcQ_t q']
    refine ⟨rfl, ?_⟩
    have e8 : a' 8 s = a 8 s := congrFun (h.1 8 (by omega)) s
    rw [e3, e8]
    exact CG_up3 (CG_up h 8 s _) s _
  · have q' : ¬ 0 < b' 3 s := by rw [e3]; exact q
    rw [pcB_f q, pcB_f q', pcQ_f q, pcQ_f q']
    refine ⟨rfl, ?_⟩
    have e9 : a' 9 s = a 9 s := congrFun (h.1 9 (by omega)) s
    rw [e9]
    exact CG_up h 9 s _
theorem g2_cg {n pl w : Nat} {z : Int32} {q q' : P2} (h : CG n q q') : (g2 pl w z q').1 = (g2 pl w z q).1 ∧ CG n (g2 pl w z q).2 (g2 pl w z q').2 := by
  obtain ⟨a, b⟩ := q
  obtain ⟨a', b'⟩ := q'
  unfold g2
  split
  · exact ⟨rfl, CG_up h 13 w z⟩
  · refine ⟨rfl, ?_⟩
    show CG n (ch1 w a, b) (ch1 w a', b')
    unfold ch1
    have e17 : a' 17 0 = a 17 0 := congrFun (h.1 17 (by omega)) 0
    rw [e17]
    exact CG_up (CG_up (CG_up h 12 w _) 13 w _) 15 w _
theorem g1_cg {n pl nw w : Nat} {q q' : P2} (h : CG n q q') : (g1 n pl nw w q').1 = (g1 n pl nw w q).1 ∧ CG n (g1 n pl nw w q).2 (g1 n pl nw w q').2 := by
  have e13 : q'.1 13 = q.1 13 := h.1 13 (by omega)
  have ew : wa q'.1 nw (q'.1 13 w + nI 1) = wa q.1 nw (q.1 13 w + nI 1) := by rw [wa_rows (h.1 12 (by omega)) e13, e13]
  have es : se q'.1 n (q'.1 13 w) = se q.1 n (q.1 13 w) := by rw [se_rows (h.1 0 (by omega)) (h.1 2 (by omega)), e13]
  have ez : q'.1 13 w + nI 1 = q.1 13 w + nI 1 := by rw [e13]
  unfold g1
  rw [ew, es, ez]
  by_cases c : 2 ≤ wa q.1 nw (q.1 13 w + nI 1)
  · rw [if_pos c, if_pos c]
    exact ⟨rfl, h⟩
  · rw [if_neg c, if_neg c]
    cases hse : se q.1 n (q.1 13 w) with
    | none => exact g2_cg h
    | some s =>
      obtain ⟨k1, k2⟩ := pcQ_cg h (fnd_lt hse).1
      show (if pcB s q' = true then _ else _ : Bool × P2).1 = (if pcB s q = true then _ else _ : Bool × P2).1 ∧ CG n (if pcB s q = true then _ else _ : Bool × P2).2 (if pcB s q' = true then _ else _ : Bool × P2).2
      have k1 : pcB s q' = pcB s q := k1
      rw [k1]
      split
      · exact g2_cg k2
      · exact ⟨rfl, k2⟩
theorem wl_cg {n pl nw w : Nat} : ∀ (m : Nat) (r r' : Bool × P2), r'.1 = r.1 → CG n r.2 r'.2 → (wl n pl nw w m r').1 = (wl n pl nw w m r).1 ∧ CG n (wl n pl nw w m r).2 (wl n pl nw w m r').2
  | 0, r, r', h1, h2 => ⟨h1, h2⟩
  | m + 1, r, r', h1, h2 => by
    simp only [wl]
    rw [h1]
    split
    · exact wl_cg m _ _ (g1_cg h2).1 (g1_cg h2).2
    · exact ⟨h1, h2⟩
/-- going leaves the other notes -/
theorem pcQ_kap {s r : Nat} {q : P2} (h : r ≠ 3) : (pcQ s q).2 r = q.2 r := by
  unfold pcQ
  split
  · exact up2_row _ _ _ _ h
  · rfl
theorem g2_kap {pl w r : Nat} {z : Int32} {q : P2} : (g2 pl w z q).2.2 r = q.2 r := by
  unfold g2
  split <;> rfl
theorem g1_kap {n pl nw w r : Nat} {q : P2} (h : r ≠ 3) : (g1 n pl nw w q).2.2 r = q.2 r := by
  unfold g1
  split
  · rfl
  · split
    · exact g2_kap
    · split
      · rw [g2_kap, pcQ_kap h]
      · exact pcQ_kap h
theorem wl_kap {n pl nw w r : Nat} (h : r ≠ 3) : ∀ (m : Nat) (x : Bool × P2), (wl n pl nw w m x).2.2 r = x.2.2 r
  | 0, x => rfl
  | m + 1, x => by
    simp only [wl]
    split
    · rw [wl_kap h m, g1_kap h]
    · rfl
/-- others stay where they are -/
theorem g1_oth {n pl nw w : Nat} {q : P2} {o : Nat} (ho : o ≠ w) : (g1 n pl nw w q).2.1 12 o = q.1 12 o ∧ (g1 n pl nw w q).2.1 13 o = q.1 13 o := by
  have k2 : ∀ (z : Int32) (q : P2), (g2 pl w z q).2.1 12 o = q.1 12 o ∧ (g2 pl w z q).2.1 13 o = q.1 13 o := by
    intro z q
    unfold g2
    split
    · refine ⟨?_, ?_⟩
      · show up2 q.1 13 w z 12 o = _
        rw [up2_row _ _ _ _ (by omega)]
      · show up2 q.1 13 w z 13 o = _
        rw [up2_at, if_neg (fun y => ho y.2)]
    · refine ⟨?_, ?_⟩
      · show ch1 w q.1 12 o = _
        unfold ch1
        rw [up2_row _ _ _ _ (by omega), up2_row _ _ _ _ (by omega), up2_at, if_neg (fun y => ho y.2)]
      · show ch1 w q.1 13 o = _
        unfold ch1
        rw [up2_row _ _ _ _ (by omega), up2_at, if_neg (fun y => ho y.2), up2_row _ _ _ _ (by omega)]
  unfold g1
  split
  · exact ⟨rfl, rfl⟩
  · split
    · exact k2 _ _
    · rename_i s _
      split
      · rw [(k2 _ _).1, (k2 _ _).2, pcQ_row (by omega) (by omega), pcQ_row (by omega) (by omega)]
        exact ⟨rfl, rfl⟩
      · show (pcQ s q).1 12 o = _ ∧ (pcQ s q).1 13 o = _
        rw [pcQ_row (by omega) (by omega), pcQ_row (by omega) (by omega)]
        exact ⟨rfl, rfl⟩
theorem wl_oth {n pl nw w o : Nat} (ho : o ≠ w) : ∀ (m : Nat) (x : Bool × P2), (wl n pl nw w m x).2.1 12 o = x.2.1 12 o ∧ (wl n pl nw w m x).2.1 13 o = x.2.1 13 o
  | 0, x => ⟨rfl, rfl⟩
  | m + 1, x => by
    simp only [wl]
    split
    · obtain ⟨h1, h2⟩ := wl_oth ho m (g1 n pl nw w x.2)
      rw [h1, h2]
      exact g1_oth ho
    · exact ⟨rfl, rfl⟩
/-- who of the rows S has not gone yet -/
def ng (S kc : Sg) (w : Nat) : Bool := decide (S 12 w = nI 1) && decide (kc 4 w = 0)
def RG (n nw : Nat) (S : Sg) (q : P2) (q' : P2) (wt : Nat → Int32) : Prop :=
  CG n q q' ∧ (∀ r, goR r → q.1 r = S r) ∧ (∀ w, w < nw → (wt w = 0 ↔ ng S q.2 w = true)) ∧
  (∀ w, w < nw → q.2 4 w = 0 → q.1 12 w = S 12 w ∧ q.1 13 w = S 13 w) ∧
  (∀ w, q'.1 14 w = if w < nw ∧ ng S q.2 w = true ∧ S 11 w = 0 then q.1 14 w + nI 1 else q.1 14 w)
def fgO (S : Sg) : Option Nat → Int32 × Int32
  | none => (-1, -1)
  | some j => (S 13 j, nI j)
theorem fg_mf {pl nw : Nat} {S sc kc : Sg} {wt ah : Nat → Int32} (hPB : PB pl nw S) (hpl : pl ≤ 200)
    (h1 : ∀ w, w < nw → (wt w = 0 ↔ ng S kc w = true)) (h2 : ∀ w, w < nw → kc 4 w = 0 → sc 12 w = S 12 w ∧ sc 13 w = S 13 w) (hah : ∀ w, w < nw → ah w = S 13 w) :
    ∀ k, k ≤ nw → fg sc kc k = fgO S (mf wt ah k) := by
  intro k
  induction k with
  | zero => intro _; rfl
  | succ k ih =>
    intro hk
    have hi := ih (by omega)
    have hk' : k < nw := by omega
    by_cases c : wt k = 0
    · have hng := (h1 k hk').mp c
      unfold ng at hng
      rw [Bool.and_eq_true] at hng
      have s12 := of_decide_eq_true hng.1
      have k4 := of_decide_eq_true hng.2
      obtain ⟨e12, e13⟩ := h2 k hk' k4
      obtain ⟨jz, hjz, ez⟩ := hPB k hk' s12
      cases hm : mf wt ah k with
      | none =>
        rw [mf_n c hm]
        rw [hm] at hi
        show (if _ then _ else _) = (S 13 k, nI k)
        rw [if_pos, e13]
        refine ⟨by rw [e12, s12], k4, ?_⟩
        rw [hi, e13, ez]
        show ¬ nI jz ≤ -1
        intro z
        rw [Int32.le_iff_toInt_le, nI_toInt (by omega)] at z
        have : ((-1 : Int32)).toInt = -1 := by decide
        omega
      | some j =>
        have hj : j < k := (mf_lt hm).1
        rw [hm] at hi
        by_cases d : ah k ≤ ah j
        · rw [mf_j hm d]
          show (if _ then _ else _) = fgO S (some j)
          rw [if_neg, hi]
          intro z
          refine z.2.2 ?_
          rw [hi, e13]
          show S 13 k ≤ S 13 j
          rw [← hah k hk', ← hah j (by omega)]
          exact d
        · rw [mf_k c hm d]
          show (if _ then _ else _) = (S 13 k, nI k)
          rw [if_pos, e13]
          refine ⟨by rw [e12, s12], k4, ?_⟩
          rw [hi, e13]
          show ¬ S 13 k ≤ S 13 j
          rw [← hah k hk', ← hah j (by omega)]
          exact d
    · rw [mf_0 c]
      show (if _ then _ else _) = _
      rw [if_neg]
      · exact hi
      · intro z
        refine c ((h1 k hk').mpr ?_)
        unfold ng
        rw [(h2 k hk' z.2.1).1] at z
        rw [decide_eq_true z.1, decide_eq_true z.2.1]
        rfl
theorem cnt_lt1 {p q : Nat → Bool} {n j : Nat} (hj : j < n) (hp : p j = true) (hq : q j = false) (h : ∀ k, k ≠ j → q k = p k) : cnt q n + 1 = cnt p n := by
  have key : ∀ m, (m ≤ j → cnt q m = cnt p m) ∧ (j < m → cnt q m + 1 = cnt p m) := by
    intro m
    induction m with
    | zero => exact ⟨fun _ => rfl, fun z => absurd z (Nat.not_lt_zero _)⟩
    | succ m ih =>
      refine ⟨fun z => ?_, fun z => ?_⟩
      · simp only [cnt]
        rw [ih.1 (by omega), h m (by omega)]
      · simp only [cnt]
        by_cases e : m = j
        · subst e
          rw [ih.1 (Nat.le_refl _), hp, hq]
          simp
        · have := ih.2 (by omega)
          rw [h m e]
          omega
  exact (key n).2 hj
theorem mf_none {wt ah : Nat → Int32} : ∀ {k : Nat}, mf wt ah k = none → ∀ w, w < k → ¬ wt w = 0
  | 0, _, w, hw => absurd hw (Nat.not_lt_zero _)
  | k + 1, h, w, hw => by
    by_cases c : wt k = 0
    · exfalso
      cases hm : mf wt ah k with
      | none => rw [mf_n c hm] at h; cases h
      | some j =>
        by_cases d : ah k ≤ ah j
        · rw [mf_j hm d] at h; cases h
        · rw [mf_k c hm d] at h; cases h
    · rw [mf_0 c] at h
      by_cases e : w = k
      · subst e; exact c
      · exact mf_none h w (by omega)
theorem ng_up {S kc : Sg} {j w : Nat} : ng S (up2 kc 4 j (nI 1)) w = (if w = j then false else ng S kc w) := by
  unfold ng
  rw [up2_at]
  by_cases h : w = j
  · rw [if_pos h, if_pos ⟨rfl, h⟩]
    simp
    intro _
    decide
  · rw [if_neg h, if_neg (fun z => h z.2)]
theorem ng_kap {S a b : Sg} (h : a 4 = b 4) (w : Nat) : ng S a w = ng S b w := by unfold ng; rw [h]
theorem RG_step {n pl nw j : Nat} {S : Sg} {q q' : P2} {wt ah : Nat → Int32} (hm : mf wt ah nw = some j) (h : RG n nw S q q' wt) :
    RG n nw S (wkF n pl nw j (q.1, up2 q.2 4 j (nI 1))) (wl n pl nw j (wkP j q'.1) (true, q')).2 (upd wt j (nI 1)) := by
  obtain ⟨h1, h2, h3, h4, h5⟩ := h
  obtain ⟨hj, hw⟩ := mf_lt hm
  have hng := (h3 j hj).mp hw
  have hng2 := hng
  unfold ng at hng2
  rw [Bool.and_eq_true] at hng2
  have s12 := of_decide_eq_true hng2.1
  have k4 := of_decide_eq_true hng2.2
  have e11 : q.1 11 = S 11 := h2 11 (by unfold goR; omega)
  have eP : wkP j q'.1 = wkP j q.1 := by unfold wkP; rw [h1.1 11 (by omega), h1.1 4 (by omega)]
  have r14 : (wk0 j q.1) 14 = fun w => if w = j ∧ S 11 j = 0 then q.1 14 w + nI 1 else q.1 14 w := by
    funext w
    unfold wk0
    rw [e11]
    by_cases c : S 11 j = 0
    · rw [if_pos c, up2_at]
      by_cases d : w = j
      · subst d
        rw [if_pos ⟨rfl, rfl⟩, if_pos ⟨rfl, c⟩]
      · rw [if_neg (fun z => d z.2), if_neg (fun z => d z.1)]
    · rw [if_neg c, if_neg (fun z => c z.2)]
  have wk0r : ∀ r, r ≠ 14 → wk0 j q.1 r = q.1 r := by
    intro r hr
    unfold wk0
    split
    · exact up2_row _ _ _ _ hr
    · rfl
  have hcg0 : CG n (wk0 j q.1, up2 q.2 4 j (nI 1)) q' := ⟨fun r hr => by
      show q'.1 r = wk0 j q.1 r
      rw [wk0r r hr]; exact h1.1 r hr, fun s hs => by
      show q'.2 3 s = up2 q.2 4 j (nI 1) 3 s
      rw [up2_row _ _ _ _ (by omega)]; exact h1.2 s hs⟩
  have hcg := wl_cg (pl := pl) (nw := nw) (w := j) (wkP j q.1) (true, (wk0 j q.1, up2 q.2 4 j (nI 1))) (true, q') rfl hcg0
  have hk4 : (wkF n pl nw j (q.1, up2 q.2 4 j (nI 1))).2 4 = up2 q.2 4 j (nI 1) 4 := wl_kap (by omega) _ _
  rw [eP]
  refine ⟨hcg.2, fun r hr => (wkF_row hr).trans (h2 r hr), fun w hw' => ?_, fun w hw' z => ?_, fun w => ?_⟩
  · rw [ng_kap hk4, ng_up]
    unfold upd
    by_cases e : w = j
    · rw [if_pos e, if_pos e]
      exact ⟨fun z => absurd z (by decide), fun z => absurd z (by decide)⟩
    · rw [if_neg e, if_neg e]
      exact h3 w hw'
  · rw [hk4, up2_at] at z
    by_cases e : w = j
    · rw [if_pos ⟨rfl, e⟩] at z
      exact absurd z (by decide)
    · rw [if_neg (fun y => e y.2)] at z
      obtain ⟨o1, o2⟩ := wl_oth (n := n) (pl := pl) (nw := nw) e (wkP j q.1) (true, (wk0 j q.1, up2 q.2 4 j (nI 1)))
      obtain ⟨g1, g2⟩ := h4 w hw' z
      have a12 : wk0 j q.1 12 = q.1 12 := wk0r 12 (by omega)
      have a13 : wk0 j q.1 13 = q.1 13 := wk0r 13 (by omega)
      exact ⟨o1.trans ((congrFun a12 w).trans g1), o2.trans ((congrFun a13 w).trans g2)⟩
  · rw [ng_kap hk4, ng_up]
    have c14 : (wkF n pl nw j (q.1, up2 q.2 4 j (nI 1))).1 14 = wk0 j q.1 14 := wl_rowK (by unfold goK; omega) _ _
    have m14 : (wl n pl nw j (wkP j q.1) (true, q')).2.1 14 = q'.1 14 := wl_rowK (by unfold goK; omega) _ _
    rw [c14, m14, r14, h5 w]
    show _ = if w < nw ∧ _ ∧ S 11 w = 0 then (if w = j ∧ S 11 j = 0 then q.1 14 w + nI 1 else q.1 14 w) + nI 1 else (if w = j ∧ S 11 j = 0 then q.1 14 w + nI 1 else q.1 14 w)
    by_cases e : w = j
    · subst e
      rw [if_pos rfl, if_neg (show ¬ (w < nw ∧ false = true ∧ S 11 w = 0) from fun z => absurd z.2.1 (by decide))]
      by_cases c : S 11 w = 0
      · rw [if_pos ⟨hj, hng, c⟩, if_pos ⟨rfl, c⟩]
      · rw [if_neg (fun z => c z.2.2), if_neg (fun z => c z.2)]
    · rw [if_neg e, if_neg (show ¬ (w = j ∧ S 11 j = 0) from fun z => e z.1)]
/-- the turns of both, side by side -/
theorem RG_go {n pl nw : Nat} {S : Sg} {ah : Nat → Int32} (hPB : PB pl nw S) (hpl : pl ≤ 200) (hnw : nw ≤ 20) (hah : ∀ w, w < nw → ah w = S 13 w) : ∀ (m : Nat) (q q' : P2) (wt : Nat → Int32), RG n nw S q q' wt → cnt (fun w => decide (wt w = 0)) nw ≤ m →
    (mgo n pl nw ah m q' wt).1.1 = (goL n pl nw m q).1
  | 0, q, q', wt, h, hc => by
    show q'.1 = q.1
    funext r
    by_cases hr : r = 14
    · subst hr
      funext w
      rw [h.2.2.2.2 w, if_neg]
      intro z
      have hw := (h.2.2.1 w z.1).mpr z.2.1
      have := cnt_lt1 (p := fun w => decide (wt w = 0)) (q := fun o => if o = w then false else decide (wt o = 0)) z.1 (decide_eq_true hw) (if_pos rfl) (fun k hk => if_neg hk)
      omega
    · exact h.1.1 r hr
  | m + 1, q, q', wt, h, hc => by
    have hfm := fg_mf hPB hpl h.2.2.1 h.2.2.2.1 hah nw (Nat.le_refl nw)
    cases hm : mf wt ah nw with
    | none =>
      rw [mgo_n hm]
      simp only [goL]
      rw [hfm, hm, if_pos (show (fgO S none).2 = -1 from rfl)]
      show q'.1 = q.1
      funext r
      by_cases hr : r = 14
      · subst hr
        funext w
        rw [h.2.2.2.2 w, if_neg]
        intro z
        exact mf_none hm w z.1 ((h.2.2.1 w z.1).mpr z.2.1)
      · exact h.1.1 r hr
    | some j =>
      obtain ⟨hj, hw⟩ := mf_lt hm
      rw [mgo_s hm]
      simp only [goL]
      have e2 : (fg q.1 q.2 nw).2 = nI j := by rw [hfm, hm]; rfl
      have hne : ¬ nI j = -1 := by
        intro z
        have h2 := nI_toInt (n := j) (by omega)
        rw [z] at h2
        have h3 : ((-1 : Int32)).toInt = -1 := by decide
        omega
      rw [e2, if_neg hne, nN_nI (by omega)]
      refine RG_go hPB hpl hnw hah m _ _ _ (RG_step hm h) ?_
      have := cnt_lt1 (p := fun w => decide (wt w = 0)) (q := fun w => decide (upd wt j (nI 1) w = 0)) hj (decide_eq_true hw) (by unfold upd; rw [if_pos rfl]; decide) (fun k hk => by unfold upd; rw [if_neg hk])
      omega
theorem slF_at {n : Nat} {q : P2} {r i : Nat} : slF n q r i = if r = 3 ∧ i < n then lt_ q.1 i 2 else q.2 r i := by
  unfold slF
  induction n with
  | zero => rw [if_neg (fun z => absurd z.2 (Nat.not_lt_zero _))]; rfl
  | succ n ih =>
    show up2 (foldN (sl1 q.1) n q.2) 3 n (lt_ q.1 n 2) r i = _
    rw [up2_at, ih]
    by_cases c : r = 3 ∧ i = n
    · rw [if_pos c, if_pos ⟨c.1, by omega⟩, c.2]
    · rw [if_neg c]
      by_cases d : r = 3 ∧ i < n
      · rw [if_pos d, if_pos ⟨d.1, by omega⟩]
      · rw [if_neg d, if_neg (fun z => d ⟨z.1, by have : i ≠ n := fun y => c ⟨z.1, y⟩; omega⟩)]
theorem hgF_at {nw : Nat} {κ : Sg} {r i : Nat} : hgF nw κ r i = if r = 4 ∧ i < nw then nI 0 else κ r i := by
  unfold hgF
  induction nw with
  | zero => rw [if_neg (fun z => absurd z.2 (Nat.not_lt_zero _))]; rfl
  | succ n ih =>
    show up2 (foldN hg1 n κ) 4 n (nI 0) r i = _
    rw [up2_at, ih]
    by_cases c : r = 4 ∧ i = n
    · rw [if_pos c, if_pos ⟨c.1, by omega⟩]
    · rw [if_neg c]
      by_cases d : r = 4 ∧ i < n
      · rw [if_pos d, if_pos ⟨d.1, by omega⟩]
      · rw [if_neg d, if_neg (fun z => d ⟨z.1, by have : i ≠ n := fun y => c ⟨z.1, y⟩; omega⟩)]
theorem dkS_at {τ : Sg} {k w : Nat} : dkS τ k 14 w = if w < k ∧ τ 12 w = nI 1 ∧ τ 11 w = 0 then τ 14 w + nI 1 else τ 14 w := by
  induction k with
  | zero => rw [if_neg (fun z => absurd z.1 (Nat.not_lt_zero _))]; rfl
  | succ k ih =>
    by_cases c : τ 12 k = nI 1 ∧ τ 11 k = 0
    · rw [dk_a c.1 c.2, up2_at]
      by_cases e : w = k
      · subst e
        rw [if_pos ⟨rfl, rfl⟩, if_pos ⟨Nat.lt_succ_self _, c⟩, ih, if_neg (fun z => absurd z.1 (Nat.lt_irrefl _))]
      · rw [if_neg (fun z => e z.2), ih]
        by_cases d : w < k ∧ τ 12 w = nI 1 ∧ τ 11 w = 0
        · rw [if_pos d, if_pos ⟨by omega, d.2⟩]
        · rw [if_neg d, if_neg (fun z => d ⟨by omega, z.2⟩)]
    · have : dkS τ (k + 1) = dkS τ k := if_neg c
      rw [this, ih]
      by_cases d : w < k ∧ τ 12 w = nI 1 ∧ τ 11 w = 0
      · rw [if_pos d, if_pos ⟨by omega, d.2⟩]
      · rw [if_neg d, if_neg (fun z => d ⟨by have : w ≠ k := fun y => c (by rw [← y]; exact z.2); omega, z.2⟩)]
theorem go_eq {n pl nw : Nat} {S κ η : Sg} (hPB : PB pl nw S) (hpl : pl ≤ 200) (hnw : nw ≤ 20) :
    (mgo n pl nw (wnE S η nw 4) nw (dkS S nw, k0 S) (wnE S η nw 3)).1.1 = (goF n pl nw (S, κ)).1 := by
  unfold goF
  have e4 : ∀ w, w < nw → wnE S η nw 4 w = S 13 w := fun w hw => by
    unfold wnE va_up cpk
    simp [hw]
  have e3 : ∀ w, w < nw → wnE S η nw 3 w = wtF S w := fun w hw => by
    unfold wnE va_up cpk
    simp [hw]
  have eh : ∀ w, w < nw → hgF nw (slF n (S, κ)) 4 w = nI 0 := fun w hw => by rw [hgF_at, if_pos ⟨rfl, hw⟩]
  have eng : ∀ w, w < nw → ng S (hgF nw (slF n (S, κ))) w = decide (S 12 w = nI 1) := fun w hw => by
    unfold ng
    rw [eh w hw, decide_eq_true (show nI 0 = 0 from rfl), Bool.and_true]
  refine RG_go hPB hpl hnw e4 nw _ _ _ ⟨⟨fun r hr => dkS_row hr, fun s hs => ?_⟩, fun _ _ => rfl, fun w hw => ?_, fun _ _ _ => ⟨rfl, rfl⟩, fun w => ?_⟩ (cnt_le _ _)
  · show lt_ S s 2 = hgF nw (slF n (S, κ)) 3 s
    rw [hgF_at, if_neg (fun z => absurd z.1 (by omega)), slF_at, if_pos ⟨rfl, hs⟩]
  · rw [e3 w hw]
    show _ ↔ ng S (hgF nw (slF n (S, κ))) w = true
    rw [eng w hw]
    unfold wtF
    by_cases c : S 12 w = nI 1
    · rw [if_pos c, decide_eq_true c]
      exact ⟨fun _ => rfl, fun _ => rfl⟩
    · rw [if_neg c, decide_eq_false c]
      exact ⟨fun z => absurd z (by decide), fun z => absurd z (by decide)⟩
  · show dkS S nw 14 w = if w < nw ∧ ng S (hgF nw (slF n (S, κ))) w = true ∧ S 11 w = 0 then S 14 w + nI 1 else S 14 w
    rw [dkS_at]
    by_cases c : w < nw
    · rw [eng w c]
      by_cases d : S 12 w = nI 1
      · rw [decide_eq_true d]
        by_cases e : S 11 w = 0
        · rw [if_pos ⟨c, d, e⟩, if_pos ⟨c, rfl, e⟩]
        · rw [if_neg (fun z => e z.2.2), if_neg (fun z => e z.2.2)]
      · rw [decide_eq_false d, if_neg (fun z => d z.2.1), if_neg (fun z => absurd z.2.1 (by decide))]
    · rw [if_neg (fun z => c z.1), if_neg (fun z => c z.1)]
/-- the model's step is the class's -/
theorem ms5_eq {n pl nw ns : Nat} {σ κ η : Sg} (hz : bz σ) (hwz : wz σ) (hPB : PB pl nw σ) (hSV : SV nw σ) (hpl : pl ≤ 200) (hnw : nw ≤ 20) (hns : ns ≤ 6) (hg : ∀ i, ¬ (i / 6 < nw ∧ i % 6 < ns) → η 0 i = 0) :
    ms5 n pl nw ns σ η = (tsF n pl nw ns (σ, κ)).1 := by
  have eA : ms1 nw σ η = (t1 nw (σ, κ)).1 := by
    show (leF nw (boF (windOf σ) nw (bdF (windOf σ) nw σ), η)).1 = (leF nw (boF (windOf σ) nw (bdF (windOf σ) nw σ), κ)).1
    have a1 : bz (boF (windOf σ) nw (bdF (windOf σ) nw σ)) := boF_bz (bdF_bz hz)
    have a2 : wz (boF (windOf σ) nw (bdF (windOf σ) nw σ)) := wz_row (bdF_wz hwz) (boF_row (by omega))
    rw [le_lg a1 a2, le_lg a1 a2]
  have hz1 : bz (ms1 nw σ η) := ms_bz hz
  have hSV1 : SV nw (ms1 nw σ η) := by
    unfold SV
    rw [ms1_row (by omega) (by omega), ms1_row (by omega) (by omega)]
    exact hSV
  have eB : ms2 nw ns σ η = (sgF nw ns (t1 nw (σ, κ))).1 := by
    unfold ms2
    have : sgF nw ns (t1 nw (σ, κ)) = sgF nw ns (ms1 nw σ η, (t1 nw (σ, κ)).2) := by rw [eA]
    rw [this]
    exact sg_eq hSV1 hz1 hnw hns hg
  have hPB2 : PB pl nw (ms2 nw ns σ η) := PB_rows (ms2_rowS (by omega) (by omega) (by omega)) (ms2_rowS (by omega) (by omega) (by omega)) hPB
  have eC : (mgF n pl nw ns σ η).1.1 = (t2 n pl nw ns (σ, κ)).1 := by
    unfold mgF me3
    rw [go_eq (κ := (sgF nw ns (t1 nw (σ, κ))).2) hPB2 hpl hnw, eB]
    rfl
  unfold ms5 tsF
  rw [eC]
-- 29.inv.lean.txt
/-! WHAT HOLDS BETWEEN CALLS -/
def L1 (n : Nat) (σ : Sg) : Prop := ∀ s, s < n → ∃ L, σ 1 s = nI L ∧ L ≤ 4
theorem L1_LT {n : Nat} {σ : Sg} (h : L1 n σ) : LT n σ := by
  intro s hs
  obtain ⟨L, h1, h2⟩ := h s hs
  have key : ∀ k, ∃ M, lt_ σ s k = nI M ∧ M ≤ L + k := by
    intro k
    induction k with
    | zero => exact ⟨L, h1, Nat.le_refl _⟩
    | succ k ih =>
      obtain ⟨M, a, b⟩ := ih
      simp only [lt_]
      split
      · exact ⟨M + 1, by rw [a]; exact nI_1 M, by omega⟩
      · exact ⟨M, a, by omega⟩
  obtain ⟨M, a, b⟩ := key 2
  exact ⟨M, a, by omega⟩
/-- what lies beyond the walkers and the stretches stays -/
def OU (n nw : Nat) (σ τ : Sg) : Prop := (∀ w, nw ≤ w → τ 12 w = σ 12 w ∧ τ 13 w = σ 13 w ∧ τ 14 w = σ 14 w ∧ τ 15 w = σ 15 w) ∧ ∀ s, n ≤ s → τ 8 s = σ 8 s ∧ τ 9 s = σ 9 s
theorem OU_refl {n nw : Nat} {σ : Sg} : OU n nw σ σ := ⟨fun _ _ => ⟨rfl, rfl, rfl, rfl⟩, fun _ _ => ⟨rfl, rfl⟩⟩
theorem OU_rows {n nw : Nat} {σ τ ρ : Sg} (h : OU n nw σ τ) (e : ∀ r, r = 8 ∨ r = 9 ∨ r = 12 ∨ r = 13 ∨ r = 14 ∨ r = 15 → ρ r = τ r) : OU n nw σ ρ := by
  unfold OU
  rw [e 8 (by omega), e 9 (by omega), e 12 (by omega), e 13 (by omega), e 14 (by omega), e 15 (by omega)]
  exact h
theorem up2_off {σ : Sg} {r i r' k : Nat} {v : Int32} (h : r' = r → k ≠ i) : up2 σ r i v r' k = σ r' k := by
  rw [up2_at, if_neg (fun z => h z.1 z.2)]
theorem OU_w {n nw w r : Nat} {σ τ : Sg} {v : Int32} (h : OU n nw σ τ) (hw : w < nw) (hr : r ≠ 8 ∧ r ≠ 9) : OU n nw σ (up2 τ r w v) := by
  refine ⟨fun o ho => ?_, fun s hs => ?_⟩
  · rw [up2_off (fun _ => by omega), up2_off (fun _ => by omega), up2_off (fun _ => by omega), up2_off (fun _ => by omega)]
    exact h.1 o ho
  · rw [up2_off (fun z => absurd z.symm hr.1), up2_off (fun z => absurd z.symm hr.2)]
    exact h.2 s hs
theorem OU_s {n nw s r : Nat} {σ τ : Sg} {v : Int32} (h : OU n nw σ τ) (hs : s < n) (hr : r = 8 ∨ r = 9) : OU n nw σ (up2 τ r s v) := by
  refine ⟨fun o ho => ?_, fun k hk => ?_⟩
  · rw [up2_off (fun z => by omega), up2_off (fun z => by omega), up2_off (fun z => by omega), up2_off (fun z => by omega)]
    exact h.1 o ho
  · rw [up2_off (fun _ => by omega), up2_off (fun _ => by omega)]
    exact h.2 k hk
theorem g2_OU {n nw pl w : Nat} {σ : Sg} {z : Int32} {q : P2} (hw : w < nw) (h : OU n nw σ q.1) : OU n nw σ (g2 pl w z q).2.1 := by
  unfold g2
  split
  · exact OU_w h hw (by omega)
  · exact OU_w (OU_w (OU_w h hw (by omega)) hw (by omega)) hw (by omega)
theorem pcQ_OU {n nw s : Nat} {σ : Sg} {q : P2} (hs : s < n) (h : OU n nw σ q.1) : OU n nw σ (pcQ s q).1 := by
  unfold pcQ
  split
  · exact OU_s h hs (by omega)
  · exact OU_s h hs (by omega)
theorem g1_OU {n nw pl w : Nat} {σ : Sg} {q : P2} (hw : w < nw) (h : OU n nw σ q.1) : OU n nw σ (g1 n pl nw w q).2.1 := by
  unfold g1
  split
  · exact h
  · split
    · exact g2_OU hw h
    · rename_i s hs
      have hsn : s < n := (fnd_lt hs).1
      split
      · exact g2_OU hw (pcQ_OU hsn h)
      · exact pcQ_OU hsn h
theorem wl_OU {n nw pl w : Nat} {σ : Sg} (hw : w < nw) : ∀ (m : Nat) (r : Bool × P2), OU n nw σ r.2.1 → OU n nw σ (wl n pl nw w m r).2.1
  | 0, r, h => h
  | m + 1, r, h => by
    simp only [wl]
    split
    · exact wl_OU hw m _ (g1_OU hw h)
    · exact h
theorem wkF_OU {n nw pl w : Nat} {σ : Sg} {q : P2} (hw : w < nw) (h : OU n nw σ q.1) : OU n nw σ (wkF n pl nw w q).1 := by
  unfold wkF
  refine wl_OU hw _ _ ?_
  show OU n nw σ (wk0 w q.1)
  unfold wk0
  split
  · exact OU_w h hw (by omega)
  · exact h
theorem goL_OU {n nw pl : Nat} {σ : Sg} (hnw : nw ≤ 20) : ∀ (m : Nat) (q : P2), OU n nw σ q.1 → OU n nw σ (goL n pl nw m q).1
  | 0, q, h => h
  | m + 1, q, h => by
    simp only [goL]
    split
    · exact h
    · rename_i hne
      obtain ⟨j, hj, e, -⟩ := fg_nat hne
      rw [e, nN_nI (by omega)]
      exact goL_OU hnw m _ (wkF_OU hj h)
theorem stF_OU {n nw : Nat} {σ τ : Sg} (h : OU n nw σ τ) : OU n nw σ (stF nw τ) :=
  foldN_inv (P := OU n nw σ) h (fun w ρ hw h => by
    unfold st1
    split
    · exact OU_w (OU_w h hw (by omega)) hw (by omega)
    · exact h)
theorem tsF_OU {n pl nw ns : Nat} {q : P2} (hnw : nw ≤ 20) : OU n nw q.1 (tsF n pl nw ns q).1 := by
  refine OU_rows (τ := stF nw (t2 n pl nw ns q).1) (stF_OU ?_) (fun r hr => up2_row _ _ _ _ (by omega))
  unfold t2 goF
  refine goL_OU hnw nw _ ?_
  refine OU_rows (τ := q.1) OU_refl (fun r hr => ?_)
  show (sgF nw ns (t1 nw q)).1 r = q.1 r
  rw [sgF_row (by omega)]
  unfold t1
  rw [leF_row (by omega)]
  show boF (windOf q.1) nw (bdF (windOf q.1) nw q.1) r = q.1 r
  rw [boF_row (by omega), bdF_row (by omega) (by omega)]
/-- who walks stays at a place of the route -/
theorem goL_PB {n nw pl : Nat} {S : Sg} (hnw : nw ≤ 20) (hpl : pl ≤ 200) : ∀ (m : Nat) (q : P2), PB pl nw q.1 → TH n S q.2 → PB pl nw (goL n pl nw m q).1
  | 0, q, h, _ => h
  | m + 1, q, h, hT => by
    simp only [goL]
    split
    · exact h
    · rename_i hne
      obtain ⟨j, hj, e, h12, -⟩ := fg_nat hne
      rw [e, nN_nI (by omega)]
      have r14 : ∀ r, r ≠ 14 → wk0 j q.1 r = q.1 r := fun r hr => by
        unfold wk0
        split
        · exact up2_row _ _ _ _ hr
        · rfl
      have hT' : TH n S (up2 q.2 4 j (nI 1)) := fun s hs => by
        rw [up2_row _ _ _ _ (by omega)]
        exact hT s hs
      obtain ⟨k1, k2, -⟩ := wl_keep (n := n) hpl hj (wkP j q.1) true (wk0 j q.1) (up2 q.2 4 j (nI 1)) (PB_rows (r14 12 (by omega)) (r14 13 (by omega)) h) hT' (fun _ => by rw [r14 12 (by omega)]; exact h12)
      exact goL_PB hnw hpl m _ k1 k2
theorem stF_PB {pl nw : Nat} {τ : Sg} (hp : 0 < pl) (h : PB pl nw τ) : PB pl nw (stF nw τ) :=
  foldN_inv (P := PB pl nw) h (fun w ρ hw h => by
    unfold st1
    split
    · intro o ho q
      by_cases z : o = w
      · subst z
        exact ⟨0, hp, by rw [up2_at, if_pos ⟨rfl, rfl⟩]⟩
      · rw [up2_off (fun _ => z), up2_off (fun _ => z)] at q
        rw [up2_off (fun _ => z), up2_off (fun _ => z)]
        exact h o ho q
    · exact h)
theorem tsF_PB {n pl nw ns : Nat} {q : P2} (hnw : nw ≤ 20) (hpl : pl ≤ 200) (hp : 0 < pl) (hLT : LT n q.1) (h : PB pl nw q.1) : PB pl nw (tsF n pl nw ns q).1 := by
  have hr : ∀ r, r ≠ 10 → r ≠ 11 → r ≠ 16 → (sgF nw ns (t1 nw q)).1 r = q.1 r := fun r a b c => by
    rw [sgF_row c]
    unfold t1
    rw [leF_row b]
    show boF (windOf q.1) nw (bdF (windOf q.1) nw q.1) r = q.1 r
    rw [boF_row b, bdF_row a b]
  have e : ∀ r, r ≠ 17 → (tsF n pl nw ns q).1 r = stF nw (t2 n pl nw ns q).1 r := fun r hr => up2_row (stF nw (t2 n pl nw ns q).1) 17 0 (stF nw (t2 n pl nw ns q).1 17 0 + nI 1) hr
  refine PB_rows (e 12 (by omega)) (e 13 (by omega)) (stF_PB hp ?_)
  unfold t2 goF
  refine goL_PB (n := n) (S := q.1) hnw hpl nw _ (PB_rows (hr 12 (by omega) (by omega) (by omega)) (hr 13 (by omega) (by omega) (by omega)) h) (fun s hs => ?_)
  obtain ⟨L, a, b⟩ := hLT s hs
  refine ⟨L, L, ?_, a, Nat.le_refl _, b⟩
  show hgF nw (slF n _) 3 s = _
  rw [hgF_at, if_neg (fun z => absurd z.1 (by omega)), slF_at, if_pos ⟨rfl, hs⟩, lt_rows (hr 1 (by omega) (by omega) (by omega)) (hr 7 (by omega) (by omega) (by omega))]
  exact a
theorem tsF_16 {n pl nw ns : Nat} {q : P2} : (tsF n pl nw ns q).1 16 = (sgF nw ns (t1 nw q)).1 16 := by
  show (up2 (stF nw (t2 n pl nw ns q).1) 17 0 (stF nw (t2 n pl nw ns q).1 17 0 + nI 1)) 16 = _
  rw [up2_row _ _ _ _ (by omega), stF_row (by omega) (by omega)]
  unfold t2
  rw [goF_row (by unfold goR; omega)]
theorem tsF_10 {n pl nw ns : Nat} {q : P2} : (tsF n pl nw ns q).1 10 = bdF (windOf q.1) nw q.1 10 := by
  show (up2 (stF nw (t2 n pl nw ns q).1) 17 0 (stF nw (t2 n pl nw ns q).1 17 0 + nI 1)) 10 = _
  rw [up2_row _ _ _ _ (by omega), stF_row (by omega) (by omega)]
  unfold t2
  rw [goF_row (by unfold goR; omega), sgF_row (by omega)]
  unfold t1
  rw [leF_row (by omega)]
  exact boF_row (by omega)
def KZ (nw ns : Nat) (σ : Sg) : Prop := ∀ i, ¬ (i / 6 < nw ∧ i % 6 < ns) → σ 16 i = 0
theorem t1_rows {nw r : Nat} {q : P2} (h1 : r ≠ 10) (h2 : r ≠ 11) : (t1 nw q).1 r = q.1 r := by
  unfold t1
  rw [leF_row h2]
  show boF (windOf q.1) nw (bdF (windOf q.1) nw q.1) r = q.1 r
  rw [boF_row h2, bdF_row h1 h2]
theorem t1_bz {nw : Nat} {q : P2} (h : bz q.1) : bz (t1 nw q).1 := leF_bz (q := (boF (windOf q.1) nw (bdF (windOf q.1) nw q.1), q.2)) (boF_bz (bdF_bz h))
theorem tsF_SV {n pl nw ns : Nat} {q : P2} (hz : bz q.1) (hns : ns ≤ 6) (h : SV nw q.1) : SV nw (tsF n pl nw ns q).1 := by
  refine ⟨fun i => ?_, fun w hw => by rw [tsF_row (by omega)]; exact h.2 w hw⟩
  have hS : SV nw (t1 nw q).1 := by
    unfold SV
    rw [t1_rows (by omega) (by omega), t1_rows (by omega) (by omega)]
    exact h
  obtain ⟨s1, s2⟩ := sgF_at (κ := (t1 nw q).2) hS (t1_bz hz) hns i
  rw [tsF_16]
  by_cases c : i / 6 < nw ∧ i % 6 < ns ∧ (t1 nw q).1 12 (i / 6) = nI 1 ∧ (t1 nw q).1 16 i = 0
  · exact (s1 c).symm ▸ lrn_nn hS
  · exact (s2 c).symm ▸ hS.1 i
theorem tsF_KZ {n pl nw ns : Nat} {q : P2} (hz : bz q.1) (hns : ns ≤ 6) (hS0 : SV nw q.1) (h : KZ nw ns q.1) : KZ nw ns (tsF n pl nw ns q).1 := by
  intro i hi
  have hS : SV nw (t1 nw q).1 := by
    unfold SV
    rw [t1_rows (by omega) (by omega), t1_rows (by omega) (by omega)]
    exact hS0
  obtain ⟨s1, s2⟩ := sgF_at (κ := (t1 nw q).2) hS (t1_bz hz) hns i
  rw [tsF_16]
  refine (s2 (fun z => hi ⟨z.1, z.2.1⟩)).trans ?_
  rw [t1_rows (by omega) (by omega)]
  exact h i hi
/-- beyond the walkers nobody waits; beyond the stretches no corner counts -/
def OZ (n nw : Nat) (σ : Sg) : Prop := (∀ w, nw ≤ w → σ 12 w = 0 ∧ σ 13 w = -1 ∧ σ 14 w = 0 ∧ σ 15 w = -1) ∧ ∀ s, n ≤ s → σ 8 s = 0 ∧ σ 9 s = 0
theorem OZ_OU {n nw : Nat} {σ τ : Sg} (h : OZ n nw σ) (g : OU n nw σ τ) : OZ n nw τ := by
  refine ⟨fun w hw => ?_, fun s hs => ?_⟩
  · obtain ⟨a, b, c, d⟩ := g.1 w hw
    rw [a, b, c, d]
    exact h.1 w hw
  · obtain ⟨a, b⟩ := g.2 s hs
    rw [a, b]
    exact h.2 s hs
def INV (n pl nw ns t : Nat) (σ : Sg) : Prop := (n ≤ 10 ∧ pl ≤ 200 ∧ nw ≤ 20 ∧ ns ≤ 6) ∧ okS nw t σ ∧ wz σ ∧ RF n pl σ ∧ PB pl nw σ ∧ L1 n σ ∧ SV nw σ ∧ KZ nw ns σ ∧ OZ n nw σ
theorem RF_pos {n pl : Nat} {σ : Sg} (h : RF n pl σ) (hn : 0 < n) : 0 < pl := by
  have h1 := (h.1 (n - 1) (by omega)).2.2.1
  have h2 := h.2.2.2.1 hn
  omega
theorem INV_step {n pl nw ns t : Nat} {q : P2} (hn : 0 < n) (h : INV n pl nw ns t q.1) : INV n pl nw ns (t + 1) (tsF n pl nw ns q).1 := by
  obtain ⟨hB, hok, hwz, hRF, hPB, hL1, hSV, hKZ, hOZ⟩ := h
  refine ⟨hB, tsF_ok hok, ?_, RF_rows hRF (tsF_row (by omega)) (tsF_row (by omega)), tsF_PB hB.2.2.1 hB.2.1 (RF_pos hRF hn) (L1_LT hL1) hPB, fun s hs => ?_, tsF_SV hok.1 hB.2.2.2 hSV, tsF_KZ hok.1 hB.2.2.2 hSV hKZ, OZ_OU hOZ (tsF_OU hB.2.2.1)⟩
  · exact wz_row (bdF_wz hwz) tsF_10
  · rw [tsF_row (by omega)]
    exact hL1 s hs
theorem INV_steps {n pl nw ns t : Nat} {q : P2} (hn : 0 < n) (h : INV n pl nw ns t q.1) : ∀ k, INV n pl nw ns (t + k) (tsN n pl nw ns k q).1
  | 0 => h
  | k + 1 => INV_step hn (INV_steps hn h k)
-- 30.tells.lean.txt
/-! WHAT IS TOLD, in the class's words; the model's ways to tell the same -/
def stT (n nw : Nat) (σ : Sg) (s : Nat) : Nat → Int32
  | 0 => σ 0 s
  | 1 => lt_ σ s 2
  | 2 => σ 2 s
  | 3 => nI (on σ nw s)
  | 4 => σ 8 s
  | _ => σ 9 s
def waT (nw : Nat) (σ : Sg) (w : Nat) : Nat → Int32
  | 0 => σ 4 w
  | 1 => σ 10 w
  | 2 => σ 5 w
  | 3 => σ 11 w
  | 4 => σ 12 w
  | 5 => σ 13 w
  | 6 => nI (nb σ nw w)
  | 7 => σ 14 w
  | _ => σ 15 w
def soT (nw : Nat) (σ : Sg) (s : Nat) : Nat → Int32
  | 0 => σ 6 s
  | 1 => nI (kn σ nw s)
  | 2 => nI (vs σ nw s)
  | _ => nI (cm σ nw s 99).1
def alT (n pl nw ns : Nat) (σ : Sg) : Nat → Int32
  | 0 => σ 17 0
  | 1 => nI n
  | 2 => nI pl
  | 3 => nI nw
  | 4 => nI (hm σ nw (nI 0))
  | 5 => nI (hm σ nw (nI 1))
  | 6 => nI (hm σ nw (nI 2))
  | 7 => nI (lb σ nw)
  | 8 => nI ns
  | 9 => fm σ nw
  | _ => fm σ nw - ls_ σ (fm σ nw) nw
theorem onS_at {n pl k sx j0 jz : Nat} {σ : Sg} (h : RF n pl σ) (hpl : pl ≤ 200) (hs : sx < n) (hj : j0 < n) (hw : σ 12 k = nI 1) (hz : σ 13 k = nI jz) (hjz : jz < pl) (ha : nN (σ 2 j0) ≤ jz) (hb : jz < nN (σ 2 j0) + nN (σ 0 j0)) : onS σ sx k = decide (j0 = sx) := by
  unfold onS
  obtain ⟨-, e2, -, -, h3⟩ := h.1 sx hs
  have i1 : σ 13 k < σ 2 sx ↔ jz < nN (σ 2 sx) := by
    rw [hz]
    conv => lhs; rhs; rw [e2]
    exact nI_ltI (by omega) (by omega)
  have i2 : σ 2 sx + σ 0 sx ≤ σ 13 k ↔ nN (σ 2 sx) + nN (σ 0 sx) ≤ jz := by
    rw [RF_end h hs, hz]
    exact nI_leI (by omega) (by omega)
  rw [decide_eq_true hw, Bool.true_and, decide_eq_decide.mpr (not_congr i1), decide_eq_decide.mpr (not_congr i2), ← Bool.decide_and]
  refine decide_eq_decide.mpr ⟨fun z => RF_uniq h hj hs ha hb (by omega) (by omega), fun z => ?_⟩
  subst z
  omega
theorem onS_no {k sx : Nat} {σ : Sg} (hw : ¬ σ 12 k = nI 1) : onS σ sx k = false := by
  unfold onS
  rw [decide_eq_false hw, Bool.false_and]
theorem cnt_ne {p q : Nat → Bool} {n : Nat} (h : ∀ k, k < n → p k = !(q k)) : cnt p n + cnt q n = n := by
  induction n with
  | zero => rfl
  | succ n ih =>
    simp only [cnt]
    have := ih (fun k hk => h k (Nat.lt_succ_of_lt hk))
    rw [h n (Nat.lt_succ_self n)]
    cases q n <;> simp <;> omega
theorem kn_kv {nw s : Nat} {σ : Sg} : kn σ nw s + kv σ nw s (nI 0) = nw := cnt_ne (fun k _ => by
  unfold knS kvS
  rw [nI_0]
  by_cases h : σ 16 (6 * k + s) = 0
  · rw [decide_eq_true h, decide_eq_false (fun z => z h)]
    rfl
  · rw [decide_eq_false h, decide_eq_true h]
    rfl)
/-- the most of the model is the commonest of the class -/
theorem cm_2 {nw s : Nat} {σ : Sg} : ∀ k, (cm σ nw s k).2 = (if (cm σ nw s k).1 = 0 then 0 else kv σ nw s (nI (cm σ nw s k).1)) ∧ (cm σ nw s k).1 ≤ k
  | 0 => ⟨rfl, Nat.le_refl _⟩
  | k + 1 => by
    obtain ⟨h1, h2⟩ := cm_2 (nw := nw) (s := s) (σ := σ) k
    simp only [cm]
    split
    · exact ⟨by show kv σ nw s (nI (k + 1)) = _; rw [if_neg (Nat.succ_ne_zero k)], Nat.le_refl _⟩
    · exact ⟨h1, by omega⟩
theorem cm_a {nw s k : Nat} {σ : Sg} (h : (cm σ nw s k).2 < kv σ nw s (nI (k + 1))) : (cm σ nw s (k + 1)).1 = k + 1 := by
  simp only [cm]
  rw [if_pos h]
theorem cm_b {nw s k : Nat} {σ : Sg} (h : ¬ (cm σ nw s k).2 < kv σ nw s (nI (k + 1))) : (cm σ nw s (k + 1)).1 = (cm σ nw s k).1 := by
  simp only [cm]
  rw [if_neg h]
theorem cm_z {nw s k : Nat} {σ : Sg} (h : (cm σ nw s k).1 = 0) : (cm σ nw s k).2 = 0 := by rw [(cm_2 k).1, if_pos h]
theorem cm_nz {nw s k : Nat} {σ : Sg} (h : ¬ (cm σ nw s k).1 = 0) : (cm σ nw s k).2 = kv σ nw s (nI (cm σ nw s k).1) := by rw [(cm_2 k).1, if_neg h]
theorem lb_s {k : Nat} {σ : Sg} (hz : bz σ) (hw : σ 12 k = nI 1) : nI (cnt (lbS σ) k) + σ 11 k = nI (cnt (lbS σ) (k + 1)) := by
  simp only [cnt]
  unfold lbS
  rw [decide_eq_true hw, Bool.true_and]
  rcases hz k with h | h
  · rw [h, nI_add, decide_eq_false (fun z => z rfl)]
    rfl
  · rw [h, nI_add, decide_eq_true (by decide)]
    rfl
theorem lb_n {k : Nat} {σ : Sg} (hw : ¬ σ 12 k = nI 1) : nI (cnt (lbS σ) k) = nI (cnt (lbS σ) (k + 1)) := by
  refine cnt_f ?_
  unfold lbS
  rw [decide_eq_false hw, Bool.false_and]
/-- the greatest place (b), or the least one, as the model looks for it -/
def enU (b : Bool) (z x : Int32) : Bool := decide (x = -1) || (b == decide (x < z))
def en (σ : Sg) (b : Bool) : Nat → Int32
  | 0 => -1
  | k + 1 => if σ 12 k = nI 1 ∧ enU b (σ 13 k) (en σ b k) = true then σ 13 k else en σ b k
theorem en_0 {σ : Sg} {b : Bool} {k : Nat} (h : ¬ σ 12 k = nI 1) : en σ b (k + 1) = en σ b k := if_neg (fun z => h z.1)
theorem en_a {σ : Sg} {b : Bool} {k : Nat} (h : σ 12 k = nI 1) (h2 : en σ b k = -1) : en σ b (k + 1) = σ 13 k := if_pos ⟨h, by unfold enU; rw [decide_eq_true h2]; rfl⟩
theorem en_b {σ : Sg} {b : Bool} {k : Nat} (h : σ 12 k = nI 1) (h2 : b = decide (en σ b k < σ 13 k)) : en σ b (k + 1) = σ 13 k := if_pos ⟨h, by unfold enU; rw [← h2]; simp⟩
theorem en_c {σ : Sg} {b : Bool} {k : Nat} (h2 : ¬ en σ b k = -1) (h3 : ¬ b = decide (en σ b k < σ 13 k)) : en σ b (k + 1) = en σ b k := if_neg (fun z => by
  have := z.2
  unfold enU at this
  rw [decide_eq_false h2, Bool.false_or] at this
  exact h3 (eq_of_beq this))
theorem m1_lt {j : Nat} (hj : j < 2 ^ 31) : (-1 : Int32) < nI j := by
  rw [Int32.lt_iff_toInt_lt, nI_toInt hj]
  have : ((-1 : Int32)).toInt = -1 := by decide
  omega
theorem fm_en {pl nw : Nat} {σ : Sg} (hpl : pl ≤ 200) (h : PB pl nw σ) : ∀ k, k ≤ nw → en σ true k = fm σ k
  | 0, _ => rfl
  | k + 1, hk => by
    have ih := fm_en hpl h k (by omega)
    by_cases c : σ 12 k = nI 1
    · obtain ⟨j, hj, e⟩ := h k (by omega) c
      by_cases d : fm σ k = -1
      · rw [en_a c (by rw [ih]; exact d)]
        show _ = if _ then _ else _
        rw [if_pos ⟨c, by rw [d, e]; exact Int32.not_le.mpr (m1_lt (by omega))⟩]
      · by_cases f : fm σ k < σ 13 k
        · rw [en_b c (by rw [ih, decide_eq_true f])]
          show _ = if _ then _ else _
          rw [if_pos ⟨c, Int32.not_le.mpr f⟩]
        · rw [en_c (by rw [ih]; exact d) (by rw [ih, decide_eq_false f]; decide), ih]
          show _ = if _ then _ else _
          rw [if_neg (fun z => f (Int32.not_le.mp z.2))]
    · rw [en_0 c, ih]
      show _ = if _ then _ else _
      rw [if_neg (fun z => c z.1)]
theorem fm_ge {σ : Sg} {nw w : Nat} : ∀ {k : Nat}, w < k → σ 12 w = nI 1 → σ 13 w ≤ fm σ k
  | 0, hw, _ => absurd hw (Nat.not_lt_zero _)
  | k + 1, hw, h => by
    show _ ≤ if _ then _ else _
    by_cases e : w = k
    · subst e
      by_cases d : σ 13 w ≤ fm σ w
      · rw [if_neg (fun z => z.2 d)]; exact d
      · rw [if_pos ⟨h, d⟩]; exact Int32.le_refl _
    · have ih := fm_ge (σ := σ) (nw := nw) (w := w) (k := k) (by omega) h
      split
      · rename_i q
        exact Int32.le_trans ih (Int32.le_of_lt (Int32.not_le.mp q.2))
      · exact ih
theorem ls_en {pl nw : Nat} {σ : Sg} (hpl : pl ≤ 200) (h : PB pl nw σ) : en σ false nw = ls_ σ (fm σ nw) nw := by
  have key : ∀ k, k ≤ nw → (en σ false k = -1 ∧ ls_ σ (fm σ nw) k = fm σ nw ∧ ∀ w, w < k → ¬ σ 12 w = nI 1) ∨ (¬ en σ false k = -1 ∧ ls_ σ (fm σ nw) k = en σ false k) := by
    intro k
    induction k with
    | zero => intro _; exact Or.inl ⟨rfl, rfl, fun w hw => absurd hw (Nat.not_lt_zero _)⟩
    | succ k ih =>
      intro hk
      by_cases c : σ 12 k = nI 1
      · obtain ⟨j, hj, e⟩ := h k (by omega) c
        have hne : ¬ σ 13 k = -1 := fun z => by
          have := m1_lt (j := j) (by omega)
          rw [← e, z] at this
          exact absurd this (by decide)
        have hge : σ 13 k ≤ fm σ nw := fm_ge (nw := nw) (by omega) c
        refine Or.inr ?_
        rcases ih (by omega) with ⟨a1, a2, -⟩ | ⟨a1, a2⟩
        · rw [en_a c a1]
          refine ⟨hne, ?_⟩
          show (if _ then _ else _) = _
          rw [a2]
          split
          · rfl
          · rename_i q
            exact Int32.le_antisymm (Classical.not_not.mp (fun z => q ⟨c, z⟩)) hge
        · by_cases f : en σ false k < σ 13 k
          · rw [en_c a1 (by rw [decide_eq_true f]; decide)]
            refine ⟨a1, ?_⟩
            show (if _ then _ else _) = _
            rw [if_neg (fun z => z.2 (by rw [a2]; exact Int32.le_of_lt f)), a2]
          · rw [en_b c (by rw [decide_eq_false f])]
            refine ⟨hne, ?_⟩
            show (if _ then _ else _) = _
            split
            · rfl
            · rename_i q
              rw [a2] at q ⊢
              exact Int32.le_antisymm (Classical.not_not.mp (fun z => q ⟨c, z⟩)) (Int32.not_lt.mp f)
      · rw [en_0 c]
        have e : ls_ σ (fm σ nw) (k + 1) = ls_ σ (fm σ nw) k := if_neg (fun z => c z.1)
        rw [e]
        rcases ih (by omega) with ⟨a1, a2, a3⟩ | q
        · refine Or.inl ⟨a1, a2, fun w hw => ?_⟩
          by_cases z : w = k
          · subst z; exact c
          · exact a3 w (by omega)
        · exact Or.inr q
  rcases key nw (Nat.le_refl nw) with ⟨a1, a2, a3⟩ | ⟨a1, a2⟩
  · rw [a1, a2]
    have : ∀ k, k ≤ nw → fm σ k = -1 := by
      intro k
      induction k with
      | zero => intro _; rfl
      | succ k ih =>
        intro hk
        show (if _ then _ else _) = _
        rw [if_neg (fun z => a3 k (by omega) z.1)]
        exact ih (by omega)
    exact (this nw (Nat.le_refl nw)).symm
  · exact a2.symm
/-- songs known in all, cell by cell -/
def prS (σ : Sg) (i : Nat) : Bool := decide (0 < σ 16 i)
theorem cnt_add {p : Nat → Bool} (a : Nat) : ∀ b, cnt p (a + b) = cnt p a + cnt (fun i => p (a + i)) b
  | 0 => rfl
  | b + 1 => by
    show cnt p (a + b) + (if p (a + b) = true then 1 else 0) = cnt p a + (cnt (fun i => p (a + i)) b + (if p (a + b) = true then 1 else 0))
    rw [cnt_add a b]
    omega
theorem cnt_6 {p : Nat → Bool} : ∀ m, cnt p (6 * m) = cnt (fun k => p (6 * k)) m + cnt (fun k => p (6 * k + 1)) m + cnt (fun k => p (6 * k + 2)) m + cnt (fun k => p (6 * k + 3)) m + cnt (fun k => p (6 * k + 4)) m + cnt (fun k => p (6 * k + 5)) m
  | 0 => rfl
  | m + 1 => by
    rw [show 6 * (m + 1) = 6 * m + 6 by omega, cnt_add, cnt_6 m]
    simp only [cnt, Nat.add_zero, Nat.zero_add]
    omega
theorem cnt_cut {p : Nat → Bool} {a b : Nat} (h : ∀ k, a ≤ k → p k = false) (hab : a ≤ b) : cnt p b = cnt p a := by
  obtain ⟨d, rfl⟩ := Nat.exists_eq_add_of_le hab
  rw [cnt_add, cnt_0 (fun k _ => h (a + k) (Nat.le_add_right a k))]
  rfl
theorem sumN_6 {f : Nat → Nat} {ns : Nat} (hns : ns ≤ 6) (h : ∀ s, ns ≤ s → f s = 0) : f 0 + f 1 + f 2 + f 3 + f 4 + f 5 = sumN f ns := by
  have c : ∀ m, sumN f (m + 1) = sumN f m + f m := fun _ => rfl
  rcases (show ns = 0 ∨ ns = 1 ∨ ns = 2 ∨ ns = 3 ∨ ns = 4 ∨ ns = 5 ∨ ns = 6 by omega) with rfl | rfl | rfl | rfl | rfl | rfl | rfl
  · rw [h 0 (by omega), h 1 (by omega), h 2 (by omega), h 3 (by omega), h 4 (by omega), h 5 (by omega)]; rfl
  · rw [c, h 1 (by omega), h 2 (by omega), h 3 (by omega), h 4 (by omega), h 5 (by omega)]; simp [sumN]
  · rw [c, c, h 2 (by omega), h 3 (by omega), h 4 (by omega), h 5 (by omega)]; simp [sumN]
  · rw [c, c, c, h 3 (by omega), h 4 (by omega), h 5 (by omega)]; simp [sumN]
  · rw [c, c, c, c, h 4 (by omega), h 5 (by omega)]; simp [sumN]
  · rw [c, c, c, c, c, h 5 (by omega)]; simp [sumN]
  · rw [c, c, c, c, c, c]; simp [sumN]
theorem pr_kn {nw ns : Nat} {σ : Sg} (hnw : nw ≤ 20) (hns : ns ≤ 6) (hSV : SV nw σ) (hKZ : KZ nw ns σ) : cnt (prS σ) 120 = sumN (kn σ nw) ns := by
  have e : ∀ i, prS σ i = decide (¬ σ 16 i = 0) := fun i => by
    unfold prS
    have h0 := hSV.1 i
    by_cases z : σ 16 i = 0
    · rw [z]; rfl
    · rw [decide_eq_true (show ¬ σ 16 i = 0 from z), decide_eq_true]
      exact Int32.lt_of_le_of_ne h0 (fun y => z y.symm)
  have f0 : ∀ s, s < 6 → ns ≤ s → kn σ nw s = 0 := fun s hs hn => cnt_0 (fun k hk => by
    unfold knS
    exact decide_eq_false (fun z => z (hKZ _ (by omega))))
  have g : ∀ s, s < 6 → cnt (fun k => prS σ (6 * k + s)) 20 = kn σ nw s := fun s hs => by
    rw [cnt_cut (a := nw) (fun k hk => ?_) hnw]
    · exact cnt_congr (fun k _ => e _)
    · show prS σ (6 * k + s) = false
      rw [e]
      exact decide_eq_false (fun z => z (hKZ _ (by omega)))
  have gF : ∀ s, s < 6 → cnt (fun k => prS σ (6 * k + s)) 20 = (fun s => if s < 6 then kn σ nw s else 0) s := fun s hs => by
    rw [g s hs]; exact (if_pos hs).symm
  rw [show (120 : Nat) = 6 * 20 from rfl, cnt_6]
  have g0 := gF 0 (by omega)
  simp only [Nat.add_zero] at g0
  rw [g0, gF 1 (by omega), gF 2 (by omega), gF 3 (by omega), gF 4 (by omega), gF 5 (by omega)]
  rw [sumN_6 (f := fun s => if s < 6 then kn σ nw s else 0) hns (fun s hs => by
    show (if s < 6 then _ else _) = _
    split
    · exact f0 s (by assumption) hs
    · rfl)]
  have key : ∀ m, m ≤ 6 → sumN (fun s => if s < 6 then kn σ nw s else 0) m = sumN (kn σ nw) m := by
    intro m
    induction m with
    | zero => intro _; rfl
    | succ m ih =>
      intro hm
      simp only [sumN]
      rw [ih (by omega), if_pos (by omega)]
  exact key ns hns
-- 32.ops.lean.txt
/-! THE CALLS, in pure words: k which refusal (0: none), v the answer, s the rows afterwards -/
def isI (v lo hi : Int32) : Bool := decide (¬ v < lo) && decide (¬ hi < v)
theorem isI_nat {v : Int32} {lo hi : Nat} (hl : lo < 2 ^ 31) (hh : hi < 2 ^ 31) (h : isI v (nI lo) (nI hi) = true) : ∃ j : Nat, lo ≤ j ∧ j ≤ hi ∧ v = nI j := by
  unfold isI at h
  rw [Bool.and_eq_true] at h
  have h1 := of_decide_eq_true h.1
  have h2 := of_decide_eq_true h.2
  have h0 : ¬ v < 0 := fun z => h1 (Int32.lt_of_lt_of_le z (nI_pos' hl))
  obtain ⟨j, hj, rfl⟩ := nI_of h0
  rw [nI_ltI hj hl] at h1
  rw [nI_ltI hh hj] at h2
  exact ⟨j, by omega, by omega, rfl⟩
theorem isI_of {j lo hi : Nat} (hh : hi < 2 ^ 31) (h1 : lo ≤ j) (h2 : j ≤ hi) : isI (nI j) (nI lo) (nI hi) = true := by
  unfold isI
  rw [decide_eq_true (show ¬ nI j < nI lo from fun z => by rw [nI_ltI (by omega) (by omega)] at z; omega), decide_eq_true (show ¬ nI hi < nI j from fun z => by rw [nI_ltI (by omega) (by omega)] at z; omega)]
  rfl
theorem has_nat {n : Nat} {v : Int32} (hn : n < 2 ^ 31) (h : has n v = true) : ∃ j : Nat, j < n ∧ v = nI j := by
  unfold has at h
  rw [Bool.and_eq_true] at h
  have h1 := of_decide_eq_true h.1
  have h2 := of_decide_eq_true h.2
  obtain ⟨j, hj, rfl⟩ := nI_of h1
  rw [nI_leI hn hj] at h2
  exact ⟨j, by omega, rfl⟩
theorem has_of {n j : Nat} (hn : n < 2 ^ 31) (h : j < n) : has n (nI j) = true := by
  unfold has
  rw [decide_eq_true (nI_pos (by omega)), decide_eq_true (show ¬ nI n ≤ nI j from fun z => by rw [nI_leI (by omega) (by omega)] at z; omega)]
  rfl
/-- -1, or one of the first n -/
def noneOr (n : Nat) (z : Int32) : Bool := decide (z = -1) || has n z
def kAdd (n : Nat) (σ : Sg) (x y : Int32) : Nat := if isI x (nI 1) (nI 20) = true ∧ isI y (nI 1) (nI 4) = true then (if n = 10 ∨ 0 < σ 17 0 then 2 else 0) else 1
def sAdd (n pl : Nat) (σ : Sg) (x y : Int32) : Sg := up2 (up2 (up2 σ 0 n x) 1 n y) 2 n (nI pl)
def kPost (n : Nat) (x y : Int32) : Nat := if isI x (nI 0) (nI 1) = true ∧ noneOr n y = true then 0 else 1
def sPost (n : Nat) (σ : Sg) (x y : Int32) : Sg := if kPost n x y = 0 then up2 σ 7 (nN x) y else σ
def vPost (n : Nat) (σ : Sg) (x y : Int32) : Int32 := if kPost n x y = 0 then σ 7 (nN x) else nI 0
def kWind (x y : Int32) : Nat := if isI x (nI 0) (nI 9) = true then (if isI y (nI 0) (nI 9) = true then 0 else 2) else 1
def sWind (σ : Sg) (x y : Int32) : Sg := if kWind x y = 0 then up2 σ 3 (nN x) y else σ
def vWind (σ : Sg) (x y : Int32) : Int32 := if kWind x y = 0 then σ 3 (nN x) else nI 0
def kCome (nw : Nat) (x y z : Int32) : Nat := if isI x (nI 1) (nI 3) = true ∧ isI y (nI 0) (nI 200) = true ∧ isI z (nI 0) (nI 9) = true then (if nw = 20 then 2 else 0) else 1
def sCome (nw : Nat) (σ : Sg) (x y z : Int32) : Sg := up2 (up2 (up2 (up2 σ 4 nw x) 5 nw z) 10 nw y) 11 nw (if nI 0 < y then nI 1 else nI 0)
def kTrim (nw : Nat) (σ : Sg) (x y : Int32) : Nat := if has nw x = true then (if isI y (nI 1) (nI 200) = true then (if σ 12 (nN x) = nI 2 then 3 else 0) else 2) else 1
def wTrim (σ : Sg) (x y : Int32) : Int32 := if σ 10 (nN x) + y < nI 200 then σ 10 (nN x) + y else nI 200
def sTrim (nw : Nat) (σ : Sg) (x y : Int32) : Sg := if kTrim nw σ x y = 0 then up2 (up2 σ 10 (nN x) (wTrim σ x y)) 11 (nN x) (nI 1) else σ
def vTrim (nw : Nat) (σ : Sg) (x y : Int32) : Int32 := if kTrim nw σ x y = 0 then wTrim σ x y else nI 0
def kSong (ns : Nat) (x : Int32) : Nat := if isI x (nI 1) (nI 9) = true then (if ns = 6 then 2 else 0) else 1
def nSong (ns : Nat) (x : Int32) : Nat := if kSong ns x = 0 then ns + 1 else ns
def sSong (ns : Nat) (σ : Sg) (x : Int32) : Sg := if kSong ns x = 0 then up2 σ 6 ns x else σ
def vSong (ns : Nat) (x : Int32) : Int32 := if kSong ns x = 0 then nI ns else nI 0
def kTeach (nw ns : Nat) (x y z : Int32) : Nat := if has nw x = true ∧ has ns y = true then (if isI z (nI 0) (nI 99) = true then 0 else 2) else 1
def sTeach (nw ns : Nat) (σ : Sg) (x y z : Int32) : Sg := if kTeach nw ns x y z = 0 then up2 σ 16 (6 * nN x + nN y) z else σ
def vTeach (nw ns : Nat) (σ : Sg) (x y z : Int32) : Int32 := if kTeach nw ns x y z = 0 then σ 16 (6 * nN x + nN y) else nI 0
def kTwo (n : Nat) (hi : Nat) (x y : Int32) : Nat := if has n x = true ∧ isI y (nI 0) (nI hi) = true then 0 else 1
def kKnow (nw ns : Nat) (x y : Int32) : Nat := if has nw x = true ∧ has ns y = true then 0 else 1
def vKnow (nw ns : Nat) (σ : Sg) (x y : Int32) : Int32 := if kKnow nw ns x y = 0 then σ 16 (6 * nN x + nN y) else nI 0
def kPass (n : Nat) (x : Int32) : Nat := if isI x (nI 1) (nI 200) = true then (if n = 0 then 2 else 0) else 1
def kCount (x : Int32) : Nat := if isI x (nI 0) (nI 10) = true then 0 else 1
def ifk (k : Nat) (v : Int32) : Int32 := if k = 0 then v else nI 0
theorem ifk_0 {k : Nat} {v : Int32} (h : k = 0) : ifk k v = v := if_pos h
theorem ifk_n {k : Nat} {v : Int32} (h : ¬ k = 0) : ifk k v = nI 0 := if_neg h
-- 34.men.lean.txt
/-! MANY STEPS of the model -/
def meN (n pl nw ns : Nat) : Nat → P2 → P2
  | 0, x => x
  | k + 1, x => (ms5 n pl nw ns (meN n pl nw ns k x).1 (meN n pl nw ns k x).2, me5 n pl nw ns (meN n pl nw ns k x).1 (meN n pl nw ns k x).2)
def LZ (nw ns : Nat) (η : Sg) : Prop := ∀ i, ¬ (i / 6 < nw ∧ i % 6 < ns) → η 0 i = 0
theorem me5_0 {n pl nw ns : Nat} {σ η : Sg} : me5 n pl nw ns σ η 0 = lnR (ms1 nw σ η) nw ns nw 0 (η 0) := by
  unfold me5 tuE thE me3 wnE thE me2 lnE me1 lgE va_up
  simp
theorem me5_LZ {n pl nw ns : Nat} {σ η : Sg} (h : LZ nw ns η) : LZ nw ns (me5 n pl nw ns σ η) := by
  intro i hi
  rw [me5_0]
  unfold lnR
  rw [if_neg (fun z => z.elim hi (fun y => absurd y.2 (Nat.not_lt_zero _)))]
  exact h i hi
theorem INV_ms5 {n pl nw ns t : Nat} {σ η κ : Sg} (hI : INV n pl nw ns t σ) (hL : LZ nw ns η) : ms5 n pl nw ns σ η = (tsF n pl nw ns (σ, κ)).1 := by
  obtain ⟨hB, hok, hwz, hRF, hPB, hL1, hSV, hKZ, hOZ⟩ := hI
  exact ms5_eq hok.1 hwz hPB hSV hB.2.1 hB.2.2.1 hB.2.2.2 hL
theorem meN_inv {n pl nw ns t : Nat} {x : P2} (κ : Sg) (hn : 0 < n) (hI : INV n pl nw ns t x.1) (hL : LZ nw ns x.2) : ∀ k, INV n pl nw ns (t + k) (meN n pl nw ns k x).1 ∧ LZ nw ns (meN n pl nw ns k x).2 ∧ (meN n pl nw ns k x).1 = (tsN n pl nw ns k (x.1, κ)).1
  | 0 => ⟨hI, hL, rfl⟩
  | k + 1 => by
    obtain ⟨h1, h2, h3⟩ := meN_inv κ hn hI hL k
    have e : ms5 n pl nw ns (meN n pl nw ns k x).1 (meN n pl nw ns k x).2 = (tsF n pl nw ns (tsN n pl nw ns k (x.1, κ))).1 := by
      rw [INV_ms5 (κ := (tsN n pl nw ns k (x.1, κ)).2) h1 h2, h3]
    refine ⟨?_, me5_LZ h2, e⟩
    show INV n pl nw ns (t + k + 1) (ms5 n pl nw ns (meN n pl nw ns k x).1 (meN n pl nw ns k x).2)
    rw [e]
    exact INV_step hn (by rw [← h3]; exact h1)
-- 36.base2.lean.txt
/-! CONTRACTS of methods that make cells, or answer long or double -/
section LWZ
variable {l : Launch} {y : MethodName} {ws ws' : List Cond} {rm : Room} {cc : ByteArray} {maxL mc ms : Nat} {ty : FieldType} {av : List Value} {D : va_G} {tys : List (ClassId × FieldType)} {w w' : va_W} {H : Heap} {v : Int32} {A : Nat → Prop}
theorem w_wide {p : Program} {e : Env} {R : Room} {s : State} {m : MethodId} {args : Array Value} {below : List Frame} {meth : Method} {c : Code} {locs : List Loc} {cells slots : Nat} {Q : State → Prop} {g : JFrame} {k n : Nat} (h1 : cells ≤ k) (h2 : slots ≤ n) (kk : W p l e R s m args below meth c H locs k n Q g) : W p l e R s m args below meth c H locs cells slots Q g := fun T hT X => kk T hT (stand_widen X h1 h2)
def md_Q (D : va_G) (v : UInt64) (w' : va_W) (A : Nat → Prop) : Array Value → State → Outcome → State → Prop := va_Qd (fun (r : UInt64) (_ : Unit) => r = v) (fun _ t => va_P D vwCl w' t.heap) A
theorem mdz_of {v : UInt64} (hy : plainName y.cls = true) (hw : ws = Cond.code y cc maxL (some .double) :: ws') (hlen : (lg_sl av).length ≤ maxL)
    (body : ∀ (p : Program) (e : Env) (s : State) (m : MethodId) (args : Array Value) (below : List Frame) (meth : Method) (c : Code) (Q : State → Prop) (ls : Array Slot) (locs : List Loc),
      p.tables.exec = Jvm.exec → c.code = cc → c.maxLocals = maxL → s.vm.findClass y.cls = some m.cls → (∀ w ∈ ws, w.before args s = true) → va_K D vwCl tys s → lwE s → va_P D vwCl w H → lv_has ls maxL (lv_args 0 av) → va_S A H H locs →
      (∀ (pc : Nat) (ls : Array Slot) (H1 : Heap) (locs : List Loc), decode cc pc = .ok (.dreturn, 1) → va_P D vwCl w' H1 → va_S A H H1 locs → W p l e rm s m args below meth c H1 locs 0 0 Q (F0 m pc ls [.double v])) →
      W p l e rm s m args below meth c H locs 0 0 Q (F0 m 0 ls [])) : Met l y ws rm (ro_P D tys w H av) (md_Q D v w' A) 0 0 A := by
  refine Met.ofW (cc := cc) (maxL := maxL) (ret := some .double) hy hw ?_
  intro p e s m args below meth c s₁ B hml hv
  obtain ⟨rfl, rfl, hP, hK, hE⟩ := hv
  have hx := B.exec
  have hb := B.bytes
  have hr := B.returns
  have hts := atoms_spec (ws := ws) B.pre
  have hown : s.vm.findClass y.cls = some m.cls := findClass_of_methodNamed B.named
  have hlocks := B.notSynchronized
  have hl := lv_entry av (n := maxL) hlen
  rw [lg_entry_eq]
  generalize (lg_sl av ++ List.replicate (maxL - (lg_sl av).length) Slot.unset).toArray = ls at hl ⊢
  exact body p e s m _ below meth c _ ls [] hx hb hml hown hts hK hE hP hl va_S.rf (fun pc ls H1 locs hd hP1 hS => W.dret (v := v) hx hb hr (fun t ht hW => ⟨⟨v, (), rfl, rfl, by show va_P D vwCl w' t.heap; rw [ht]; exact hP1⟩, hS.F ht⟩) hS.2.2 hd hlocks)
end LWZ
/-- light, and the digest, in pure words -/
theorem nd_all : ∀ a : Fin 21, ∀ b : Fin 21, 0 < b.1 → vf_n64 (FP.ddiv (FP.i2d (nI a.1)) (FP.i2d (nI b.1))) := by unfold vf_n64; decide +kernel
def liV (nw : Nat) (σ : Sg) : UInt64 := if hm σ nw (nI 1) = 0 then FP.dconst0 else FP.ddiv (FP.i2d (nI (lb σ nw))) (FP.i2d (nI (hm σ nw (nI 1))))
theorem hm_le {σ : Sg} {nw : Nat} {x : Int32} : hm σ nw x ≤ nw := cnt_le _ _
theorem lb_le {σ : Sg} {nw : Nat} : lb σ nw ≤ nw := cnt_le _ _
theorem nd_li {nw : Nat} {σ : Sg} (h : nw ≤ 20) (h1 : hm σ nw (nI 1) ≠ 0) : vf_n64 (FP.ddiv (FP.i2d (nI (lb σ nw))) (FP.i2d (nI (hm σ nw (nI 1))))) := by
  have a1 := lb_le (σ := σ) (nw := nw)
  have a2 := hm_le (σ := σ) (nw := nw) (x := nI 1)
  exact nd_all ⟨lb σ nw, by omega⟩ ⟨hm σ nw (nI 1), by omega⟩ (by show 0 < hm σ nw (nI 1); omega)
section LWZ3
variable {p : Program} {l : Launch} {e : Env} {R : Room} {s : State} {m : MethodId} {args : Array Value} {below : List Frame} {meth : Method} {c : Code} {H : Heap} {locs : List Loc} {cells slots : Nat} {Q : State → Prop} {pc : Nat} {ls : Array Slot} {rest : List Value}
theorem li_topd {x x' : UInt64} (h : x = x') (k : W p l e R s m args below meth c H locs cells slots Q (F0 m pc ls (.double x' :: rest))) : W p l e R s m args below meth c H locs cells slots Q (F0 m pc ls (.double x :: rest)) := by rw [h]; exact k
end LWZ3
-- 38.alloc.lean.txt
/-! THE MODEL'S OWN ROWS: a row written down first, then copied -/
def vAdd (n : Nat) (σ : Sg) (x y : Int32) : Int32 := if kAdd n σ x y = 0 then nI n else nI 0
def sAddK (n pl : Nat) (σ : Sg) (x y : Int32) : Sg := if kAdd n σ x y = 0 then sAdd n pl σ x y else σ
def nAdd (n : Nat) (σ : Sg) (x y : Int32) : Nat := if kAdd n σ x y = 0 then n + 1 else n
def vCome (nw : Nat) (x y z : Int32) : Int32 := if kCome nw x y z = 0 then nI nw else nI 0
def sComeK (nw : Nat) (σ : Sg) (x y z : Int32) : Sg := if kCome nw x y z = 0 then sCome nw σ x y z else σ
def nCome (nw : Nat) (x y z : Int32) : Nat := if kCome nw x y z = 0 then nw + 1 else nw
-- 40.kept.lean.txt
/-! ROWS OF ROWS: what is kept and brought back -/
section LKP
variable {p : Program} {l : Launch} {e : Env} {R : Room} {s : State} {m : MethodId} {args : Array Value} {below : List Frame} {meth : Method} {c : Code} {H H1 : Heap} {locs : List Loc} {cells slots : Nat} {Q : State → Prop}
variable {cc : ByteArray} {pc : Nat} {ls : Array Slot} {rest st0 : List Value} {D : va_G} {w w' : va_W} {A A0 A1 : Nat → Prop} {H0 : Heap} {cI cZ cL cO : ClassId} {a b : Nat → Nat} {th : Int32} {n nw ns : Nat} {σ σ' σ'' η η' : Sg}
theorem okP.M {N M : Nat} (h : okP A b N) (hM : M ≤ N) : okP A b M := ⟨fun i j hi hj => h.1 i j (by omega) (by omega), fun k hk => h.2 k (by omega)⟩
/-- the first M addresses -/
def A_ (b : Nat → Nat) (M : Nat) : Nat → Prop := fun q => ∃ k, k < M ∧ q = b k
theorem okP.A_ {N M : Nat} (h : okP A b N) (hM : M ≤ N) : okP (A_ b M) b M := ⟨fun i j hi hj => h.1 i j (by omega) (by omega), fun k hk => ⟨k, hk, rfl⟩⟩
end LKP
-- 43.base3.lean.txt
/-! a method without an answer that makes cells; what a whole copy is -/
theorem va_D_map {A : Nat → Prop} {w w' : va_W} (hD : va_D A w) (h : w.map (fun q => q.1) = w'.map (fun q => q.1)) : va_D A w' := by
  have key : ∀ (k : Nat) (q : Nat × va_E), w'[k]? = some q → ∃ p, w[k]? = some p ∧ p.1 = q.1 := fun k q hq => by
    have h1 : (w'.map (fun q => q.1))[k]? = some q.1 := by rw [List.getElem?_map, hq]; rfl
    rw [← h, List.getElem?_map] at h1
    cases hp : w[k]? with
    | none => rw [hp] at h1; cases h1
    | some p => rw [hp] at h1; exact ⟨p, rfl, Option.some.inj h1⟩
  refine ⟨fun i j p q hi hj e => ?_, fun k q hk => ?_⟩
  · obtain ⟨p', h1, h2⟩ := key i p hi
    obtain ⟨q', h3, h4⟩ := key j q hj
    exact hD.1 i j p' q' h1 h3 (by rw [h2, h4]; exact e)
  · obtain ⟨p, h1, h2⟩ := key k q hk
    rw [← h2]
    exact hD.2 k p h1
-- 45.calls.lean.txt
/-! CALLS of methods that make cells -/
theorem ak_of {A : Nat → Prop} {b : Nat → Nat} {N : Nat} (h : okP A b N) : ∀ q, A_ b N q → A q := fun q ⟨k, hk, e⟩ => by rw [e]; exact h.2 k hk
-- 46.ahead.lean.txt
/-! LOOKING AHEAD, in pure words; the calls' form of the model (notes of no worth) -/
def trj (n pl nw ns : Nat) (σ : Sg) (k : Nat) : Sg := (tsN n pl nw ns k (σ, fun _ _ => 0)).1
theorem trj_any {n pl nw ns t : Nat} {σ κ : Sg} (hn : 0 < n) (hI : INV n pl nw ns t σ) (k : Nat) : (tsN n pl nw ns k (σ, κ)).1 = trj n pl nw ns σ k := by
  have h1 := (meN_inv (x := (σ, fun _ _ => 0)) κ hn hI (fun _ _ => rfl) k).2.2
  have h2 := (meN_inv (x := (σ, fun _ _ => 0)) (fun _ _ => 0) hn hI (fun _ _ => rfl) k).2.2
  exact h1.symm.trans h2
theorem INV_r {n pl nw ns t : Nat} {σ τ : Sg} (h : INV n pl nw ns t σ) (e : ∀ r, r ≠ 3 → r ≠ 6 → r ≠ 7 → τ r = σ r) : INV n pl nw ns t τ := by
  have e0 := e 0 (by omega) (by omega) (by omega)
  have e1 := e 1 (by omega) (by omega) (by omega)
  have e2 := e 2 (by omega) (by omega) (by omega)
  have e4 := e 4 (by omega) (by omega) (by omega)
  have e5 := e 5 (by omega) (by omega) (by omega)
  have e8 := e 8 (by omega) (by omega) (by omega)
  have e9 := e 9 (by omega) (by omega) (by omega)
  have e10 := e 10 (by omega) (by omega) (by omega)
  have e11 := e 11 (by omega) (by omega) (by omega)
  have e12 := e 12 (by omega) (by omega) (by omega)
  have e13 := e 13 (by omega) (by omega) (by omega)
  have e14 := e 14 (by omega) (by omega) (by omega)
  have e15 := e 15 (by omega) (by omega) (by omega)
  have e16 := e 16 (by omega) (by omega) (by omega)
  have e17 := e 17 (by omega) (by omega) (by omega)
  obtain ⟨hB, hok, hwz, hRF, hPB, hL1, hSV, hKZ, hOZ⟩ := h
  refine ⟨hB, ⟨bz_row hok.1 e11, ?_, ?_⟩, wz_row hwz e10, RF_rows hRF e0 e2, PB_rows e12 e13 hPB, ?_, ?_, ?_, ?_⟩
  · rw [e4]; exact hok.2.1
  · rw [e17]; exact hok.2.2
  · unfold L1; rw [e1]; exact hL1
  · unfold SV; rw [e16, e5]; exact hSV
  · unfold KZ; rw [e16]; exact hKZ
  · unfold OZ; rw [e8, e9, e12, e13, e14, e15]; exact hOZ
/-- foresee -/
def kFor (n : Nat) (x y : Int32) : Nat := if isI x (nI 1) (nI 150) = true then (if isI y (nI 0) (nI 2) = true then (if n = 0 then 3 else 0) else 2) else 1
def foT (nw ns : Nat) (σ : Sg) : Nat → Int32
  | 0 => nI (hm σ nw (nI 2))
  | 1 => nI (lb σ nw)
  | _ => nI (sumN (kn σ nw) ns)
def vFor (n pl nw ns : Nat) (σ : Sg) (x y : Int32) : Int32 := ifk (kFor n x y) (foT nw ns (trj n pl nw ns σ (nN x)) (nN y))
/-- home -/
def hoS (n pl nw ns : Nat) (σ : Sg) (w k : Nat) : Bool := decide (trj n pl nw ns σ k 12 w = nI 2)
def kHome (nw : Nat) (x : Int32) : Nat := if has nw x = true then 0 else 1
def hoV (n pl nw ns : Nat) (σ : Sg) (w : Nat) : Int32 := if σ 12 w = nI 2 then nI 0 else if n = 0 then -1 else oI (fnd (hoS n pl nw ns σ w) 301)
def vHome (n pl nw ns : Nat) (σ : Sg) (x : Int32) : Int32 := ifk (kHome nw x) (hoV n pl nw ns σ (nN x))
theorem hoV_0 {n pl nw ns w : Nat} {σ : Sg} (h : σ 12 w = nI 2) : hoV n pl nw ns σ w = nI 0 := if_pos h
theorem hoV_1 {n pl nw ns w : Nat} {σ : Sg} (h : ¬ σ 12 w = nI 2) (hn : n = 0) : hoV n pl nw ns σ w = -1 := by unfold hoV; rw [if_neg h, if_pos hn]
theorem hoV_s {n pl nw ns w k : Nat} {σ : Sg} (h : ¬ σ 12 w = nI 2) (hn : 0 < n) (hk : k < 301) (hh : fnd (hoS n pl nw ns σ w) k = none) (he : trj n pl nw ns σ k 12 w = nI 2) : hoV n pl nw ns σ w = nI k := by
  unfold hoV
  rw [if_neg h, if_neg (by omega), fnd_s hk hh (decide_eq_true he)]
  rfl
theorem hoV_n {n pl nw ns w : Nat} {σ : Sg} (h : ¬ σ 12 w = nI 2) (hn : 0 < n) (hh : fnd (hoS n pl nw ns σ w) 301 = none) : hoV n pl nw ns σ w = -1 := by
  unfold hoV
  rw [if_neg h, if_neg (by omega), hh]
  rfl
/-! a call of the model that leaves the rows, and notes of no worth -/
