/-! the model's step -/
def mlo (ah : Nat → Int32) (x : Option Nat) (k : Nat) : Bool := match x with
  | none => true
  | some j => decide (¬ ah k ≤ ah j)
/-- who goes next, of the first k -/
def mf (wt ah : Nat → Int32) : Nat → Option Nat
  | 0 => none
  | k + 1 => if wt k = 0 ∧ mlo ah (mf wt ah k) k = true then some k else mf wt ah k
theorem mf_lt {wt ah : Nat → Int32} : ∀ {k j : Nat}, mf wt ah k = some j → j < k ∧ wt j = 0
  | 0, j, h => by cases h
  | k + 1, j, h => by
    simp only [mf] at h
    split at h
    · rename_i q
      cases h
      exact ⟨Nat.lt_succ_self _, q.1⟩
    · exact ⟨Nat.lt_succ_of_lt (mf_lt h).1, (mf_lt h).2⟩
section MF
variable {wt ah : Nat → Int32} {k j : Nat}
theorem mf_0 (h : ¬ wt k = 0) : mf wt ah (k + 1) = mf wt ah k := if_neg (fun q => h q.1)
theorem mf_n (h : wt k = 0) (h3 : mf wt ah k = none) : mf wt ah (k + 1) = some k := if_pos ⟨h, by rw [h3]; rfl⟩
theorem mf_k (h : wt k = 0) (h3 : mf wt ah k = some j) (h4 : ¬ ah k ≤ ah j) : mf wt ah (k + 1) = some k := if_pos ⟨h, by rw [h3]; exact decide_eq_true h4⟩
theorem mf_j (h3 : mf wt ah k = some j) (h4 : ah k ≤ ah j) : mf wt ah (k + 1) = some j := by
  simp only [mf]
  rw [if_neg (fun q => by rw [h3] at q; exact absurd h4 (of_decide_eq_true q.2))]
  exact h3
end MF
/-- the turns -/
def mgo (n pl nw : Nat) (ah : Nat → Int32) : Nat → P2 → (Nat → Int32) → P2 × (Nat → Int32)
  | 0, q, wt => (q, wt)
  | m + 1, q, wt => match mf wt ah nw with
    | none => (q, wt)
    | some j => mgo n pl nw ah m (wl n pl nw j (wkP j q.1) (true, q)).2 (upd wt j (nI 1))
theorem mgo_n {n pl nw m : Nat} {ah wt : Nat → Int32} {q : P2} (h : mf wt ah nw = none) : mgo n pl nw ah (m + 1) q wt = (q, wt) := by simp only [mgo, h]
theorem mgo_s {n pl nw m j : Nat} {ah wt : Nat → Int32} {q : P2} (h : mf wt ah nw = some j) : mgo n pl nw ah (m + 1) q wt = mgo n pl nw ah m (wl n pl nw j (wkP j q.1) (true, q)).2 (upd wt j (nI 1)) := by simp only [mgo, h]
/-- steps in the dark, of the first k -/
def dk1 (τ : Sg) (w : Nat) (σ : Sg) : Sg := if τ 12 w = nI 1 ∧ τ 11 w = 0 then up2 σ 14 w (σ 14 w + nI 1) else σ
def dkS (τ : Sg) (k : Nat) : Sg := foldN (dk1 τ) k τ
theorem dkS_row {τ : Sg} {k r : Nat} (h : r ≠ 14) : dkS τ k r = τ r :=
  foldN_inv (P := fun (σ : Sg) => σ r = τ r) rfl (fun w σ _ q => by unfold dk1; split; rw [up2_row _ _ _ _ h]; exact q; exact q)
theorem dk_0 {τ : Sg} {k : Nat} (h : ¬ τ 12 k = nI 1) : dkS τ (k + 1) = dkS τ k := if_neg (fun q => h q.1)
theorem dk_1 {τ : Sg} {k : Nat} (h : ¬ τ 11 k = 0) : dkS τ (k + 1) = dkS τ k := if_neg (fun q => h q.2)
theorem dk_a {τ : Sg} {k : Nat} (h : τ 12 k = nI 1) (h2 : τ 11 k = 0) : dkS τ (k + 1) = up2 (dkS τ k) 14 k (dkS τ k 14 k + nI 1) := if_pos ⟨h, h2⟩
def wtF (τ : Sg) : Nat → Int32 := fun w => if τ 12 w = nI 1 then nI 0 else nI 1
/-- the notes of those who went and where they stood, of the first k -/
def wnE (τ η : Sg) (k : Nat) : Sg := va_up (va_up η 3 (cpk (wtF τ) (η 3) k)) 4 (cpk (τ 13) (η 4) k)
theorem va_up_id {α : Type} {f : Nat → α} {k : Nat} {v : α} (h : f k = v) : va_up f k v = f := by
  funext j
  unfold va_up
  split
  · rename_i q; rw [q, h]
  · rfl
theorem wnE_0 {τ η : Sg} : wnE τ η 0 = η := by
  unfold wnE
  rw [cpk_0, cpk_0, va_up_id (f := η) rfl, va_up_id rfl]
theorem wnE_s {τ η : Sg} {k : Nat} {x z : Int32} (h : x = wtF τ k) (hz : z = τ 13 k) : up2 (up2 (wnE τ η k) 3 k x) 4 k z = wnE τ η (k + 1) := by
  subst h
  subst hz
  unfold wnE
  funext r i
  simp only [up2_at]
  by_cases h4 : r = 4
  · subst h4
    simp only [va_up, if_true, true_and]
    have := congrFun (cpk_s (τ 13) (η 4) k) i
    unfold upd at this
    rw [← this]
    by_cases q : i = k
    · simp [q]
    · simp [q]
  · by_cases h3 : r = 3
    · subst h3
      simp only [va_up]
      have := congrFun (cpk_s (wtF τ) (η 3) k) i
      unfold upd at this
      simp
      rw [← this]
    · simp [va_up, h3, h4]
/-- the notes in the turns: through, went -/
def tuE (σ η κ : Sg) (wt : Nat → Int32) : Sg := va_up (thE σ η κ) 3 wt
theorem tuE_up {σ η κ : Sg} {wt : Nat → Int32} {j : Nat} {x : Int32} : up2 (tuE σ η κ wt) 3 j x = tuE σ η κ (upd wt j x) := by
  funext r i
  rw [up2_at]
  unfold tuE va_up upd
  by_cases h : r = 3
  · subst h
    by_cases q : i = j
    · simp [q]
    · simp [q]
  · simp [h]
theorem tuE_th {σ η κ κ' : Sg} {wt : Nat → Int32} : thE σ (tuE σ η κ wt) κ' = tuE σ η κ' wt := by
  funext r
  unfold thE tuE thE va_up
  by_cases h : r = 3
  · subst h; simp
  · by_cases h2 : r = 2
    · subst h2; simp
    · simp [h, h2]
theorem tuE_2 {σ η κ : Sg} {wt : Nat → Int32} : tuE σ η κ wt 2 = thr σ κ := by
  unfold tuE thE va_up
  simp
theorem thr_rows {σ τ κ : Sg} (h1 : τ 1 = σ 1) (h7 : τ 7 = σ 7) : thr τ κ = thr σ κ := by
  funext s
  unfold thr
  rw [lt_rows h1 h7]
theorem thE_rows {σ τ η κ : Sg} (h1 : τ 1 = σ 1) (h7 : τ 7 = σ 7) : thE τ η κ = thE σ η κ := by
  unfold thE
  rw [thr_rows h1 h7]
/-- corners that let all through that they may -/
def k0 (σ : Sg) : Sg := fun _ s => lt_ σ s 2
theorem thr_k0 (σ : Sg) : thr σ (k0 σ) = fun _ => nI 0 := by
  funext s
  unfold thr k0
  exact Int32.sub_self _
/-- each corner lets 1 to 10 through -/
def LT (n : Nat) (σ : Sg) : Prop := ∀ s, s < n → ∃ L, lt_ σ s 2 = nI L ∧ L ≤ 10
theorem TH_k0 {n : Nat} {σ : Sg} (h : LT n σ) : TH n σ (k0 σ) := fun s hs => by
  obtain ⟨L, h1, h2⟩ := h s hs
  exact ⟨L, L, h1, h1, Nat.le_refl _, h2⟩
theorem TH_rows {n : Nat} {σ τ κ : Sg} (h1 : τ 1 = σ 1) (h7 : τ 7 = σ 7) (h : TH n σ κ) : TH n τ κ := fun s hs => by
  obtain ⟨d, L, a, b, c⟩ := h s hs
  exact ⟨d, L, a, by rw [lt_rows h1 h7]; exact b, c⟩
theorem LT_rows {n : Nat} {σ τ : Sg} (h1 : τ 1 = σ 1) (h7 : τ 7 = σ 7) (h : LT n σ) : LT n τ := fun s hs => by
  obtain ⟨L, a, b⟩ := h s hs
  exact ⟨L, by rw [lt_rows h1 h7]; exact a, b⟩
theorem PB_rows {pl nw : Nat} {σ τ : Sg} (h1 : τ 12 = σ 12) (h2 : τ 13 = σ 13) (h : PB pl nw σ) : PB pl nw τ := by
  unfold PB at h ⊢
  rw [h1, h2]
  exact h
/-- what one walker's going keeps -/
def goK (r : Nat) : Prop := r ≠ 8 ∧ r ≠ 9 ∧ r ≠ 12 ∧ r ≠ 13 ∧ r ≠ 15
theorem g1_rowK {n pl nw w : Nat} {q : P2} {k : Nat} (h : goK k) : (g1 n pl nw w q).2.1 k = q.1 k := by
  obtain ⟨h8, h9, h12, h13, h15⟩ := h
  unfold g1
  split
  · rfl
  · split
    · exact g2_row h12 h13 h15
    · split
      · rw [g2_row h12 h13 h15, pcQ_row h8 h9]
      · exact pcQ_row h8 h9
theorem wl_rowK {n pl nw w : Nat} {k : Nat} (h : goK k) : ∀ (m : Nat) (r : Bool × P2), (wl n pl nw w m r).2.1 k = r.2.1 k
  | 0, r => rfl
  | m + 1, r => by
    simp only [wl]
    split
    · rw [wl_rowK h m, g1_rowK h]
    · rfl
/-- one place further keeps the other walkers, and the route's and places' order -/
theorem pcQ_TH {n s : Nat} {σ a b : Sg} (hTH : TH n σ b) (hs : s < n) : TH n σ (pcQ s (a, b)).2 := by
  by_cases h : 0 < b 3 s
  · rw [pcQ_t h]
    exact TH_up hTH hs h
  · rw [pcQ_f h]
    exact hTH
theorem g1_keep {n pl nw w : Nat} {σ a b : Sg} (hpl : pl ≤ 200) (hw : w < nw) (hPB : PB pl nw a) (hTH : TH n σ b) (hwk : a 12 w = nI 1) :
    PB pl nw (g1 n pl nw w (a, b)).2.1 ∧ TH n σ (g1 n pl nw w (a, b)).2.2 ∧ (∀ o, o ≠ w → (g1 n pl nw w (a, b)).2.1 12 o = a 12 o ∧ (g1 n pl nw w (a, b)).2.1 13 o = a 13 o) ∧ ((g1 n pl nw w (a, b)).1 = true → (g1 n pl nw w (a, b)).2.1 12 w = nI 1) := by
  obtain ⟨jz, hjz, hz⟩ := hPB w hw hwk
  have g2k : ∀ (τ κ : Sg), τ 12 = a 12 → τ 13 = a 13 → TH n σ κ → PB pl nw (g2 pl w (a 13 w + nI 1) (τ, κ)).2.1 ∧ TH n σ (g2 pl w (a 13 w + nI 1) (τ, κ)).2.2 ∧ (∀ o, o ≠ w → (g2 pl w (a 13 w + nI 1) (τ, κ)).2.1 12 o = a 12 o ∧ (g2 pl w (a 13 w + nI 1) (τ, κ)).2.1 13 o = a 13 o) ∧ ((g2 pl w (a 13 w + nI 1) (τ, κ)).1 = true → (g2 pl w (a 13 w + nI 1) (τ, κ)).2.1 12 w = nI 1) := by
    intro τ κ e12 e13 hT
    unfold g2
    split
    · rename_i hlt
      rw [gm_lt hz hpl hjz] at hlt
      refine ⟨PB_walk hPB (w := w) ?_ (fun o ho => ?_) ⟨jz + 1, by omega, ?_⟩, hT, fun o ho => ⟨?_, ?_⟩, fun _ => ?_⟩
      · show up2 τ 13 w (a 13 w + nI 1) 12 = a 12
        rw [up2_row _ _ _ _ (by omega), e12]
      · show up2 τ 13 w (a 13 w + nI 1) 13 o = a 13 o
        rw [up2_at, if_neg (fun z => ho z.2), e13]
      · show up2 τ 13 w (a 13 w + nI 1) 13 w = nI (jz + 1)
        rw [up2_at, if_pos ⟨rfl, rfl⟩, hz, nI_add]
      · show up2 τ 13 w (a 13 w + nI 1) 12 o = a 12 o
        rw [up2_row _ _ _ _ (by omega), e12]
      · show up2 τ 13 w (a 13 w + nI 1) 13 o = a 13 o
        rw [up2_at, if_neg (fun z => ho z.2), e13]
      · show up2 τ 13 w (a 13 w + nI 1) 12 w = nI 1
        rw [up2_row _ _ _ _ (by omega), e12, hwk]
    · have c12 : ∀ o, o ≠ w → ch1 w τ 12 o = a 12 o := fun o ho => by
        unfold ch1
        rw [up2_row _ _ _ _ (by omega), up2_row _ _ _ _ (by omega), up2_at, if_neg (fun z => ho z.2), e12]
      have c13 : ∀ o, o ≠ w → ch1 w τ 13 o = a 13 o := fun o ho => by
        unfold ch1
        rw [up2_row _ _ _ _ (by omega), up2_at, if_neg (fun z => ho z.2), up2_row _ _ _ _ (by omega), e13]
      refine ⟨PB_home (w := w) hPB ?_ c12 c13, hT, fun o ho => ⟨c12 o ho, c13 o ho⟩, fun h => Bool.noConfusion (show false = true from h)⟩
      show ch1 w τ 12 w = nI 2
      unfold ch1
      rw [up2_row _ _ _ _ (by omega), up2_row _ _ _ _ (by omega), up2_at, if_pos ⟨rfl, rfl⟩]
  unfold g1
  split
  · exact ⟨hPB, hTH, fun o _ => ⟨rfl, rfl⟩, fun h => Bool.noConfusion (show false = true from h)⟩
  · split
    · exact g2k a b rfl rfl hTH
    · rename_i s hs
      have hsn : s < n := (fnd_lt hs).1
      have hp12 : (pcQ s (a, b)).1 12 = a 12 := pcQ_row (by omega) (by omega)
      have hp13 : (pcQ s (a, b)).1 13 = a 13 := pcQ_row (by omega) (by omega)
      split
      · exact g2k _ _ hp12 hp13 (pcQ_TH hTH hsn)
      · refine ⟨PB_rows hp12 hp13 hPB, pcQ_TH hTH hsn, fun o _ => ⟨by rw [hp12], by rw [hp13]⟩, fun h => Bool.noConfusion (show false = true from h)⟩
theorem wl_keep {n pl nw w : Nat} {σ : Sg} (hpl : pl ≤ 200) (hw : w < nw) : ∀ (m : Nat) (b0 : Bool) (a b : Sg), PB pl nw a → TH n σ b → (b0 = true → a 12 w = nI 1) →
    PB pl nw (wl n pl nw w m (b0, (a, b))).2.1 ∧ TH n σ (wl n pl nw w m (b0, (a, b))).2.2 ∧ (∀ o, o ≠ w → (wl n pl nw w m (b0, (a, b))).2.1 12 o = a 12 o ∧ (wl n pl nw w m (b0, (a, b))).2.1 13 o = a 13 o)
  | 0, b0, a, b, h1, h2, _ => ⟨h1, h2, fun o _ => ⟨rfl, rfl⟩⟩
  | m + 1, b0, a, b, h1, h2, h3 => by
    simp only [wl]
    split
    · rename_i hb
      obtain ⟨k1, k2, k3, k4⟩ := g1_keep hpl hw h1 h2 (h3 hb)
      obtain ⟨m1, m2, m3⟩ := wl_keep hpl hw m (g1 n pl nw w (a, b)).1 (g1 n pl nw w (a, b)).2.1 (g1 n pl nw w (a, b)).2.2 k1 k2 k4
      exact ⟨m1, m2, fun o ho => ⟨(m3 o ho).1.trans (k3 o ho).1, (m3 o ho).2.trans (k3 o ho).2⟩⟩
    · exact ⟨h1, h2, fun o _ => ⟨rfl, rfl⟩⟩
theorem ms_bz {nw : Nat} {x : Int32} {σ η : Sg} (h : bz σ) : bz (leF nw (boF x nw (bdF x nw σ), η)).1 := leF_bz (q := (boF x nw (bdF x nw σ), η)) (boF_bz (bdF_bz h))
def ms1 (nw : Nat) (σ η : Sg) : Sg := (leF nw (boF (windOf σ) nw (bdF (windOf σ) nw σ), η)).1
def me1 (nw : Nat) (σ η : Sg) : Sg := lgE (boF (windOf σ) nw (bdF (windOf σ) nw σ)) nw η nw
def ms2 (nw ns : Nat) (σ η : Sg) : Sg := sgM (ms1 nw σ η) (lnR (ms1 nw σ η) nw ns nw 0 (me1 nw σ η 0)) 120
def me2 (nw ns : Nat) (σ η : Sg) : Sg := lnE (ms1 nw σ η) nw ns (me1 nw σ η) nw 0
def me3 (nw ns : Nat) (σ η : Sg) : Sg := wnE (ms2 nw ns σ η) (thE (ms2 nw ns σ η) (me2 nw ns σ η) (k0 (ms2 nw ns σ η))) nw
def mgF (n pl nw ns : Nat) (σ η : Sg) : P2 × (Nat → Int32) := mgo n pl nw (me3 nw ns σ η 4) nw (dkS (ms2 nw ns σ η) nw, k0 (ms2 nw ns σ η)) (me3 nw ns σ η 3)
def ms5 (n pl nw ns : Nat) (σ η : Sg) : Sg := up2 (stF nw (mgF n pl nw ns σ η).1.1) 17 0 (stF nw (mgF n pl nw ns σ η).1.1 17 0 + nI 1)
def me5 (n pl nw ns : Nat) (σ η : Sg) : Sg := tuE (ms2 nw ns σ η) (me3 nw ns σ η) (mgF n pl nw ns σ η).1.2 (mgF n pl nw ns σ η).2
theorem ms1_row {nw : Nat} {σ η : Sg} {r : Nat} (h1 : r ≠ 10) (h2 : r ≠ 11) : ms1 nw σ η r = σ r := by
  unfold ms1
  rw [leF_row h2]
  show boF (windOf σ) nw (bdF (windOf σ) nw σ) r = σ r
  rw [boF_row h2, bdF_row h1 h2]
theorem ms2_row {nw ns : Nat} {σ η : Sg} {r : Nat} (h : r ≠ 16) : ms2 nw ns σ η r = ms1 nw σ η r := sgM_at h
theorem ms2_rowS {nw ns : Nat} {σ η : Sg} {r : Nat} (h1 : r ≠ 10) (h2 : r ≠ 11) (h : r ≠ 16) : ms2 nw ns σ η r = σ r := by rw [ms2_row h, ms1_row h1 h2]
/-- what holds in the turns, over the rows S at their beginning -/
def gI (n pl nw : Nat) (S s9 k9 : Sg) (wt : Nat → Int32) : Prop := (∀ r, goK r → s9 r = dkS S nw r) ∧ PB pl nw s9 ∧ TH n S k9 ∧ ∀ o, o < nw → wt o = 0 → s9 12 o = nI 1
theorem gI_step {n pl nw j : Nat} {S s9 k9 : Sg} {wt ah : Nat → Int32} (hpl : pl ≤ 200) (h : gI n pl nw S s9 k9 wt) (hm : mf wt ah nw = some j) : gI n pl nw S (wl n pl nw j (wkP j s9) (true, (s9, k9))).2.1 (wl n pl nw j (wkP j s9) (true, (s9, k9))).2.2 (upd wt j (nI 1)) := by
  obtain ⟨h1, h2, h3, h4⟩ := h
  obtain ⟨hj, hw⟩ := mf_lt hm
  obtain ⟨k1, k2, k3⟩ := wl_keep (n := n) hpl hj (wkP j s9) true s9 k9 h2 h3 (fun _ => h4 j hj hw)
  refine ⟨fun r hr => (wl_rowK hr _ _).trans (h1 r hr), k1, k2, fun o ho q => ?_⟩
  unfold upd at q
  by_cases z : o = j
  · rw [if_pos z] at q
    exact absurd q (by decide)
  · rw [if_neg z] at q
    rw [(k3 o z).1]
    exact h4 o ho q
theorem gI_0 {n pl nw : Nat} {S η : Sg} (hPB : PB pl nw S) (hLT : LT n S) : gI n pl nw S (dkS S nw) (k0 S) (wnE S (thE S η (k0 S)) nw 3) := by
  refine ⟨fun _ _ => rfl, PB_rows (dkS_row (by omega)) (dkS_row (by omega)) hPB, TH_k0 hLT, fun o ho q => ?_⟩
  rw [dkS_row (by omega)]
  have : wnE S (thE S η (k0 S)) nw 3 o = wtF S o := by
    unfold wnE va_up cpk
    simp [ho]
  rw [this] at q
  unfold wtF at q
  split at q
  · assumption
  · exact absurd q (by decide)
theorem wnE_2 {S η κ : Sg} {nw : Nat} : wnE S (thE S η κ) nw 2 = thr S κ := by
  unfold wnE thE va_up
  simp
theorem tuE_id {S X κ : Sg} (h : X 2 = thr S κ) : tuE S X κ (X 3) = X := by
  unfold tuE
  rw [thE_id h]
  exact va_up_id rfl
theorem tuE_4 {S X κ : Sg} {wt : Nat → Int32} : tuE S X κ wt 4 = X 4 := by
  unfold tuE thE va_up
  simp
theorem tuE_3 {S X κ : Sg} {wt : Nat → Int32} : tuE S X κ wt 3 = wt := by
  unfold tuE va_up
  simp
