/-! WHAT HOLDS BETWEEN THE LAW'S STEPS -/
def LJ (n nw t : Nat) (σ : Sg) : Prop := K9 nw σ ∧ (∀ w, σ 12 w = nI 0 ∨ σ 12 w = nI 1 ∨ σ 12 w = nI 2) ∧ (∀ w, ¬ σ 12 w = nI 1 → σ 13 w = -1) ∧ (∀ w, ¬ σ 12 w = nI 2 → σ 15 w = -1) ∧ ∀ s, s < n → ∃ m, σ 9 s = nI m ∧ m ≤ 20 * t
def LV (n pl nw ns t : Nat) (σ : Sg) : Prop := INW n pl nw ns t σ ∧ AT pl nw σ ∧ LJ n nw t σ
theorem LV.inv {n pl nw ns t : Nat} {σ : Sg} (h : LV n pl nw ns t σ) : INV n pl nw ns t σ := h.1.1
theorem LV.st {n pl nw ns t : Nat} {σ : Sg} (h : LV n pl nw ns t σ) : ST σ := fun w => by
  rcases h.2.2.2.1 w with e | e | e <;> rw [e] <;> decide
theorem LV_0 : LV 0 0 0 0 0 σ0 := by
  refine ⟨INW_0, fun j hj => absurd hj (Nat.not_lt_zero _), fun w s hw => absurd hw (Nat.not_lt_zero _), fun w => Or.inl rfl, fun w _ => rfl, fun w _ => rfl, fun s hs => absurd hs (Nat.not_lt_zero _)⟩
theorem kAdd_0 {n pl nw ns x y : Nat} {σ : Sg} (h : LV n pl nw ns 0 σ) (hn : n < 10) (hx : 1 ≤ x) (hx2 : x ≤ 20) (hy : 1 ≤ y) (hy2 : y ≤ 4) : kAdd n σ (nI x) (nI y) = 0 := by
  unfold kAdd
  rw [if_pos ⟨isI_of (by decide) hx hx2, isI_of (by decide) hy hy2⟩, if_neg]
  rw [h.inv.2.1.2.2]
  intro z
  rcases z with z | z
  · omega
  · exact absurd z (by decide)
theorem LV_add {n pl nw ns x y : Nat} {σ : Sg} (h : LV n pl nw ns 0 σ) (hn : n < 10) (hx : 1 ≤ x) (hx2 : x ≤ 20) (hy : 1 ≤ y) (hy2 : y ≤ 4) : LV (n + 1) (pl + x) nw ns 0 (sAdd n pl σ (nI x) (nI y)) := by
  have hk := kAdd_0 h hn hx hx2 hy hy2
  have h1 := INW_add h.1 (nI x) (nI y)
  unfold nAdd plAdd sAddK at h1
  rw [if_pos hk, if_pos hk, if_pos hk, nN_nI (by omega)] at h1
  have r : ∀ r, r ≠ 0 → r ≠ 1 → r ≠ 2 → sAdd n pl σ (nI x) (nI y) r = σ r := fun r h0 h1 h2 => by unfold sAdd; rw [up2_r h2, up2_r h1, up2_r h0]
  have r9 := r 9 (by decide) (by decide) (by decide)
  refine ⟨h1, fun j hj => ?_, ?_, ?_, ?_, ?_, ?_⟩
  · rw [wa_rows (r 12 (by decide) (by decide) (by decide)) (r 13 (by decide) (by decide) (by decide))]
    exact AT_le h.2.1 h.inv.2.2.2.2.1 h.inv.1.2.1 (by have := h1.1.1.2.1; omega)
  · intro w s hw hs
    rw [r 16 (by decide) (by decide) (by decide)]
    exact h.2.2.1 w s hw hs
  · rw [r 12 (by decide) (by decide) (by decide)]; exact h.2.2.2.1
  · rw [r 12 (by decide) (by decide) (by decide), r 13 (by decide) (by decide) (by decide)]; exact h.2.2.2.2.1
  · rw [r 12 (by decide) (by decide) (by decide), r 15 (by decide) (by decide) (by decide)]; exact h.2.2.2.2.2.1
  · intro s hs
    rw [r9]
    by_cases q : s < n
    · exact h.2.2.2.2.2.2 s q
    · exact ⟨0, (h.inv.2.2.2.2.2.2.2.2.2 s (by omega)).2, Nat.zero_le _⟩
theorem LV_r {n pl nw ns ns' t : Nat} {σ τ : Sg} (h : LV n pl nw ns t σ) (h1 : INW n pl nw ns' t τ) (e12 : τ 12 = σ 12) (e13 : τ 13 = σ 13) (e15 : τ 15 = σ 15) (e16 : τ 16 = σ 16) (e9 : τ 9 = σ 9) : LV n pl nw ns' t τ := by
  refine ⟨h1, AT_rows h.2.1 e12 e13, ?_, ?_, ?_, ?_, ?_⟩
  · intro w s; rw [e16]; exact h.2.2.1 w s
  · rw [e12]; exact h.2.2.2.1
  · rw [e12, e13]; exact h.2.2.2.2.1
  · rw [e12, e15]; exact h.2.2.2.2.2.1
  · rw [e9]; exact h.2.2.2.2.2.2
theorem kWind_0 {i x : Nat} (hi : i ≤ 9) (hx : x ≤ 9) : kWind (nI i) (nI x) = 0 := by
  unfold kWind
  rw [if_pos (isI_of (by decide) (Nat.zero_le _) hi), if_pos (isI_of (by decide) (Nat.zero_le _) hx)]
theorem LV_wind {n pl nw ns t i x : Nat} {σ : Sg} (h : LV n pl nw ns t σ) (hi : i ≤ 9) (hx : x ≤ 9) : LV n pl nw ns t (up2 σ 3 i (nI x)) := by
  have h1 := INW_wind h.1 (nI i) (nI x)
  unfold sWind at h1
  rw [if_pos (kWind_0 hi hx), nN_nI (by omega)] at h1
  exact LV_r h h1 (up2_r (by decide)) (up2_r (by decide)) (up2_r (by decide)) (up2_r (by decide)) (up2_r (by decide))
theorem kCome_0 {nw x y z : Nat} (hn : nw < 20) (hx : 1 ≤ x) (hx2 : x ≤ 3) (hy : y ≤ 200) (hz : z ≤ 9) : kCome nw (nI x) (nI y) (nI z) = 0 := by
  unfold kCome
  rw [if_pos ⟨isI_of (by decide) hx hx2, isI_of (by decide) (Nat.zero_le _) hy, isI_of (by decide) (Nat.zero_le _) hz⟩, if_neg (by omega)]
theorem LV_CZ {n pl nw ns t : Nat} {σ : Sg} (h : LV n pl nw ns t σ) : CZ nw σ := by
  obtain ⟨a, b, c, d⟩ := h.inv.2.2.2.2.2.2.2.2.1 nw (Nat.le_refl _)
  exact ⟨a, b, c, d, fun j hj => h.inv.2.2.2.2.2.2.2.1 _ (fun z => by omega)⟩
theorem LV_come {n pl nw ns t x y z : Nat} {σ : Sg} (h : LV n pl nw ns t σ) (hn : nw < 20) (hx : 1 ≤ x) (hx2 : x ≤ 3) (hy : y ≤ 200) (hz : z ≤ 9) : LV n pl (nw + 1) ns t (sCome nw σ (nI x) (nI y) (nI z)) := by
  have hk := kCome_0 hn hx hx2 hy hz
  have h1 := INW_come h.1 (nI x) (nI y) (nI z)
  unfold nCome sComeK at h1
  rw [if_pos hk, if_pos hk] at h1
  have r : ∀ r, r ≠ 4 → r ≠ 5 → r ≠ 10 → r ≠ 11 → sCome nw σ (nI x) (nI y) (nI z) r = σ r := fun r h4 h5 h10 h11 => by unfold sCome; rw [up2_r h11, up2_r h10, up2_r h5, up2_r h4]
  have r12 := r 12 (by decide) (by decide) (by decide) (by decide)
  have r13 := r 13 (by decide) (by decide) (by decide) (by decide)
  have hcz := LV_CZ h
  refine ⟨h1, fun j hj => ?_, ?_, ?_, ?_, ?_, ?_⟩
  · rw [wa_rows r12 r13]
    have : wa σ (nw + 1) (nI j) = wa σ nw (nI j) := by
      unfold wa
      simp only [cnt]
      have hf : ¬ waS σ (nI j) nw = true := by
        intro q
        have := (waS_t.mp q).1
        rw [hcz.1] at this
        exact absurd this (by decide)
      rw [if_neg hf]
      rfl
    rw [this]
    exact h.2.1 j hj
  · intro w s hw hs
    rw [r 16 (by decide) (by decide) (by decide) (by decide)]
    by_cases q : w < nw
    · exact h.2.2.1 w s q hs
    · rw [show w = nw by omega]
      exact ⟨0, Nat.zero_le _, hcz.2.2.2.2 s hs⟩
  · rw [r12]; exact h.2.2.2.1
  · rw [r12, r13]; exact h.2.2.2.2.1
  · rw [r12, r 15 (by decide) (by decide) (by decide) (by decide)]; exact h.2.2.2.2.2.1
  · rw [r 9 (by decide) (by decide) (by decide) (by decide)]; exact h.2.2.2.2.2.2
theorem kSong_0 {ns x : Nat} (hn : ns < 6) (hx : 1 ≤ x) (hx2 : x ≤ 9) : kSong ns (nI x) = 0 := by
  unfold kSong
  rw [if_pos (isI_of (by decide) hx hx2), if_neg (by omega)]
theorem LV_song {n pl nw ns t x : Nat} {σ : Sg} (h : LV n pl nw ns t σ) (hn : ns < 6) (hx : 1 ≤ x) (hx2 : x ≤ 9) : LV n pl nw (ns + 1) t (up2 σ 6 ns (nI x)) := by
  have hk := kSong_0 hn hx hx2
  have h1 := INW_song h.1 (nI x)
  unfold nSong sSong at h1
  rw [if_pos hk, if_pos hk] at h1
  exact LV_r h h1 (up2_r (by decide)) (up2_r (by decide)) (up2_r (by decide)) (up2_r (by decide)) (up2_r (by decide))
theorem kTeach_0 {nw ns w s x : Nat} (hw : w < nw) (hn : nw ≤ 20) (hs : s < ns) (hns : ns ≤ 6) (hx : x ≤ 99) : kTeach nw ns (nI w) (nI s) (nI x) = 0 := by
  unfold kTeach
  rw [if_pos ⟨has_of (by omega) hw, has_of (by omega) hs⟩, if_pos (isI_of (by decide) (Nat.zero_le _) hx)]
theorem LV_teach {n pl nw ns t w s x : Nat} {σ : Sg} (h : LV n pl nw ns t σ) (hw : w < nw) (hs : s < ns) (hx : x ≤ 99) : LV n pl nw ns t (up2 σ 16 (6 * w + s) (nI x)) := by
  have hk := kTeach_0 hw h.inv.1.2.2.1 hs h.inv.1.2.2.2 hx
  have h1 := INW_teach h.1 (nI w) (nI s) (nI x)
  unfold sTeach at h1
  rw [if_pos hk, nN_nI (by have := h.inv.1.2.2.1; omega), nN_nI (by have := h.inv.1.2.2.2; omega)] at h1
  have r : ∀ r, r ≠ 16 → up2 σ 16 (6 * w + s) (nI x) r = σ r := fun r h => up2_r h
  refine ⟨h1, AT_rows h.2.1 (r 12 (by decide)) (r 13 (by decide)), ?_, ?_, ?_, ?_, ?_⟩
  · intro v q hv hq
    by_cases e : 6 * v + q = 6 * w + s
    · rw [e, up2_in']; exact ⟨x, hx, rfl⟩
    · rw [up2_o e]; exact h.2.2.1 v q hv hq
  · rw [r 12 (by decide)]; exact h.2.2.2.1
  · rw [r 12 (by decide), r 13 (by decide)]; exact h.2.2.2.2.1
  · rw [r 12 (by decide), r 15 (by decide)]; exact h.2.2.2.2.2.1
  · rw [r 9 (by decide)]; exact h.2.2.2.2.2.2
theorem kPost_0 {n x y : Nat} (hn : n ≤ 10) (hx : x ≤ 1) (hy : y < n + 1) : kPost n (nI x) (nI y - nI 1) = 0 := by
  unfold kPost
  rw [if_pos]
  refine ⟨isI_of (by decide) (Nat.zero_le _) hx, ?_⟩
  unfold noneOr
  by_cases q : y = 0
  · subst q
    rw [show nI 0 - nI 1 = (-1 : Int32) from by decide]
    simp
  · rw [pk_sub (by omega), has_of (by omega) (show y - 1 < n by omega)]
    simp
theorem LV_post {n pl nw ns t x y : Nat} {σ : Sg} (h : LV n pl nw ns t σ) (hx : x ≤ 1) (hy : y < n + 1) : LV n pl nw ns t (up2 σ 7 x (nI y - nI 1)) := by
  have h1 := INW_post h.1 (nI x) (nI y - nI 1)
  unfold sPost at h1
  rw [if_pos (kPost_0 h.inv.1.1 hx hy), nN_nI (by omega)] at h1
  exact LV_r h h1 (up2_r (by decide)) (up2_r (by decide)) (up2_r (by decide)) (up2_r (by decide)) (up2_r (by decide))
theorem kTrim_0 {nw w x : Nat} {σ : Sg} (hw : w < nw) (hn : nw ≤ 20) (hx : 1 ≤ x) (hx2 : x ≤ 200) (h2 : ¬ σ 12 w = nI 2) : kTrim nw σ (nI w) (nI x) = 0 := by
  unfold kTrim
  rw [if_pos (has_of (by omega) hw), if_pos (isI_of (by decide) hx hx2), nN_nI (by omega), if_neg h2]
theorem LV_trim {n pl nw ns t w x : Nat} {σ : Sg} (h : LV n pl nw ns t σ) (hw : w < nw) (hx : 1 ≤ x) (hx2 : x ≤ 200) (h2 : ¬ σ 12 w = nI 2) : LV n pl nw ns t (up2 (up2 σ 10 w (if σ 10 w + nI x < nI 200 then σ 10 w + nI x else nI 200)) 11 w (nI 1)) := by
  have h1 := INW_trim h.1 (nI w) (nI x)
  unfold sTrim wTrim at h1
  rw [if_pos (kTrim_0 hw h.inv.1.2.2.1 hx hx2 h2), nN_nI (by have := h.inv.1.2.2.1; omega)] at h1
  have r : ∀ {r : Nat} {v1 v2 : Int32}, r ≠ 10 → r ≠ 11 → up2 (up2 σ 10 w v1) 11 w v2 r = σ r := fun h10 h11 => by rw [up2_r h11, up2_r h10]
  exact LV_r h h1 (r (by decide) (by decide)) (r (by decide) (by decide)) (r (by decide) (by decide)) (r (by decide) (by decide)) (r (by decide) (by decide))
