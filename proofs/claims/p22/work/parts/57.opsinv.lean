/-! WHAT HOLDS BETWEEN CALLS is kept by each of them -/
def WU (σ : Sg) : Prop := ∀ i, σ 10 i ≤ nI 200
theorem WU_row {σ τ : Sg} (h : WU σ) (e : τ 10 = σ 10) : WU τ := fun i => by rw [e]; exact h i
theorem mx0_le {x y : Int32} (h : x ≤ nI 200) (h0 : 0 ≤ x) (hy : 0 ≤ y) (hy2 : y ≤ nI 2) : mx0 (x - y) ≤ nI 200 := by
  have z0 : (nI 0).toInt = 0 := by decide
  have z2 : (nI 2).toInt = 2 := by decide
  have z200 : (nI 200).toInt = 200 := by decide
  rw [Int32.le_iff_toInt_le] at h h0 hy hy2
  rw [tI_0] at h0 hy
  rw [z200] at h
  rw [z2] at hy2
  have e : (x - y).toInt = x.toInt - y.toInt := by
    rw [Int32.toInt_sub]
    exact Int.bmod_eq_of_le (by omega) (by omega)
  unfold mx0
  split
  · rw [Int32.le_iff_toInt_le, e, z200]; omega
  · decide
theorem lossOf_in (x : Int32) : 0 ≤ lossOf x ∧ lossOf x ≤ nI 2 := by
  unfold lossOf
  split <;> decide
theorem WU_bdF {x : Int32} {nw : Nat} {σ : Sg} (h : WU σ) (hw : wz σ) : WU (bdF x nw σ) := by
  have key : WU (bdF x nw σ) ∧ wz (bdF x nw σ) :=
    foldN_inv (P := fun (τ : Sg) => WU τ ∧ wz τ) ⟨h, hw⟩ (fun w τ _ hq => by
      obtain ⟨h1, h2⟩ := hq
      unfold bd1
      split
      · refine ⟨fun i => ?_, fun i => ?_⟩
        · rw [up2_off (fun z => absurd z (by decide)), up2_at]
          split
          · exact mx0_le (h1 w) (h2 w) (lossOf_in x).1 (lossOf_in x).2
          · exact h1 i
        · rw [up2_off (fun z => absurd z (by decide)), up2_at]
          split
          · unfold mx0
            split
            · rename_i q; exact Int32.le_of_lt q
            · exact Int32.le_refl _
          · exact h2 i
      · exact ⟨h1, h2⟩)
  exact key.1
theorem WU_step {n pl nw ns : Nat} {q : P2} (h : WU q.1) (hw : wz q.1) : WU (tsF n pl nw ns q).1 := WU_row (WU_bdF h hw) tsF_10
/-- what holds between calls, with the wicks' bound -/
def INW (n pl nw ns t : Nat) (σ : Sg) : Prop := INV n pl nw ns t σ ∧ WU σ
theorem INW_steps {n pl nw ns t : Nat} {q : P2} (hn : 0 < n) (h : INW n pl nw ns t q.1) : ∀ k, INW n pl nw ns (t + k) (tsN n pl nw ns k q).1
  | 0 => h
  | k + 1 => ⟨INV_steps hn h.1 (k + 1), WU_step (INW_steps hn h k).2 (INW_steps hn h k).1.2.2.1⟩
theorem INW_r {n pl nw ns t : Nat} {σ τ : Sg} (h : INW n pl nw ns t σ) (e : ∀ r, r ≠ 3 → r ≠ 6 → r ≠ 7 → τ r = σ r) : INW n pl nw ns t τ := ⟨INV_r h.1 e, WU_row h.2 (e 10 (by decide) (by decide) (by decide))⟩
theorem INW_post {n pl nw ns t : Nat} {σ : Sg} (h : INW n pl nw ns t σ) (x y : Int32) : INW n pl nw ns t (sPost n σ x y) := by
  unfold sPost
  split
  · exact INW_r h (fun r _ _ h7 => up2_row _ _ _ _ h7)
  · exact h
theorem INW_wind {n pl nw ns t : Nat} {σ : Sg} (h : INW n pl nw ns t σ) (x y : Int32) : INW n pl nw ns t (sWind σ x y) := by
  unfold sWind
  split
  · exact INW_r h (fun r h3 _ _ => up2_row _ _ _ _ h3)
  · exact h
theorem KZ_mono {nw ns nw' ns' : Nat} {σ : Sg} (h : KZ nw ns σ) (h1 : nw ≤ nw') (h2 : ns ≤ ns') : KZ nw' ns' σ := fun i hi => h i (fun z => hi ⟨by omega, by omega⟩)
theorem LZ_mono {nw ns nw' ns' : Nat} {η : Sg} (h : LZ nw ns η) (h1 : nw ≤ nw') (h2 : ns ≤ ns') : LZ nw' ns' η := fun i hi => h i (fun z => hi ⟨by omega, by omega⟩)
theorem INW_song {n pl nw ns t : Nat} {σ : Sg} (h : INW n pl nw ns t σ) (x : Int32) : INW n pl nw (nSong ns x) t (sSong ns σ x) := by
  unfold nSong sSong
  by_cases c : kSong ns x = 0
  · rw [if_pos c, if_pos c]
    have hs : ns ≠ 6 := fun z => by
      unfold kSong at c
      subst z
      split at c
      · exact absurd c (by decide)
      · exact absurd c (by decide)
    obtain ⟨hI, hU⟩ := INW_r (τ := up2 σ 6 ns x) h (fun r _ h6 _ => up2_row _ _ _ _ h6)
    obtain ⟨hB, hok, hwz, hRF, hPB, hL1, hSV, hKZ, hOZ⟩ := hI
    exact ⟨⟨⟨hB.1, hB.2.1, hB.2.2.1, by omega⟩, hok, hwz, hRF, hPB, hL1, hSV, KZ_mono hKZ (Nat.le_refl _) (Nat.le_succ _), hOZ⟩, hU⟩
  · rw [if_neg c, if_neg c]
    exact h
theorem wTrim_in {σ : Sg} {x y : Int32} (h0 : 0 ≤ σ 10 (nN x)) (h1 : σ 10 (nN x) ≤ nI 200) (hy : isI y (nI 1) (nI 200) = true) : 0 ≤ wTrim σ x y ∧ wTrim σ x y ≤ nI 200 := by
  obtain ⟨j, hj1, hj2, rfl⟩ := isI_nat (by decide) (by decide) hy
  have z200 : (nI 200).toInt = 200 := by decide
  have zj := nI_toInt (n := j) (by omega)
  rw [Int32.le_iff_toInt_le, tI_0] at h0
  rw [Int32.le_iff_toInt_le, z200] at h1
  have e : (σ 10 (nN x) + nI j).toInt = (σ 10 (nN x)).toInt + j := by
    rw [Int32.toInt_add, zj]
    exact Int.bmod_eq_of_le (by omega) (by omega)
  unfold wTrim
  split
  · rename_i q
    rw [Int32.lt_iff_toInt_lt, e, z200] at q
    rw [Int32.le_iff_toInt_le, Int32.le_iff_toInt_le, e, tI_0, z200]
    omega
  · decide
theorem INW_trim {n pl nw ns t : Nat} {σ : Sg} (h : INW n pl nw ns t σ) (x y : Int32) : INW n pl nw ns t (sTrim nw σ x y) := by
  unfold sTrim
  split
  · rename_i c
    have hy : isI y (nI 1) (nI 200) = true := by
      unfold kTrim at c
      split at c
      · split at c
        · assumption
        · exact absurd c (by decide)
      · exact absurd c (by decide)
    obtain ⟨hI, hU⟩ := h
    obtain ⟨hB, hok, hwz, hRF, hPB, hL1, hSV, hKZ, hOZ⟩ := hI
    obtain ⟨w1, w2⟩ := wTrim_in (hwz (nN x)) (hU (nN x)) hy
    have r : ∀ k, k ≠ 10 → k ≠ 11 → up2 (up2 σ 10 (nN x) (wTrim σ x y)) 11 (nN x) (nI 1) k = σ k := fun k a b => by rw [up2_row _ _ _ _ b, up2_row _ _ _ _ a]
    refine ⟨⟨hB, ⟨bz_up (bz_row hok.1 (up2_row _ _ _ _ (by decide))) (Or.inr rfl), ?_, ?_⟩, fun i => ?_, RF_rows hRF (r 0 (by decide) (by decide)) (r 2 (by decide) (by decide)), PB_rows (r 12 (by decide) (by decide)) (r 13 (by decide) (by decide)) hPB, ?_, ?_, ?_, ?_⟩, fun i => ?_⟩
    · rw [r 4 (by decide) (by decide)]; exact hok.2.1
    · rw [r 17 (by decide) (by decide)]; exact hok.2.2
    · rw [up2_off (fun z => absurd z (by decide)), up2_at]
      split
      · exact w1
      · exact hwz i
    · unfold L1; rw [r 1 (by decide) (by decide)]; exact hL1
    · unfold SV; rw [r 16 (by decide) (by decide), r 5 (by decide) (by decide)]; exact hSV
    · unfold KZ; rw [r 16 (by decide) (by decide)]; exact hKZ
    · unfold OZ; rw [r 8 (by decide) (by decide), r 9 (by decide) (by decide), r 12 (by decide) (by decide), r 13 (by decide) (by decide), r 14 (by decide) (by decide), r 15 (by decide) (by decide)]; exact hOZ
    · rw [up2_off (fun z => absurd z (by decide)), up2_at]
      split
      · exact w2
      · exact hU i
  · exact h
theorem INW_teach {n pl nw ns t : Nat} {σ : Sg} (h : INW n pl nw ns t σ) (x y z : Int32) : INW n pl nw ns t (sTeach nw ns σ x y z) := by
  unfold sTeach
  split
  · rename_i c
    have hq : (has nw x = true ∧ has ns y = true) ∧ isI z (nI 0) (nI 99) = true := by
      unfold kTeach at c
      split at c
      · rename_i c1
        split at c
        · rename_i c2; exact ⟨c1, c2⟩
        · exact absurd c (by decide)
      · exact absurd c (by decide)
    obtain ⟨⟨hx, hy⟩, hz⟩ := hq
    obtain ⟨hI, hU⟩ := h
    obtain ⟨hB, hok, hwz, hRF, hPB, hL1, hSV, hKZ, hOZ⟩ := hI
    obtain ⟨jx, hjx, rfl⟩ := has_nat (by omega) hx
    obtain ⟨jy, hjy, rfl⟩ := has_nat (by omega) hy
    obtain ⟨jz, hjz0, hjz, rfl⟩ := isI_nat (by decide) (by decide) hz
    rw [nN_nI (by omega), nN_nI (by omega)]
    have r : ∀ k, k ≠ 16 → up2 σ 16 (6 * jx + jy) (nI jz) k = σ k := fun k a => up2_row _ _ _ _ a
    refine ⟨⟨hB, ⟨bz_row hok.1 (r 11 (by decide)), ?_, ?_⟩, wz_row hwz (r 10 (by decide)), RF_rows hRF (r 0 (by decide)) (r 2 (by decide)), PB_rows (r 12 (by decide)) (r 13 (by decide)) hPB, ?_, ⟨fun i => ?_, ?_⟩, fun i hi => ?_, ?_⟩, WU_row hU (r 10 (by decide))⟩
    · rw [r 4 (by decide)]; exact hok.2.1
    · rw [r 17 (by decide)]; exact hok.2.2
    · unfold L1; rw [r 1 (by decide)]; exact hL1
    · rw [up2_at]
      split
      · exact nI_pos' (by omega)
      · exact hSV.1 i
    · rw [r 5 (by decide)]; exact hSV.2
    · rw [up2_off (fun _ e => hi (by subst e; omega))]
      exact hKZ i hi
    · unfold OZ; rw [r 8 (by decide), r 9 (by decide), r 12 (by decide), r 13 (by decide), r 14 (by decide), r 15 (by decide)]; exact hOZ
  · exact h
theorem RF_le {n pl : Nat} {σ : Sg} (h : RF n pl σ) : pl ≤ 20 * n := by
  obtain ⟨h1, h2, h3, h4, h5⟩ := h
  have key : ∀ s, s < n → nN (σ 2 s) ≤ 20 * s := by
    intro s
    induction s with
    | zero => intro hs; rw [h2 hs]; exact Nat.zero_le _
    | succ s ih =>
      intro hs
      rw [h3 s hs]
      have := ih (by omega)
      have := (h1 s (by omega)).2.2.2.1
      omega
  rcases Nat.eq_zero_or_pos n with z | z
  · rw [h5 z]; exact Nat.zero_le _
  · have := key (n - 1) (by omega)
    have := (h1 (n - 1) (by omega)).2.2.2.1
    have := h4 z
    omega
theorem up2_in {σ : Sg} {r i : Nat} {v : Int32} : up2 σ r i v r i = v := by rw [up2_at, if_pos ⟨rfl, rfl⟩]
theorem INW_add {n pl nw ns t : Nat} {σ : Sg} (h : INW n pl nw ns t σ) (x y : Int32) : INW (nAdd n σ x y) (plAdd n pl σ x y) nw ns t (sAddK n pl σ x y) := by
  unfold nAdd plAdd sAddK
  by_cases c : kAdd n σ x y = 0
  · rw [if_pos c, if_pos c, if_pos c]
    have hq : (isI x (nI 1) (nI 20) = true ∧ isI y (nI 1) (nI 4) = true) ∧ n ≠ 10 := by
      unfold kAdd at c
      split at c
      · rename_i c1
        split at c
        · exact absurd c (by decide)
        · rename_i c2; exact ⟨c1, fun z => c2 (Or.inl z)⟩
      · exact absurd c (by decide)
    obtain ⟨⟨hx, hy⟩, hn⟩ := hq
    obtain ⟨hI, hU⟩ := h
    obtain ⟨hB, hok, hwz, hRF, hPB, hL1, hSV, hKZ, hOZ⟩ := hI
    obtain ⟨L, hL0, hL, rfl⟩ := isI_nat (by decide) (by decide) hx
    obtain ⟨T, hT0, hT, rfl⟩ := isI_nat (by decide) (by decide) hy
    rw [nN_nI (by omega)]
    have hle := RF_le hRF
    have r : ∀ k, k ≠ 0 → k ≠ 1 → k ≠ 2 → sAdd n pl σ (nI L) (nI T) k = σ k := fun k a b c => by unfold sAdd; rw [up2_row _ _ _ _ c, up2_row _ _ _ _ b, up2_row _ _ _ _ a]
    have e0 : ∀ s, s ≠ n → sAdd n pl σ (nI L) (nI T) 0 s = σ 0 s := fun s hs => by unfold sAdd; rw [up2_row _ _ _ _ (by decide), up2_row _ _ _ _ (by decide), up2_off (fun _ => hs)]
    have e1 : ∀ s, s ≠ n → sAdd n pl σ (nI L) (nI T) 1 s = σ 1 s := fun s hs => by unfold sAdd; rw [up2_row _ _ _ _ (by decide), up2_off (fun _ => hs), up2_row _ _ _ _ (by decide)]
    have e2 : ∀ s, s ≠ n → sAdd n pl σ (nI L) (nI T) 2 s = σ 2 s := fun s hs => by unfold sAdd; rw [up2_off (fun _ => hs), up2_row _ _ _ _ (by decide), up2_row _ _ _ _ (by decide)]
    have n0 : sAdd n pl σ (nI L) (nI T) 0 n = nI L := by unfold sAdd; rw [up2_row _ _ _ _ (by decide), up2_row _ _ _ _ (by decide), up2_in]
    have n1 : sAdd n pl σ (nI L) (nI T) 1 n = nI T := by unfold sAdd; rw [up2_row _ _ _ _ (by decide), up2_in]
    have n2 : sAdd n pl σ (nI L) (nI T) 2 n = nI pl := by unfold sAdd; rw [up2_in]
    refine ⟨⟨⟨by omega, by omega, hB.2.2.1, hB.2.2.2⟩, ⟨bz_row hok.1 (r 11 (by decide) (by decide) (by decide)), ?_, ?_⟩, wz_row hwz (r 10 (by decide) (by decide) (by decide)), ?_, ?_, ?_, ?_, ?_, ?_⟩, WU_row hU (r 10 (by decide) (by decide) (by decide))⟩
    · rw [r 4 (by decide) (by decide) (by decide)]; exact hok.2.1
    · rw [r 17 (by decide) (by decide) (by decide)]; exact hok.2.2
    · obtain ⟨h1, h2, h3, h4, h5⟩ := hRF
      refine ⟨fun s hs => ?_, fun _ => ?_, fun s hs => ?_, fun _ => ?_, fun z => absurd z (Nat.succ_ne_zero n)⟩
      · by_cases q : s = n
        · subst q
          rw [n0, n2, nN_nI (by omega), nN_nI (by omega)]
          exact ⟨rfl, rfl, hL0, hL, by omega⟩
        · rw [e0 s q, e2 s q]
          obtain ⟨a1, a2, a3, a4, a5⟩ := h1 s (by omega)
          exact ⟨a1, a2, a3, a4, by omega⟩
      · by_cases q : n = 0
        · subst q
          rw [n2, nN_nI (by omega), h5 rfl]
        · rw [e2 0 (by omega)]
          exact h2 (by omega)
      · by_cases q : s + 1 = n
        · have hn0 : 0 < n := by omega
          rw [q, n2, nN_nI (by omega), e2 s (by omega), e0 s (by omega)]
          have := h4 hn0
          rw [show n - 1 = s by omega] at this
          exact this
        · rw [e2 (s + 1) q, e2 s (by omega), e0 s (by omega)]
          exact h3 s (by omega)
      · rw [show n + 1 - 1 = n by omega, n0, n2, nN_nI (by omega), nN_nI (by omega)]
    · intro w hw q
      rw [r 12 (by decide) (by decide) (by decide)] at q
      obtain ⟨j, hj, e⟩ := hPB w hw q
      exact ⟨j, by omega, by rw [r 13 (by decide) (by decide) (by decide)]; exact e⟩
    · intro s hs
      by_cases q : s = n
      · subst q; exact ⟨T, n1, hT⟩
      · rw [e1 s q]; exact hL1 s (by omega)
    · unfold SV; rw [r 16 (by decide) (by decide) (by decide), r 5 (by decide) (by decide) (by decide)]; exact hSV
    · unfold KZ; rw [r 16 (by decide) (by decide) (by decide)]; exact hKZ
    · refine ⟨fun w hw => ?_, fun s hs => ?_⟩
      · rw [r 12 (by decide) (by decide) (by decide), r 13 (by decide) (by decide) (by decide), r 14 (by decide) (by decide) (by decide), r 15 (by decide) (by decide) (by decide)]; exact hOZ.1 w hw
      · rw [r 8 (by decide) (by decide) (by decide), r 9 (by decide) (by decide) (by decide)]; exact hOZ.2 s (by omega)
  · rw [if_neg c, if_neg c, if_neg c]
    exact h
theorem INW_come {n pl nw ns t : Nat} {σ : Sg} (h : INW n pl nw ns t σ) (x y z : Int32) : INW n pl (nCome nw x y z) ns t (sComeK nw σ x y z) := by
  unfold nCome sComeK
  by_cases c : kCome nw x y z = 0
  · rw [if_pos c, if_pos c]
    have hq : (isI x (nI 1) (nI 3) = true ∧ isI y (nI 0) (nI 200) = true ∧ isI z (nI 0) (nI 9) = true) ∧ nw ≠ 20 := by
      unfold kCome at c
      split at c
      · rename_i c1
        split at c
        · exact absurd c (by decide)
        · rename_i c2; exact ⟨c1, c2⟩
      · exact absurd c (by decide)
    obtain ⟨⟨hx, hy, hz⟩, hn⟩ := hq
    obtain ⟨hI, hU⟩ := h
    obtain ⟨hB, hok, hwz, hRF, hPB, hL1, hSV, hKZ, hOZ⟩ := hI
    obtain ⟨P, hP0, hP, rfl⟩ := isI_nat (by decide) (by decide) hx
    obtain ⟨Y, hY0, hY, rfl⟩ := isI_nat (by decide) (by decide) hy
    obtain ⟨V, hV0, hV, rfl⟩ := isI_nat (by decide) (by decide) hz
    have r : ∀ k, k ≠ 4 → k ≠ 5 → k ≠ 10 → k ≠ 11 → sCome nw σ (nI P) (nI Y) (nI V) k = σ k := fun k a b c d => by unfold sCome; rw [up2_row _ _ _ _ d, up2_row _ _ _ _ c, up2_row _ _ _ _ b, up2_row _ _ _ _ a]
    have e4 : ∀ w, sCome nw σ (nI P) (nI Y) (nI V) 4 w = if w = nw then nI P else σ 4 w := fun w => by
      unfold sCome
      rw [up2_row _ _ _ _ (by decide), up2_row _ _ _ _ (by decide), up2_row _ _ _ _ (by decide), up2_at]
      by_cases q : w = nw
      · rw [if_pos ⟨rfl, q⟩, if_pos q]
      · rw [if_neg (fun z => q z.2), if_neg q]
    have e5 : ∀ w, sCome nw σ (nI P) (nI Y) (nI V) 5 w = if w = nw then nI V else σ 5 w := fun w => by
      unfold sCome
      rw [up2_row _ _ _ _ (by decide), up2_row _ _ _ _ (by decide), up2_at]
      by_cases q : w = nw
      · rw [if_pos ⟨rfl, q⟩, if_pos q]
      · rw [if_neg (fun z => q z.2), if_neg q, up2_row _ _ _ _ (by decide)]
    have e10 : ∀ w, sCome nw σ (nI P) (nI Y) (nI V) 10 w = if w = nw then nI Y else σ 10 w := fun w => by
      unfold sCome
      rw [up2_row _ _ _ _ (by decide), up2_at]
      by_cases q : w = nw
      · rw [if_pos ⟨rfl, q⟩, if_pos q]
      · rw [if_neg (fun z => q z.2), if_neg q, up2_row _ _ _ _ (by decide), up2_row _ _ _ _ (by decide)]
    refine ⟨⟨⟨hB.1, hB.2.1, by omega, hB.2.2.2⟩, ⟨?_, fun w hw => ?_, ?_⟩, fun i => ?_, RF_rows hRF (r 0 (by decide) (by decide) (by decide) (by decide)) (r 2 (by decide) (by decide) (by decide) (by decide)), ?_, ?_, ⟨?_, fun w hw => ?_⟩, ?_, ?_⟩, fun i => ?_⟩
    · unfold sCome
      refine bz_up (bz_row hok.1 ?_) (by split; exact Or.inr rfl; exact Or.inl rfl)
      rw [up2_row _ _ _ _ (by decide), up2_row _ _ _ _ (by decide), up2_row _ _ _ _ (by decide)]
    · rw [e4]
      split
      · rw [nN_nI (by omega)]; exact ⟨rfl, hP0, hP⟩
      · exact hok.2.1 w (by omega)
    · rw [r 17 (by decide) (by decide) (by decide) (by decide)]; exact hok.2.2
    · rw [e10]
      split
      · exact nI_pos' (by omega)
      · exact hwz i
    · intro w hw q
      rw [r 12 (by decide) (by decide) (by decide) (by decide)] at q
      by_cases qn : w = nw
      · subst qn
        rw [(hOZ.1 w (Nat.le_refl w)).1] at q
        exact absurd q (by decide)
      · obtain ⟨j, hj, e⟩ := hPB w (by omega) q
        exact ⟨j, hj, by rw [r 13 (by decide) (by decide) (by decide) (by decide)]; exact e⟩
    · unfold L1; rw [r 1 (by decide) (by decide) (by decide) (by decide)]; exact hL1
    · rw [r 16 (by decide) (by decide) (by decide) (by decide)]; exact hSV.1
    · rw [e5]
      split
      · rw [nN_nI (by omega)]; exact ⟨rfl, hV⟩
      · exact hSV.2 w (by omega)
    · unfold KZ; rw [r 16 (by decide) (by decide) (by decide) (by decide)]; exact KZ_mono hKZ (Nat.le_succ _) (Nat.le_refl _)
    · refine ⟨fun w hw => ?_, fun s hs => ?_⟩
      · rw [r 12 (by decide) (by decide) (by decide) (by decide), r 13 (by decide) (by decide) (by decide) (by decide), r 14 (by decide) (by decide) (by decide) (by decide), r 15 (by decide) (by decide) (by decide) (by decide)]; exact hOZ.1 w (by omega)
      · rw [r 8 (by decide) (by decide) (by decide) (by decide), r 9 (by decide) (by decide) (by decide) (by decide)]; exact hOZ.2 s hs
    · rw [e10]
      split
      · rw [nI_leI (by omega) (by decide)]; exact hY
      · exact hU i
  · rw [if_neg c, if_neg c]
    exact h
theorem INW_pass {n pl nw ns t : Nat} {σ : Sg} (h : INW n pl nw ns t σ) (x : Int32) : ∃ t', t' ≤ t + 200 ∧ INW n pl nw ns t' (sPassT n pl nw ns σ x) := by
  unfold sPassT
  by_cases c : kPass n x = 0
  · rw [if_pos c]
    have hq : isI x (nI 1) (nI 200) = true ∧ n ≠ 0 := by
      unfold kPass at c
      split at c
      · rename_i c1
        split at c
        · exact absurd c (by decide)
        · rename_i c2; exact ⟨c1, c2⟩
      · exact absurd c (by decide)
    obtain ⟨hx, hn⟩ := hq
    obtain ⟨j, hj0, hj, rfl⟩ := isI_nat (by decide) (by decide) hx
    rw [nN_nI (by omega)]
    exact ⟨t + j, by omega, INW_steps (q := (σ, fun _ _ => 0)) (by omega) h j⟩
  · rw [if_neg c]
    exact ⟨t, by omega, h⟩
/-- the rows of a new parade -/
def σ0 : Sg := fun k _ => if k = 7 ∨ k = 13 ∨ k = 15 then -1 else 0
theorem INW_0 : INW 0 0 0 0 0 σ0 := by
  refine ⟨⟨⟨by omega, by omega, by omega, by omega⟩, ⟨fun i => Or.inl rfl, fun w hw => absurd hw (Nat.not_lt_zero _), rfl⟩, fun i => (by decide : (0 : Int32) ≤ 0), ⟨fun s hs => absurd hs (Nat.not_lt_zero _), fun hs => absurd hs (Nat.not_lt_zero _), fun s hs => absurd hs (Nat.not_lt_zero _), fun hs => absurd hs (Nat.not_lt_zero _), fun _ => rfl⟩, fun w hw => absurd hw (Nat.not_lt_zero _), fun s hs => absurd hs (Nat.not_lt_zero _), ⟨fun i => (by decide : (0 : Int32) ≤ 0), fun w hw => absurd hw (Nat.not_lt_zero _)⟩, fun i _ => rfl, ⟨fun w _ => ⟨rfl, rfl, rfl, rfl⟩, fun s _ => ⟨rfl, rfl⟩⟩⟩, fun i => (by decide : (0 : Int32) ≤ nI 200)⟩
