/-! ONE STEP: everybody's way, who starts, what is learnt -/
section GTA
variable {n pl nw m : Nat} {S : Sg} {f : Nat → Nat} {L : Nat → Nat}
def GW (n pl nw m : Nat) (S : Sg) (f : Nat → Nat) (i : Nat) (q : P2) : Prop := ∀ w, w < nw →
  ((∃ j, j < i ∧ f j = w ∧ ∃ p, p < pl ∧ S 13 w = nI p ∧ WR pl (wkP w S) p (S 15 w) (S 17 0) (q.1 12 w) (q.1 13 w) (q.1 15 w)) ∨ ((∀ j, j < i → f j ≠ w) ∧ q.1 12 w = S 12 w ∧ q.1 13 w = S 13 w ∧ q.1 15 w = S 15 w))
theorem wkP_row {w : Nat} {q S : Sg} (h4 : q 4 = S 4) (h11 : q 11 = S 11) : wkP w q = wkP w S := by
  unfold wkP
  rw [h4, h11]
theorem goT_all (hpl : pl ≤ 200) (hOR : OR S nw m f) (hRF : RF n pl S) (hPB : PB pl nw S) (hAT : AT pl nw S) (hLT : LT n S) (hL : ∀ s, s < n → lt_ S s 2 = nI (L s) ∧ L s ≤ 10) : ∀ i, i ≤ m → gT n pl nw m S f i (goT n pl nw f i (dkS S nw, k0 S)) ∧ GW n pl nw m S f i (goT n pl nw f i (dkS S nw, k0 S)) ∧ SJ n nw S L i (goT n pl nw f i (dkS S nw, k0 S))
  | 0, _ => by
    have r : ∀ r, r ≠ 14 → dkS S nw r = S r := fun r h => dkS_row h
    refine ⟨gT_0 hOR hPB hAT hLT, fun w _ => Or.inr ⟨fun j hj => absurd hj (Nat.not_lt_zero _), congrFun (r 12 (by decide)) w, congrFun (r 13 (by decide)) w, congrFun (r 15 (by decide)) w⟩, fun _ => 0, fun _ => 0, fun s hs => ?_, fun s hs => ?_, ?_⟩
    · show dkS S nw 8 s = _ ∧ dkS S nw 9 s = _ ∧ lt_ S s 2 = _ ∧ _
      rw [r 8 (by decide), r 9 (by decide), (hL s hs).1]
      exact ⟨(Int32.add_zero _).symm, (Int32.add_zero _).symm, rfl, Nat.zero_le _, Nat.le_refl _⟩
    · show on (dkS S nw) nw s + 0 = on S nw s + (if s = 0 then 0 else 0)
      rw [show on (dkS S nw) nw s = on S nw s from cnt_congr (fun k _ => onS_cg (r 0 (by decide)) (r 2 (by decide)) (congrFun (r 12 (by decide)) k) (congrFun (r 13 (by decide)) k))]
      split <;> rfl
    · show cnt (hmS (dkS S nw) (nI 2)) nw = hm S nw (nI 2) + 0
      unfold hmS
      rw [r 12 (by decide)]
      rfl
  | i + 1, hi => by
    obtain ⟨h1, h2, h3⟩ := goT_all hpl hOR hRF hPB hAT hLT hL i (by omega)
    have hfi := hOR.2.1 i (by omega)
    generalize hq : goT n pl nw f i (dkS S nw, k0 S) = q at h1 h2 h3
    have e : goT n pl nw f (i + 1) (dkS S nw, k0 S) = (wl n pl nw (f i) (wkP (f i) q.1) (true, q)).2 := by
      show (wl n pl nw (f i) (wkP (f i) (goT n pl nw f i (dkS S nw, k0 S)).1) (true, goT n pl nw f i (dkS S nw, k0 S))).2 = _
      rw [hq]
    rw [e]
    have row : ∀ r, goK r → r ≠ 14 → q.1 r = S r := fun r h h14 => (h1.1 r h).trans (dkS_row h14)
    have r0 := row 0 (by unfold goK; omega) (by decide)
    have r2 := row 2 (by unfold goK; omega) (by decide)
    have r4 := row 4 (by unfold goK; omega) (by decide)
    have r11 := row 11 (by unfold goK; omega) (by decide)
    have r17 := row 17 (by unfold goK; omega) (by decide)
    have hq12 := h1.2.2.2.2 i (Nat.le_refl _) (by omega)
    have hinj : ∀ j, j < i → f j ≠ f i := fun j hj z => by
      rcases hOR.2.2.1 j i hj (by omega) with y | ⟨-, y⟩
      · rw [z] at y; exact absurd y (Nat.lt_irrefl _)
      · rw [z] at y; exact absurd y (Nat.lt_irrefl _)
    have hst : q.1 13 (f i) = S 13 (f i) ∧ q.1 15 (f i) = S 15 (f i) := by
      rcases h2 (f i) hfi.1 with ⟨j, hj, e1, -⟩ | ⟨-, -, e2, e3⟩
      · exact absurd e1 (hinj j hj)
      · exact ⟨e2, e3⟩
    obtain ⟨p, hp, hz⟩ := h1.2.1 (f i) hfi.1 hq12
    obtain ⟨k1, k2, k3⟩ := wl_all (w := f i) hpl hfi.1 (fun s hs => (hL s hs).2) (wkP (f i) q.1) p i q (RF_rows hRF r0 r2) hq12 hz hp h3
    refine ⟨by have := gT_s hpl hOR (by omega) h1; exact this, fun w hw => ?_, k3⟩
    by_cases ew : w = f i
    · subst ew
      left
      refine ⟨i, Nat.lt_succ_self _, rfl, p, hp, hst.1.symm.trans hz, ?_⟩
      rw [wkP_row r4 r11, hst.2, congrFun r17 0] at k1
      rw [wkP_row r4 r11]
      exact k1
    · obtain ⟨o1, o2⟩ := wl_oth (n := n) (pl := pl) (nw := nw) ew (wkP (f i) q.1) (true, q)
      rw [o1, o2, k2 w ew]
      rcases h2 w hw with ⟨j, hj, e1, h9⟩ | ⟨g1, g2⟩
      · exact Or.inl ⟨j, by omega, e1, h9⟩
      · exact Or.inr ⟨fun j hj => by
          by_cases ej : j = i
          · rw [ej]; exact fun z => ew z.symm
          · exact g1 j (by omega), g2⟩
end GTA
/-- who starts -/
theorem stF_w {nw : Nat} {R : Sg} : (∀ w, (stF nw R 12 w = R 12 w ∧ stF nw R 13 w = R 13 w) ∨ (R 12 w = 0 ∧ stF nw R 12 w = nI 1 ∧ stF nw R 13 w = nI 0)) := by
  refine foldN_inv (P := fun (y : Sg) => ∀ w, (y 12 w = R 12 w ∧ y 13 w = R 13 w) ∨ (R 12 w = 0 ∧ y 12 w = nI 1 ∧ y 13 w = nI 0)) (fun w => Or.inl ⟨rfl, rfl⟩) (fun k y _ h w => ?_)
  unfold st1
  split
  · rename_i c
    by_cases e : w = k
    · subst e
      right
      refine ⟨?_, ?_, up2_in'⟩
      · rcases h w with ⟨a, -⟩ | ⟨a, -⟩
        · rw [← a]; exact c.1
        · exact a
      · rw [up2_r (by decide), up2_in']
    · rw [up2_r (by decide), up2_o e, up2_o e, up2_r (by decide)]
      exact h w
  · exact h w
section STP
variable {n pl nw ns t : Nat} {σ κ : Sg}
theorem tsF_11 {q : P2} : (tsF n pl nw ns q).1 11 = (t1 nw q).1 11 := by
  show (up2 (stF nw (t2 n pl nw ns q).1) 17 0 (stF nw (t2 n pl nw ns q).1 17 0 + nI 1)) 11 = _
  rw [up2_row _ _ _ _ (by omega), stF_row (by omega) (by omega)]
  unfold t2
  rw [goF_row (by unfold goR; omega), sgF_row (by omega)]
/-- a step's way of each walker and its corners, all at once -/
theorem step_all (h : LV n pl nw ns t σ) (hn : 0 < n) : ∃ (R : Sg) (L : Nat → Nat) (c : Nat) (κ9 : Sg), c ≤ 20 ∧ (∀ s, s < n → lt_ σ s 2 = nI (L s) ∧ L s ≤ 10) ∧ SJ n nw σ L c (R, κ9) ∧
    (∀ w, w < nw → (σ 12 w = nI 1 ∧ ∃ p, p < pl ∧ σ 13 w = nI p ∧ WR pl (wkP w (tsF n pl nw ns (σ, κ)).1) p (σ 15 w) (nI t) (R 12 w) (R 13 w) (R 15 w)) ∨ (¬ σ 12 w = nI 1 ∧ R 12 w = σ 12 w ∧ R 13 w = σ 13 w ∧ R 15 w = σ 15 w)) ∧
    (∀ r, r ≠ 12 → r ≠ 13 → r ≠ 17 → (tsF n pl nw ns (σ, κ)).1 r = R r) ∧
    (∀ w, ((tsF n pl nw ns (σ, κ)).1 12 w = R 12 w ∧ (tsF n pl nw ns (σ, κ)).1 13 w = R 13 w) ∨ (R 12 w = 0 ∧ (tsF n pl nw ns (σ, κ)).1 12 w = nI 1 ∧ (tsF n pl nw ns (σ, κ)).1 13 w = nI 0)) ∧
    (∀ w, w < nw → R 14 w = if σ 12 w = nI 1 ∧ (tsF n pl nw ns (σ, κ)).1 11 w = 0 then σ 14 w + nI 1 else σ 14 w) ∧ R 0 = σ 0 ∧ R 2 = σ 2 := by
  have hI := h.inv
  have hns := hI.1.2.2.2
  have r2 : ∀ r, r ≠ 10 → r ≠ 11 → r ≠ 16 → (sgF nw ns (t1 nw (σ, κ))).1 r = σ r := fun r h1 h2 h3 => by rw [sgF_row h3, t1_rows h1 h2]
  obtain ⟨m, f, hOR⟩ := OR_ex (S := (sgF nw ns (t1 nw (σ, κ))).1) nw
  have hPB2 : PB pl nw (sgF nw ns (t1 nw (σ, κ))).1 := PB_rows (r2 12 (by decide) (by decide) (by decide)) (r2 13 (by decide) (by decide) (by decide)) hI.2.2.2.2.1
  have hRF2 : RF n pl (sgF nw ns (t1 nw (σ, κ))).1 := RF_rows hI.2.2.2.1 (r2 0 (by decide) (by decide) (by decide)) (r2 2 (by decide) (by decide) (by decide))
  have hAT2 : AT pl nw (sgF nw ns (t1 nw (σ, κ))).1 := AT_rows h.2.1 (r2 12 (by decide) (by decide) (by decide)) (r2 13 (by decide) (by decide) (by decide))
  have hLT0 := L1_LT hI.2.2.2.2.2.1
  have hLT2 : LT n (sgF nw ns (t1 nw (σ, κ))).1 := LT_rows (r2 1 (by decide) (by decide) (by decide)) (r2 7 (by decide) (by decide) (by decide)) hLT0
  have hlt : ∀ s, lt_ (sgF nw ns (t1 nw (σ, κ))).1 s 2 = lt_ σ s 2 := fun s => lt_rows (r2 1 (by decide) (by decide) (by decide)) (r2 7 (by decide) (by decide) (by decide)) s 2
  have hL : ∀ s, s < n → lt_ σ s 2 = nI (nN (lt_ σ s 2)) ∧ nN (lt_ σ s 2) ≤ 10 := fun s hs => by
    obtain ⟨M, e, hM⟩ := hLT0 s hs
    rw [e, nN_nI (by omega)]
    exact ⟨rfl, hM⟩
  have hR9 := goT_goF (n := n) (κ := (sgF nw ns (t1 nw (σ, κ))).2) hOR hPB2 hI.1.2.1 hI.1.2.2.1
  obtain ⟨g1, g2, g3⟩ := goT_all (L := fun s => nN (lt_ σ s 2)) hI.1.2.1 hOR hRF2 hPB2 hAT2 hLT2 (fun s hs => by rw [hlt]; exact hL s hs) m (Nat.le_refl _)
  have eR : (t2 n pl nw ns (σ, κ)).1 = (goT n pl nw f m (dkS (sgF nw ns (t1 nw (σ, κ))).1 nw, k0 (sgF nw ns (t1 nw (σ, κ))).1)).1 := hR9.symm
  have e11 : (tsF n pl nw ns (σ, κ)).1 11 = (sgF nw ns (t1 nw (σ, κ))).1 11 := by rw [tsF_11, sgF_row (by decide)]
  have e4 : (tsF n pl nw ns (σ, κ)).1 4 = (sgF nw ns (t1 nw (σ, κ))).1 4 := by rw [tsF_row (by decide), r2 4 (by decide) (by decide) (by decide)]
  have rR : ∀ r, goK r → (t2 n pl nw ns (σ, κ)).1 r = dkS (sgF nw ns (t1 nw (σ, κ))).1 nw r := fun r hr => by rw [eR]; exact g1.1 r hr
  refine ⟨(t2 n pl nw ns (σ, κ)).1, fun s => nN (lt_ σ s 2), m, (goT n pl nw f m (dkS (sgF nw ns (t1 nw (σ, κ))).1 nw, k0 (sgF nw ns (t1 nw (σ, κ))).1)).2, Nat.le_trans hOR.1 hI.1.2.2.1, hL, ?_, fun w hw => ?_, fun r h12 h13 h17 => ?_, fun w => ?_, fun w hw => ?_, ?_, ?_⟩
  · rw [eR]
    obtain ⟨d, e, s1, s2, s3⟩ := g3
    refine ⟨d, e, fun s hs => ?_, fun s hs => ?_, ?_⟩
    · have := s1 s hs
      rw [r2 8 (by decide) (by decide) (by decide), r2 9 (by decide) (by decide) (by decide)] at this
      exact this
    · have := s2 s hs
      rw [show on (sgF nw ns (t1 nw (σ, κ))).1 nw s = on σ nw s from cnt_congr (fun k _ => onS_cg (r2 0 (by decide) (by decide) (by decide)) (r2 2 (by decide) (by decide) (by decide)) (congrFun (r2 12 (by decide) (by decide) (by decide)) k) (congrFun (r2 13 (by decide) (by decide) (by decide)) k))] at this
      exact this
    · have : _ = hm (sgF nw ns (t1 nw (σ, κ))).1 nw (nI 2) + d (n - 1) := s3
      rw [show hm (sgF nw ns (t1 nw (σ, κ))).1 nw (nI 2) = hm σ nw (nI 2) from by unfold hm hmS; rw [r2 12 (by decide) (by decide) (by decide)]] at this
      exact this
  · rw [eR]
    rcases g2 w hw with ⟨j, hj, e1, p, hp, hz, hWR⟩ | ⟨a1, a2, a3, a4⟩
    · left
      have hwk := (hOR.2.1 j hj).2
      rw [e1, congrFun (r2 12 (by decide) (by decide) (by decide)) w] at hwk
      rw [congrFun (r2 13 (by decide) (by decide) (by decide)) w] at hz
      rw [congrFun (r2 15 (by decide) (by decide) (by decide)) w, congrFun (r2 17 (by decide) (by decide) (by decide)) 0, hI.2.1.2.2] at hWR
      refine ⟨hwk, p, hp, hz, ?_⟩
      rw [wkP_row e4 e11]
      exact hWR
    · right
      refine ⟨fun z => ?_, a2.trans (congrFun (r2 12 (by decide) (by decide) (by decide)) w), a3.trans (congrFun (r2 13 (by decide) (by decide) (by decide)) w), a4.trans (congrFun (r2 15 (by decide) (by decide) (by decide)) w)⟩
      obtain ⟨i, hi, e⟩ := hOR.2.2.2 w hw (by rw [congrFun (r2 12 (by decide) (by decide) (by decide)) w]; exact z)
      exact a1 i hi e
  · show up2 (stF nw (t2 n pl nw ns (σ, κ)).1) 17 0 _ r = _
    rw [up2_r h17, stF_row h12 h13]
  · have f12 : (tsF n pl nw ns (σ, κ)).1 12 = stF nw (t2 n pl nw ns (σ, κ)).1 12 := by
      show up2 (stF nw (t2 n pl nw ns (σ, κ)).1) 17 0 (stF nw (t2 n pl nw ns (σ, κ)).1 17 0 + nI 1) 12 = _
      rw [up2_r (by decide)]
    have f13 : (tsF n pl nw ns (σ, κ)).1 13 = stF nw (t2 n pl nw ns (σ, κ)).1 13 := by
      show up2 (stF nw (t2 n pl nw ns (σ, κ)).1) 17 0 (stF nw (t2 n pl nw ns (σ, κ)).1 17 0 + nI 1) 13 = _
      rw [up2_r (by decide)]
    rw [f12, f13]
    exact stF_w w
  · rw [rR 14 (by unfold goK; omega), dkS_at, e11, congrFun (r2 12 (by decide) (by decide) (by decide)) w, congrFun (r2 14 (by decide) (by decide) (by decide)) w]
    by_cases c : σ 12 w = nI 1 ∧ (sgF nw ns (t1 nw (σ, κ))).1 11 w = 0
    · rw [if_pos ⟨hw, c⟩, if_pos c]
    · rw [if_neg (fun z => c z.2), if_neg c]
  · rw [rR 0 (by unfold goK; omega), dkS_row (by decide), r2 0 (by decide) (by decide) (by decide)]
  · rw [rR 2 (by unfold goK; omega), dkS_row (by decide), r2 2 (by decide) (by decide) (by decide)]
end STP
