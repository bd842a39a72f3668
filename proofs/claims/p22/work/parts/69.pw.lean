/-! THE SIMULATION'S STEP in the class's words: burning, lighting, songs, starting -/
section BDN
variable {x g : Int32} {k : Nat} {F : Sg}
theorem bd_A (h1 : ¬ F 11 k = 0) (h2 : ¬ F 12 k = nI 2) (hg : lossOf x = g) (h3 : 0 ≤ F 10 k - g) (h4 : ¬ F 10 k - g ≤ 0) : up2 (up2 F 10 k (F 10 k - g)) 11 k (nI 1) = bd1 (lossOf x) k F := by
  subst hg
  have e : mx0 (F 10 k - lossOf x) = F 10 k - lossOf x := if_pos (Int32.not_le.mp h4)
  rw [bd1_b h1 h2 (by rw [e]; exact h4), e]
theorem bd_B (h1 : ¬ F 11 k = 0) (h2 : ¬ F 12 k = nI 2) (hg : lossOf x = g) (h3 : 0 ≤ F 10 k - g) (h4 : F 10 k - g ≤ 0) : up2 (up2 F 10 k (F 10 k - g)) 11 k (nI 0) = bd1 (lossOf x) k F := by
  subst hg
  have e0 : F 10 k - lossOf x = 0 := Int32.le_antisymm h4 h3
  have e : mx0 (F 10 k - lossOf x) = F 10 k - lossOf x := by
    unfold mx0
    split
    · rfl
    · exact e0.symm
  rw [bd1_a h1 h2 (by rw [e]; exact h4), e]
theorem bd_C (h1 : ¬ F 11 k = 0) (h2 : ¬ F 12 k = nI 2) (hg : lossOf x = g) (h3 : ¬ 0 ≤ F 10 k - g) : up2 (up2 (up2 F 10 k (F 10 k - g)) 10 k (nI 0)) 11 k (nI 0) = bd1 (lossOf x) k F := by
  subst hg
  have e : mx0 (F 10 k - lossOf x) = nI 0 := if_neg (fun z => h3 (Int32.le_of_lt z))
  rw [bd1_a h1 h2 (by rw [e]; decide), e, up2_up2]
end BDN
theorem loss_2 {x : Int32} (h : ¬ x ≤ nI 5) : lossOf x = nI 2 := lossOf_nle h
theorem loss_1 {x : Int32} (h : x ≤ nI 5) : lossOf x = nI 1 := lossOf_le h
theorem wind_8 {x : Int32} : x ≤ nI 7 ↔ ¬ nI 8 ≤ x := by
  have e7 : (nI 7).toInt = 7 := by decide
  have e8 : (nI 8).toInt = 8 := by decide
  rw [Int32.le_iff_toInt_le, Int32.le_iff_toInt_le, e7, e8]
  omega
theorem bo_f {x : Int32} {nw : Nat} {σ : Sg} (h : x ≤ nI 7) : boF x nw σ = σ := if_neg (wind_8.mp h)
theorem bo_t {x : Int32} {nw : Nat} {σ : Sg} (h : ¬ x ≤ nI 7) : boF x nw σ = foldN (bo1 nw) nw σ := if_pos (Classical.byContradiction (fun z => h (wind_8.mpr z)))
/-- lit by a neighbour -/
def ltP (τ : Sg) (w o : Nat) : Bool := nbr τ w o && (decide (¬ τ 11 o = 0) && decide (¬ τ 10 w ≤ 0))
theorem ltP_lt9 {τ : Sg} {nw w : Nat} (hz : bz τ) (hw : wz τ) : anyN (ltP τ w) nw = lt9 τ nw w := by
  have h10 : τ 10 w ≤ 0 ↔ τ 10 w = 0 := ⟨fun q => Int32.le_antisymm q (hw w), fun q => by rw [q]; decide⟩
  have hn : ∀ o, nbr τ w o = true → τ 12 w = nI 1 := fun o h => by
    unfold nbr at h
    simp only [Bool.and_eq_true] at h
    exact of_decide_eq_true h.2.1
  unfold lt9
  by_cases c : τ 12 w = nI 1
  · rw [decide_eq_true c, Bool.true_and]
    by_cases d : τ 10 w = 0
    · rw [decide_eq_false (fun z => z d), Bool.false_and]
      have : ∀ m, anyN (ltP τ w) m = false := by
        intro m
        induction m with
        | zero => rfl
        | succ m ih => exact anyN_f ih (by unfold ltP; rw [show decide (¬ τ 10 w ≤ 0) = false from decide_eq_false (fun z => z (h10.mpr d)), Bool.and_false, Bool.and_false])
      exact this nw
    · rw [decide_eq_true d, Bool.true_and]
      refine anyN_congr (fun o _ => ?_)
      unfold ltP ltB
      rw [show decide (¬ τ 10 w ≤ 0) = true from decide_eq_true (fun z => d (h10.mp z)), Bool.and_true]
      congr 1
      exact decide_eq_decide.mpr (nz1 (hz o))
  · rw [decide_eq_false c, Bool.false_and]
    have : ∀ m, anyN (ltP τ w) m = false := by
      intro m
      induction m with
      | zero => rfl
      | succ m ih =>
        refine anyN_f ih ?_
        unfold ltP
        cases hb : nbr τ w m
        · rfl
        · exact absurd (hn m hb) c
    exact this nw
def vlt (b : Bool) (x : Int32) : Int32 := if b = true then nI 1 else x
theorem or_vlt {b : Bool} {x : Int32} (h : x = nI 0 ∨ x = nI 1) : x ||| zI b = vlt b x := by
  rcases h with h | h <;> subst h <;> cases b <;> decide
theorem vlt_01 {b : Bool} {x : Int32} (h : x = nI 0 ∨ x = nI 1) : vlt b x = nI 0 ∨ vlt b x = nI 1 := by
  cases b
  · exact h
  · exact Or.inr rfl
theorem nf_01 {x : Int32} (h : x = nI 0 ∨ x = nI 1) : narrow .boolean (.int x) = .int x ∧ fits .boolean (.int x) = true := by
  rcases h with h | h <;> subst h <;> decide
theorem lg_vlt {τ : Sg} {nw k : Nat} {F : Sg} : up2 F 11 k (vlt (lt9 τ nw k) (F 11 k)) = lg1 τ nw k F := by
  unfold vlt lg1
  split
  · rfl
  · exact up2_id rfl
theorem lgS_bz {τ : Sg} {nw : Nat} (h : bz τ) : ∀ k, bz (foldN (lg1 τ nw) k τ) := fun k =>
  foldN_inv (P := bz) h (fun w ρ _ h => by
    unfold lg1
    split
    · exact bz_up h (Or.inr rfl)
    · exact h)
section LRN
variable {σ : Sg} {nw w sg j : Nat}
theorem lrn_0 (h : lfo σ w sg nw = none) : lrn σ nw w sg = nI 0 := by unfold lrn; rw [h]
theorem lrn_q (h : lfo σ w sg nw = some j) (h2 : σ 5 j + (if σ 11 w = 0 then nI 3 else nI 0) < σ 6 sg) : lrn σ nw w sg = nI 0 := by
  unfold lrn
  rw [h]
  exact if_neg (Int32.not_le.mpr h2)
theorem lrn_c (hz : bz σ) (h : lfo σ w sg nw = some j) (h2 : ¬ σ 5 j + (if σ 11 w = 0 then nI 3 else nI 0) < σ 6 sg) (a : ¬ σ 11 w = 0) (b : ¬ σ 11 j = 0) : lrn σ nw w sg = rem99 (σ 16 (6 * j + sg)) + nI 1 := by
  unfold lrn
  rw [h]
  refine (if_pos (Int32.not_lt.mp h2)).trans (if_pos ?_)
  rw [(nz1 (hz w)).mp a, (nz1 (hz j)).mp b]
  decide
theorem lrn_n (hz : bz σ) (h : lfo σ w sg nw = some j) (h2 : ¬ σ 5 j + (if σ 11 w = 0 then nI 3 else nI 0) < σ 6 sg) (a : σ 11 w = 0 ∨ σ 11 j = 0) : lrn σ nw w sg = σ 16 (6 * j + sg) := by
  unfold lrn
  rw [h]
  refine (if_pos (Int32.not_lt.mp h2)).trans (if_neg ?_)
  intro z
  rcases hz w with p | p <;> rcases hz j with q | q
  · rw [p, q] at z; exact absurd z (by decide)
  · rw [p, q] at z; exact absurd z (by decide)
  · rw [p, q] at z; exact absurd z (by decide)
  · rcases a with a | a
    · rw [p] at a; exact absurd a (by decide)
    · rw [q] at a; exact absurd a (by decide)
end LRN
/-- the songs while they are learnt -/
def sgK (S : Sg) (L : Nat → Int32) (ns k s : Nat) : Sg := va_up S 16 (fun i => if (i / 6 < k ∧ i % 6 < ns) ∨ (i / 6 = k ∧ i % 6 < s) then knM S L i else S 16 i)
theorem sgK_0 {S : Sg} {L : Nat → Int32} {ns : Nat} : sgK S L ns 0 0 = S := by
  refine va_up_id ?_
  funext i
  rw [if_neg (by omega)]
theorem sgK_n {S : Sg} {L : Nat → Int32} {ns k : Nat} : sgK S L ns k ns = sgK S L ns (k + 1) 0 := by
  unfold sgK
  congr 1
  funext i
  by_cases h : (i / 6 < k ∧ i % 6 < ns) ∨ (i / 6 = k ∧ i % 6 < ns)
  · rw [if_pos h, if_pos (by omega)]
  · rw [if_neg h, if_neg (by omega)]
theorem sgK_s {S : Sg} {L : Nat → Int32} {ns k s : Nat} (hs : s < 6) (h : ¬ L (6 * k + s) ≤ 0) : up2 (sgK S L ns k s) 16 (6 * k + s) (L (6 * k + s)) = sgK S L ns k (s + 1) := by
  unfold sgK up2
  funext r
  unfold va_up
  split
  · simp only [if_true]
    funext i
    unfold upd
    by_cases e : i = 6 * k + s
    · subst e
      rw [if_pos rfl, if_pos (by omega)]
      unfold knM
      rw [if_neg h]
    · rw [if_neg e]
      show (if (i / 6 < k ∧ i % 6 < ns) ∨ (i / 6 = k ∧ i % 6 < s) then knM S L i else S 16 i) = _
      by_cases q : (i / 6 < k ∧ i % 6 < ns) ∨ (i / 6 = k ∧ i % 6 < s)
      · rw [if_pos q, if_pos (by omega)]
      · rw [if_neg q, if_neg (by omega)]
  · rfl
theorem sgK_f {S : Sg} {L : Nat → Int32} {ns k s : Nat} (hs : s < 6) (h : L (6 * k + s) ≤ 0) : sgK S L ns k s = sgK S L ns k (s + 1) := by
  unfold sgK
  congr 1
  funext i
  by_cases e : i = 6 * k + s
  · subst e
    have : knM S L (6 * k + s) = S 16 (6 * k + s) := if_pos h
    rw [this]
    split <;> split <;> rfl
  · by_cases q : (i / 6 < k ∧ i % 6 < ns) ∨ (i / 6 = k ∧ i % 6 < s)
    · rw [if_pos q, if_pos (by omega)]
    · rw [if_neg q, if_neg (by omega)]
theorem sgK_at {S : Sg} {L : Nat → Int32} {ns k s r : Nat} (h : r ≠ 16) : sgK S L ns k s r = S r := by unfold sgK va_up; rw [if_neg h]
theorem sgK_eq {nw ns : Nat} {σ κ : Sg} {g : Nat → Int32} (hSV : SV nw σ) (hz : bz σ) (hns : ns ≤ 6) : sgK σ (lnR σ nw ns nw 0 g) ns nw 0 = (sgF nw ns (σ, κ)).1 := by
  funext r
  by_cases hr : r = 16
  · subst hr
    funext i
    obtain ⟨s1, s2⟩ := sgF_at (κ := κ) hSV hz hns i
    show (if (i / 6 < nw ∧ i % 6 < ns) ∨ (i / 6 = nw ∧ i % 6 < 0) then knM σ (lnR σ nw ns nw 0 g) i else σ 16 i) = _
    by_cases hb : i / 6 < nw ∧ i % 6 < ns
    · rw [if_pos (Or.inl hb)]
      have hL : lnR σ nw ns nw 0 g i = lv9 σ nw (i / 6) (i % 6) := if_pos (Or.inl hb)
      have ei : 6 * (i / 6) + i % 6 = i := by omega
      unfold knM
      rw [hL]
      unfold lv9
      rw [ei]
      by_cases hc : σ 12 (i / 6) = nI 1 ∧ σ 16 i = 0
      · rw [if_pos hc, s1 ⟨hb.1, hb.2, hc⟩]
        by_cases h0 : lrn σ nw (i / 6) (i % 6) ≤ 0
        · rw [if_pos h0, hc.2]
          exact (Int32.le_antisymm h0 (lrn_nn hSV)).symm
        · rw [if_neg h0]
      · rw [if_neg hc, if_pos (by decide), s2 (fun z => hc z.2.2)]
    · rw [if_neg (by omega), s2 (fun z => hb ⟨z.1, z.2.1⟩)]
  · rw [sgK_at hr, sgF_row hr]
/-- states are not below 0 -/
def ST (σ : Sg) : Prop := ∀ w, 0 ≤ σ 12 w
theorem ST_row {σ τ : Sg} (h : ST σ) (e : τ 12 = σ 12) : ST τ := fun w => by rw [e]; exact h w
theorem g1_ST {n pl nw w : Nat} {q : P2} (h : ST q.1) : ST (g1 n pl nw w q).2.1 := by
  have k2 : ∀ (z : Int32) (q : P2), ST q.1 → ST (g2 pl w z q).2.1 := by
    intro z q h o
    unfold g2
    split
    · show 0 ≤ up2 q.1 13 w z 12 o
      rw [up2_row _ _ _ _ (by omega)]
      exact h o
    · show 0 ≤ ch1 w q.1 12 o
      unfold ch1
      rw [up2_row _ _ _ _ (by omega), up2_row _ _ _ _ (by omega), up2_at]
      split
      · decide
      · exact h o
  unfold g1
  split
  · exact h
  · split
    · exact k2 _ _ h
    · rename_i s _
      have hp12 : (pcQ s q).1 12 = q.1 12 := pcQ_row (by omega) (by omega)
      split
      · exact k2 _ _ (ST_row h hp12)
      · exact ST_row h hp12
theorem wl_ST {n pl nw w : Nat} : ∀ (m : Nat) (r : Bool × P2), ST r.2.1 → ST (wl n pl nw w m r).2.1
  | 0, r, h => h
  | m + 1, r, h => by
    simp only [wl]
    split
    · exact wl_ST m _ (g1_ST h)
    · exact h
theorem goL_ST {n pl nw : Nat} : ∀ (m : Nat) (q : P2), ST q.1 → ST (goL n pl nw m q).1
  | 0, q, h => h
  | m + 1, q, h => by
    simp only [goL]
    split
    · exact h
    · refine goL_ST m _ ?_
      unfold wkF
      refine wl_ST _ _ (ST_row h ?_)
      show wk0 (nN (fg q.1 q.2 nw).2) q.1 12 = q.1 12
      unfold wk0
      split
      · exact up2_row _ _ _ _ (by omega)
      · rfl
theorem goF_ST {n pl nw : Nat} {q : P2} (h : ST q.1) : ST (goF n pl nw q).1 := goL_ST nw _ h
theorem st1S_ST {nw : Nat} {τ : Sg} (h : ST τ) : ∀ k, ST (foldN (st1 nw) k τ) := fun k =>
  foldN_inv (P := ST) h (fun w ρ _ h o => by
    unfold st1
    split
    · rw [up2_row _ _ _ _ (by omega), up2_at]
      split
      · decide
      · exact h o
    · exact h o)
theorem t2_ST {n pl nw ns : Nat} {q : P2} (h : ST q.1) : ST (t2 n pl nw ns q).1 := by
  unfold t2
  refine goF_ST (ST_row h ?_)
  rw [sgF_row (by omega), t1_rows (by omega) (by omega)]
theorem tsF_ST {n pl nw ns : Nat} {q : P2} (h : ST q.1) : ST (tsF n pl nw ns q).1 :=
  ST_row (st1S_ST (nw := nw) (t2_ST (n := n) (pl := pl) (nw := nw) (ns := ns) h) nw) (show up2 (stF nw (t2 n pl nw ns q).1) 17 0 (stF nw (t2 n pl nw ns q).1 17 0 + nI 1) 12 = stF nw (t2 n pl nw ns q).1 12 from up2_row _ _ _ _ (by omega))
theorem lv_reg {ls : Array Slot} {N : Nat} {xs : List (Nat × Value)} {i : Nat} {j : Nat} {v v' : Value} (h : lv_has ls N xs) (hi : xs[i]? = some (j, v)) (e : v = v') : lv_has ls N (xs.set i (j, v')) := by
  subst e
  have : xs.set i (j, v) = xs := by
    apply List.ext_getElem?
    intro k
    rw [List.getElem?_set]
    by_cases q : i = k
    · subst q
      rw [if_pos rfl]
      split
      · exact hi.symm
      · rename_i q2
        rw [List.getElem?_eq_none (by omega)] at hi
        cases hi
    · rw [if_neg q]
  rw [this]
  exact h
section RE2
variable {D : va_G} {H : Heap} {cI cZ cW cO : ClassId} {X : Nat → va_E} {a : Ka} {n nw ns : Nat} {σ η η' : Sg} {T : Ke} {M : Km}
theorem kP.reE (hM1 : km M 1 ≤ 10) (hP : kP D M a (eL cI cZ cW cO X a n nw ns σ η T) H) (e0 : ∀ i, i < 120 → η' 0 i = η 0 i) (e1 : ∀ i, i < 20 → η' 1 i = η 1 i) (e2 : ∀ i, i < 10 → η' 2 i = η 2 i) (e3 : ∀ i, i < 20 → η' 3 i = η 3 i) : kP D M a (eL cI cZ cW cO X a n nw ns σ η' T) H :=
  kP.re hM1 hP (fun _ _ => rfl) (fun _ _ => rfl) (fun _ _ => rfl) rfl (fun _ _ => ⟨rfl, rfl, rfl, rfl, rfl⟩) (fun _ _ => ⟨rfl, rfl, rfl, rfl, rfl, rfl, rfl, rfl⟩) (fun _ _ _ _ => rfl) e0 e1 e2 e3
end RE2
/-- the corners let nobody through yet -/
def thZ (E : Sg) (k : Nat) : Sg := va_up E 2 (cpk (fun _ => nI 0) (E 2) k)
theorem thZ_0 {E : Sg} : thZ E 0 = E := by unfold thZ; rw [cpk_0]; exact va_up_id rfl
theorem thZ_s {E : Sg} {k : Nat} : up2 (thZ E k) 2 k (nI 0) = thZ E (k + 1) := by
  funext r i
  rw [up2_at]
  unfold thZ va_up
  by_cases q : r = 2
  · subst q
    simp only [if_true, true_and]
    exact congrFun (cpk_s (fun _ => nI 0) (E 2) k) i
  · rw [if_neg q, if_neg q, if_neg (fun z => q z.1)]
theorem thZ_2 {E : Sg} {k i : Nat} (h : i < k) : thZ E k 2 i = nI 0 := by
  unfold thZ va_up cpk
  simp [h]
theorem thZ_ne {E : Sg} {k r : Nat} (h : r ≠ 2) : thZ E k r = E r := by unfold thZ va_up; rw [if_neg h]
theorem thE_k0 {S E : Sg} {i : Nat} : thE S E (k0 S) 2 i = nI 0 := by
  unfold thE va_up
  simp only [if_true]
  rw [thr_k0]
theorem thE_ne {S E κ : Sg} {r : Nat} (h : r ≠ 2) : thE S E κ r = E r := by unfold thE va_up; rw [if_neg h]
