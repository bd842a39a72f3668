/-! THE TWO STEPS ARE ONE: going -/
def CG (n : Nat) (q q' : P2) : Prop := (∀ r, r ≠ 14 → q'.1 r = q.1 r) ∧ ∀ s, s < n → q'.2 3 s = q.2 3 s
theorem wa_rows {σ τ : Sg} (h12 : τ 12 = σ 12) (h13 : τ 13 = σ 13) (nw : Nat) (z : Int32) : wa τ nw z = wa σ nw z := by
  unfold wa waS
  rw [h12, h13]
theorem se_rows {σ τ : Sg} (h0 : τ 0 = σ 0) (h2 : τ 2 = σ 2) (n : Nat) (z : Int32) : se τ n z = se σ n z := by
  unfold se seS
  rw [h0, h2]
theorem CG_up {n : Nat} {a b a' b' : Sg} (h : CG n (a, b) (a', b')) (r i : Nat) (v : Int32) : CG n (up2 a r i v, b) (up2 a' r i v, b') := by
  refine ⟨fun r' hr => ?_, h.2⟩
  show up2 a' r i v r' = up2 a r i v r'
  funext k
  rw [up2_at, up2_at]
  split
  · rfl
  · exact congrFun (h.1 r' hr) k
theorem CG_up3 {n : Nat} {a b a' b' : Sg} (h : CG n (a, b) (a', b')) (i : Nat) (v : Int32) : CG n (a, up2 b 3 i v) (a', up2 b' 3 i v) := by
  refine ⟨h.1, fun s hs => ?_⟩
  show up2 b' 3 i v 3 s = up2 b 3 i v 3 s
  rw [up2_at, up2_at]
  split
  · rfl
  · exact h.2 s hs
theorem pcQ_cg {n s : Nat} {a b a' b' : Sg} (h : CG n (a, b) (a', b')) (hs : s < n) : pcB s (a', b') = pcB s (a, b) ∧ CG n (pcQ s (a, b)) (pcQ s (a', b')) := by
  have e3 : b' 3 s = b 3 s := h.2 s hs
  by_cases q : 0 < b 3 s
  · have q' : 0 < b' 3 s := by rw [e3]; exact q
    rw [pcB_t q, pcB_t q', pcQ_t q, pcQ_t q']
    refine ⟨rfl, ?_⟩
    have e8 : a' 8 s = a 8 s := congrFun (h.1 8 (by omega)) s
    rw [e3, e8]
    exact CG_up3 (CG_up h 8 s _) s _
  · have q' : ¬ 0 < b' 3 s := by rw [e3]; exact q
    rw [pcB_f q, pcB_f q', pcQ_f q, pcQ_f q']
    refine ⟨rfl, ?_⟩
    have e9 : a' 9 s = a 9 s := congrFun (h.1 9 (by omega)) s
    rw [e9]
    exact CG_up h 9 s _
theorem g2_cg {n pl w : Nat} {z : Int32} {q q' : P2} (h : CG n q q') : (g2 pl w z q').1 = (g2 pl w z q).1 ∧ CG n (g2 pl w z q).2 (g2 pl w z q').2 := by
  obtain ⟨a, b⟩ := q
  obtain ⟨a', b'⟩ := q'
  unfold g2
  split
  · exact ⟨rfl, CG_up h 13 w z⟩
  · refine ⟨rfl, ?_⟩
    show CG n (ch1 w a, b) (ch1 w a', b')
    unfold ch1
    have e17 : a' 17 0 = a 17 0 := congrFun (h.1 17 (by omega)) 0
    rw [e17]
    exact CG_up (CG_up (CG_up h 12 w _) 13 w _) 15 w _
theorem g1_cg {n pl nw w : Nat} {q q' : P2} (h : CG n q q') : (g1 n pl nw w q').1 = (g1 n pl nw w q).1 ∧ CG n (g1 n pl nw w q).2 (g1 n pl nw w q').2 := by
  have e13 : q'.1 13 = q.1 13 := h.1 13 (by omega)
  have ew : wa q'.1 nw (q'.1 13 w + nI 1) = wa q.1 nw (q.1 13 w + nI 1) := by rw [wa_rows (h.1 12 (by omega)) e13, e13]
  have es : se q'.1 n (q'.1 13 w) = se q.1 n (q.1 13 w) := by rw [se_rows (h.1 0 (by omega)) (h.1 2 (by omega)), e13]
  have ez : q'.1 13 w + nI 1 = q.1 13 w + nI 1 := by rw [e13]
  unfold g1
  rw [ew, es, ez]
  by_cases c : 2 ≤ wa q.1 nw (q.1 13 w + nI 1)
  · rw [if_pos c, if_pos c]
    exact ⟨rfl, h⟩
  · rw [if_neg c, if_neg c]
    cases hse : se q.1 n (q.1 13 w) with
    | none => exact g2_cg h
    | some s =>
      obtain ⟨k1, k2⟩ := pcQ_cg h (fnd_lt hse).1
      show (if pcB s q' = true then _ else _ : Bool × P2).1 = (if pcB s q = true then _ else _ : Bool × P2).1 ∧ CG n (if pcB s q = true then _ else _ : Bool × P2).2 (if pcB s q' = true then _ else _ : Bool × P2).2
      have k1 : pcB s q' = pcB s q := k1
      rw [k1]
      split
      · exact g2_cg k2
      · exact ⟨rfl, k2⟩
theorem wl_cg {n pl nw w : Nat} : ∀ (m : Nat) (r r' : Bool × P2), r'.1 = r.1 → CG n r.2 r'.2 → (wl n pl nw w m r').1 = (wl n pl nw w m r).1 ∧ CG n (wl n pl nw w m r).2 (wl n pl nw w m r').2
  | 0, r, r', h1, h2 => ⟨h1, h2⟩
  | m + 1, r, r', h1, h2 => by
    simp only [wl]
    rw [h1]
    split
    · exact wl_cg m _ _ (g1_cg h2).1 (g1_cg h2).2
    · exact ⟨h1, h2⟩
/-- going leaves the other notes -/
theorem pcQ_kap {s r : Nat} {q : P2} (h : r ≠ 3) : (pcQ s q).2 r = q.2 r := by
  unfold pcQ
  split
  · exact up2_row _ _ _ _ h
  · rfl
theorem g2_kap {pl w r : Nat} {z : Int32} {q : P2} : (g2 pl w z q).2.2 r = q.2 r := by
  unfold g2
  split <;> rfl
theorem g1_kap {n pl nw w r : Nat} {q : P2} (h : r ≠ 3) : (g1 n pl nw w q).2.2 r = q.2 r := by
  unfold g1
  split
  · rfl
  · split
    · exact g2_kap
    · split
      · rw [g2_kap, pcQ_kap h]
      · exact pcQ_kap h
theorem wl_kap {n pl nw w r : Nat} (h : r ≠ 3) : ∀ (m : Nat) (x : Bool × P2), (wl n pl nw w m x).2.2 r = x.2.2 r
  | 0, x => rfl
  | m + 1, x => by
    simp only [wl]
    split
    · rw [wl_kap h m, g1_kap h]
    · rfl
/-- others stay where they are -/
theorem g1_oth {n pl nw w : Nat} {q : P2} {o : Nat} (ho : o ≠ w) : (g1 n pl nw w q).2.1 12 o = q.1 12 o ∧ (g1 n pl nw w q).2.1 13 o = q.1 13 o := by
  have k2 : ∀ (z : Int32) (q : P2), (g2 pl w z q).2.1 12 o = q.1 12 o ∧ (g2 pl w z q).2.1 13 o = q.1 13 o := by
    intro z q
    unfold g2
    split
    · refine ⟨?_, ?_⟩
      · show up2 q.1 13 w z 12 o = _
        rw [up2_row _ _ _ _ (by omega)]
      · show up2 q.1 13 w z 13 o = _
        rw [up2_at, if_neg (fun y => ho y.2)]
    · refine ⟨?_, ?_⟩
      · show ch1 w q.1 12 o = _
        unfold ch1
        rw [up2_row _ _ _ _ (by omega), up2_row _ _ _ _ (by omega), up2_at, if_neg (fun y => ho y.2)]
      · show ch1 w q.1 13 o = _
        unfold ch1
        rw [up2_row _ _ _ _ (by omega), up2_at, if_neg (fun y => ho y.2), up2_row _ _ _ _ (by omega)]
  unfold g1
  split
  · exact ⟨rfl, rfl⟩
  · split
    · exact k2 _ _
    · rename_i s _
      split
      · rw [(k2 _ _).1, (k2 _ _).2, pcQ_row (by omega) (by omega), pcQ_row (by omega) (by omega)]
        exact ⟨rfl, rfl⟩
      · show (pcQ s q).1 12 o = _ ∧ (pcQ s q).1 13 o = _
        rw [pcQ_row (by omega) (by omega), pcQ_row (by omega) (by omega)]
        exact ⟨rfl, rfl⟩
theorem wl_oth {n pl nw w o : Nat} (ho : o ≠ w) : ∀ (m : Nat) (x : Bool × P2), (wl n pl nw w m x).2.1 12 o = x.2.1 12 o ∧ (wl n pl nw w m x).2.1 13 o = x.2.1 13 o
  | 0, x => ⟨rfl, rfl⟩
  | m + 1, x => by
    simp only [wl]
    split
    · obtain ⟨h1, h2⟩ := wl_oth ho m (g1 n pl nw w x.2)
      rw [h1, h2]
      exact g1_oth ho
    · exact ⟨rfl, rfl⟩
/-- who of the rows S has not gone yet -/
def ng (S kc : Sg) (w : Nat) : Bool := decide (S 12 w = nI 1) && decide (kc 4 w = 0)
def RG (n nw : Nat) (S : Sg) (q : P2) (q' : P2) (wt : Nat → Int32) : Prop :=
  CG n q q' ∧ (∀ r, goR r → q.1 r = S r) ∧ (∀ w, w < nw → (wt w = 0 ↔ ng S q.2 w = true)) ∧
  (∀ w, w < nw → q.2 4 w = 0 → q.1 12 w = S 12 w ∧ q.1 13 w = S 13 w) ∧
  (∀ w, q'.1 14 w = if w < nw ∧ ng S q.2 w = true ∧ S 11 w = 0 then q.1 14 w + nI 1 else q.1 14 w)
def fgO (S : Sg) : Option Nat → Int32 × Int32
  | none => (-1, -1)
  | some j => (S 13 j, nI j)
theorem fg_mf {pl nw : Nat} {S sc kc : Sg} {wt ah : Nat → Int32} (hPB : PB pl nw S) (hpl : pl ≤ 200)
    (h1 : ∀ w, w < nw → (wt w = 0 ↔ ng S kc w = true)) (h2 : ∀ w, w < nw → kc 4 w = 0 → sc 12 w = S 12 w ∧ sc 13 w = S 13 w) (hah : ∀ w, w < nw → ah w = S 13 w) :
    ∀ k, k ≤ nw → fg sc kc k = fgO S (mf wt ah k) := by
  intro k
  induction k with
  | zero => intro _; rfl
  | succ k ih =>
    intro hk
    have hi := ih (by omega)
    have hk' : k < nw := by omega
    by_cases c : wt k = 0
    · have hng := (h1 k hk').mp c
      unfold ng at hng
      rw [Bool.and_eq_true] at hng
      have s12 := of_decide_eq_true hng.1
      have k4 := of_decide_eq_true hng.2
      obtain ⟨e12, e13⟩ := h2 k hk' k4
      obtain ⟨jz, hjz, ez⟩ := hPB k hk' s12
      cases hm : mf wt ah k with
      | none =>
        rw [mf_n c hm]
        rw [hm] at hi
        show (if _ then _ else _) = (S 13 k, nI k)
        rw [if_pos, e13]
        refine ⟨by rw [e12, s12], k4, ?_⟩
        rw [hi, e13, ez]
        show ¬ nI jz ≤ -1
        intro z
        rw [Int32.le_iff_toInt_le, nI_toInt (by omega)] at z
        have : ((-1 : Int32)).toInt = -1 := by decide
        omega
      | some j =>
        have hj : j < k := (mf_lt hm).1
        rw [hm] at hi
        by_cases d : ah k ≤ ah j
        · rw [mf_j hm d]
          show (if _ then _ else _) = fgO S (some j)
          rw [if_neg, hi]
          intro z
          refine z.2.2 ?_
          rw [hi, e13]
          show S 13 k ≤ S 13 j
          rw [← hah k hk', ← hah j (by omega)]
          exact d
        · rw [mf_k c hm d]
          show (if _ then _ else _) = (S 13 k, nI k)
          rw [if_pos, e13]
          refine ⟨by rw [e12, s12], k4, ?_⟩
          rw [hi, e13]
          show ¬ S 13 k ≤ S 13 j
          rw [← hah k hk', ← hah j (by omega)]
          exact d
    · rw [mf_0 c]
      show (if _ then _ else _) = _
      rw [if_neg]
      · exact hi
      · intro z
        refine c ((h1 k hk').mpr ?_)
        unfold ng
        rw [(h2 k hk' z.2.1).1] at z
        rw [decide_eq_true z.1, decide_eq_true z.2.1]
        rfl
theorem cnt_lt1 {p q : Nat → Bool} {n j : Nat} (hj : j < n) (hp : p j = true) (hq : q j = false) (h : ∀ k, k ≠ j → q k = p k) : cnt q n + 1 = cnt p n := by
  have key : ∀ m, (m ≤ j → cnt q m = cnt p m) ∧ (j < m → cnt q m + 1 = cnt p m) := by
    intro m
    induction m with
    | zero => exact ⟨fun _ => rfl, fun z => absurd z (Nat.not_lt_zero _)⟩
    | succ m ih =>
      refine ⟨fun z => ?_, fun z => ?_⟩
      · simp only [cnt]
        rw [ih.1 (by omega), h m (by omega)]
      · simp only [cnt]
        by_cases e : m = j
        · subst e
          rw [ih.1 (Nat.le_refl _), hp, hq]
          simp
        · have := ih.2 (by omega)
          rw [h m e]
          omega
  exact (key n).2 hj
theorem mf_none {wt ah : Nat → Int32} : ∀ {k : Nat}, mf wt ah k = none → ∀ w, w < k → ¬ wt w = 0
  | 0, _, w, hw => absurd hw (Nat.not_lt_zero _)
  | k + 1, h, w, hw => by
    by_cases c : wt k = 0
    · exfalso
      cases hm : mf wt ah k with
      | none => rw [mf_n c hm] at h; cases h
      | some j =>
        by_cases d : ah k ≤ ah j
        · rw [mf_j hm d] at h; cases h
        · rw [mf_k c hm d] at h; cases h
    · rw [mf_0 c] at h
      by_cases e : w = k
      · subst e; exact c
      · exact mf_none h w (by omega)
theorem ng_up {S kc : Sg} {j w : Nat} : ng S (up2 kc 4 j (nI 1)) w = (if w = j then false else ng S kc w) := by
  unfold ng
  rw [up2_at]
  by_cases h : w = j
  · rw [if_pos h, if_pos ⟨rfl, h⟩]
    simp
    intro _
    decide
  · rw [if_neg h, if_neg (fun z => h z.2)]
theorem ng_kap {S a b : Sg} (h : a 4 = b 4) (w : Nat) : ng S a w = ng S b w := by unfold ng; rw [h]
theorem RG_step {n pl nw j : Nat} {S : Sg} {q q' : P2} {wt ah : Nat → Int32} (hm : mf wt ah nw = some j) (h : RG n nw S q q' wt) :
    RG n nw S (wkF n pl nw j (q.1, up2 q.2 4 j (nI 1))) (wl n pl nw j (wkP j q'.1) (true, q')).2 (upd wt j (nI 1)) := by
  obtain ⟨h1, h2, h3, h4, h5⟩ := h
  obtain ⟨hj, hw⟩ := mf_lt hm
  have hng := (h3 j hj).mp hw
  have hng2 := hng
  unfold ng at hng2
  rw [Bool.and_eq_true] at hng2
  have s12 := of_decide_eq_true hng2.1
  have k4 := of_decide_eq_true hng2.2
  have e11 : q.1 11 = S 11 := h2 11 (by unfold goR; omega)
  have eP : wkP j q'.1 = wkP j q.1 := by unfold wkP; rw [h1.1 11 (by omega), h1.1 4 (by omega)]
  have r14 : (wk0 j q.1) 14 = fun w => if w = j ∧ S 11 j = 0 then q.1 14 w + nI 1 else q.1 14 w := by
    funext w
    unfold wk0
    rw [e11]
    by_cases c : S 11 j = 0
    · rw [if_pos c, up2_at]
      by_cases d : w = j
      · subst d
        rw [if_pos ⟨rfl, rfl⟩, if_pos ⟨rfl, c⟩]
      · rw [if_neg (fun z => d z.2), if_neg (fun z => d z.1)]
    · rw [if_neg c, if_neg (fun z => c z.2)]
  have wk0r : ∀ r, r ≠ 14 → wk0 j q.1 r = q.1 r := by
    intro r hr
    unfold wk0
    split
    · exact up2_row _ _ _ _ hr
    · rfl
  have hcg0 : CG n (wk0 j q.1, up2 q.2 4 j (nI 1)) q' := ⟨fun r hr => by
      show q'.1 r = wk0 j q.1 r
      rw [wk0r r hr]; exact h1.1 r hr, fun s hs => by
      show q'.2 3 s = up2 q.2 4 j (nI 1) 3 s
      rw [up2_row _ _ _ _ (by omega)]; exact h1.2 s hs⟩
  have hcg := wl_cg (pl := pl) (nw := nw) (w := j) (wkP j q.1) (true, (wk0 j q.1, up2 q.2 4 j (nI 1))) (true, q') rfl hcg0
  have hk4 : (wkF n pl nw j (q.1, up2 q.2 4 j (nI 1))).2 4 = up2 q.2 4 j (nI 1) 4 := wl_kap (by omega) _ _
  rw [eP]
  refine ⟨hcg.2, fun r hr => (wkF_row hr).trans (h2 r hr), fun w hw' => ?_, fun w hw' z => ?_, fun w => ?_⟩
  · rw [ng_kap hk4, ng_up]
    unfold upd
    by_cases e : w = j
    · rw [if_pos e, if_pos e]
      exact ⟨fun z => absurd z (by decide), fun z => absurd z (by decide)⟩
    · rw [if_neg e, if_neg e]
      exact h3 w hw'
  · rw [hk4, up2_at] at z
    by_cases e : w = j
    · rw [if_pos ⟨rfl, e⟩] at z
      exact absurd z (by decide)
    · rw [if_neg (fun y => e y.2)] at z
      obtain ⟨o1, o2⟩ := wl_oth (n := n) (pl := pl) (nw := nw) e (wkP j q.1) (true, (wk0 j q.1, up2 q.2 4 j (nI 1)))
      obtain ⟨g1, g2⟩ := h4 w hw' z
      have a12 : wk0 j q.1 12 = q.1 12 := wk0r 12 (by omega)
      have a13 : wk0 j q.1 13 = q.1 13 := wk0r 13 (by omega)
      exact ⟨o1.trans ((congrFun a12 w).trans g1), o2.trans ((congrFun a13 w).trans g2)⟩
  · rw [ng_kap hk4, ng_up]
    have c14 : (wkF n pl nw j (q.1, up2 q.2 4 j (nI 1))).1 14 = wk0 j q.1 14 := wl_rowK (by unfold goK; omega) _ _
    have m14 : (wl n pl nw j (wkP j q.1) (true, q')).2.1 14 = q'.1 14 := wl_rowK (by unfold goK; omega) _ _
    rw [c14, m14, r14, h5 w]
    show _ = if w < nw ∧ _ ∧ S 11 w = 0 then (if w = j ∧ S 11 j = 0 then q.1 14 w + nI 1 else q.1 14 w) + nI 1 else (if w = j ∧ S 11 j = 0 then q.1 14 w + nI 1 else q.1 14 w)
    by_cases e : w = j
    · subst e
      rw [if_pos rfl, if_neg (show ¬ (w < nw ∧ false = true ∧ S 11 w = 0) from fun z => absurd z.2.1 (by decide))]
      by_cases c : S 11 w = 0
      · rw [if_pos ⟨hj, hng, c⟩, if_pos ⟨rfl, c⟩]
      · rw [if_neg (fun z => c z.2.2), if_neg (fun z => c z.2)]
    · rw [if_neg e, if_neg (show ¬ (w = j ∧ S 11 j = 0) from fun z => e z.1)]
/-- the turns of both, side by side -/
theorem RG_go {n pl nw : Nat} {S : Sg} {ah : Nat → Int32} (hPB : PB pl nw S) (hpl : pl ≤ 200) (hnw : nw ≤ 20) (hah : ∀ w, w < nw → ah w = S 13 w) : ∀ (m : Nat) (q q' : P2) (wt : Nat → Int32), RG n nw S q q' wt → cnt (fun w => decide (wt w = 0)) nw ≤ m →
    (mgo n pl nw ah m q' wt).1.1 = (goL n pl nw m q).1
  | 0, q, q', wt, h, hc => by
    show q'.1 = q.1
    funext r
    by_cases hr : r = 14
    · subst hr
      funext w
      rw [h.2.2.2.2 w, if_neg]
      intro z
      have hw := (h.2.2.1 w z.1).mpr z.2.1
      have := cnt_lt1 (p := fun w => decide (wt w = 0)) (q := fun o => if o = w then false else decide (wt o = 0)) z.1 (decide_eq_true hw) (if_pos rfl) (fun k hk => if_neg hk)
      omega
    · exact h.1.1 r hr
  | m + 1, q, q', wt, h, hc => by
    have hfm := fg_mf hPB hpl h.2.2.1 h.2.2.2.1 hah nw (Nat.le_refl nw)
    cases hm : mf wt ah nw with
    | none =>
      rw [mgo_n hm]
      simp only [goL]
      rw [hfm, hm, if_pos (show (fgO S none).2 = -1 from rfl)]
      show q'.1 = q.1
      funext r
      by_cases hr : r = 14
      · subst hr
        funext w
        rw [h.2.2.2.2 w, if_neg]
        intro z
        exact mf_none hm w z.1 ((h.2.2.1 w z.1).mpr z.2.1)
      · exact h.1.1 r hr
    | some j =>
      obtain ⟨hj, hw⟩ := mf_lt hm
      rw [mgo_s hm]
      simp only [goL]
      have e2 : (fg q.1 q.2 nw).2 = nI j := by rw [hfm, hm]; rfl
      have hne : ¬ nI j = -1 := by
        intro z
        have h2 := nI_toInt (n := j) (by omega)
        rw [z] at h2
        have h3 : ((-1 : Int32)).toInt = -1 := by decide
        omega
      rw [e2, if_neg hne, nN_nI (by omega)]
      refine RG_go hPB hpl hnw hah m _ _ _ (RG_step hm h) ?_
      have := cnt_lt1 (p := fun w => decide (wt w = 0)) (q := fun w => decide (upd wt j (nI 1) w = 0)) hj (decide_eq_true hw) (by unfold upd; rw [if_pos rfl]; decide) (fun k hk => by unfold upd; rw [if_neg hk])
      omega
theorem slF_at {n : Nat} {q : P2} {r i : Nat} : slF n q r i = if r = 3 ∧ i < n then lt_ q.1 i 2 else q.2 r i := by
  unfold slF
  induction n with
  | zero => rw [if_neg (fun z => absurd z.2 (Nat.not_lt_zero _))]; rfl
  | succ n ih =>
    show up2 (foldN (sl1 q.1) n q.2) 3 n (lt_ q.1 n 2) r i = _
    rw [up2_at, ih]
    by_cases c : r = 3 ∧ i = n
    · rw [if_pos c, if_pos ⟨c.1, by omega⟩, c.2]
    · rw [if_neg c]
      by_cases d : r = 3 ∧ i < n
      · rw [if_pos d, if_pos ⟨d.1, by omega⟩]
      · rw [if_neg d, if_neg (fun z => d ⟨z.1, by have : i ≠ n := fun y => c ⟨z.1, y⟩; omega⟩)]
theorem hgF_at {nw : Nat} {κ : Sg} {r i : Nat} : hgF nw κ r i = if r = 4 ∧ i < nw then nI 0 else κ r i := by
  unfold hgF
  induction nw with
  | zero => rw [if_neg (fun z => absurd z.2 (Nat.not_lt_zero _))]; rfl
  | succ n ih =>
    show up2 (foldN hg1 n κ) 4 n (nI 0) r i = _
    rw [up2_at, ih]
    by_cases c : r = 4 ∧ i = n
    · rw [if_pos c, if_pos ⟨c.1, by omega⟩]
    · rw [if_neg c]
      by_cases d : r = 4 ∧ i < n
      · rw [if_pos d, if_pos ⟨d.1, by omega⟩]
      · rw [if_neg d, if_neg (fun z => d ⟨z.1, by have : i ≠ n := fun y => c ⟨z.1, y⟩; omega⟩)]
theorem dkS_at {τ : Sg} {k w : Nat} : dkS τ k 14 w = if w < k ∧ τ 12 w = nI 1 ∧ τ 11 w = 0 then τ 14 w + nI 1 else τ 14 w := by
  induction k with
  | zero => rw [if_neg (fun z => absurd z.1 (Nat.not_lt_zero _))]; rfl
  | succ k ih =>
    by_cases c : τ 12 k = nI 1 ∧ τ 11 k = 0
    · rw [dk_a c.1 c.2, up2_at]
      by_cases e : w = k
      · subst e
        rw [if_pos ⟨rfl, rfl⟩, if_pos ⟨Nat.lt_succ_self _, c⟩, ih, if_neg (fun z => absurd z.1 (Nat.lt_irrefl _))]
      · rw [if_neg (fun z => e z.2), ih]
        by_cases d : w < k ∧ τ 12 w = nI 1 ∧ τ 11 w = 0
        · rw [if_pos d, if_pos ⟨by omega, d.2⟩]
        · rw [if_neg d, if_neg (fun z => d ⟨by omega, z.2⟩)]
    · have : dkS τ (k + 1) = dkS τ k := if_neg c
      rw [this, ih]
      by_cases d : w < k ∧ τ 12 w = nI 1 ∧ τ 11 w = 0
      · rw [if_pos d, if_pos ⟨by omega, d.2⟩]
      · rw [if_neg d, if_neg (fun z => d ⟨by have : w ≠ k := fun y => c (by rw [← y]; exact z.2); omega, z.2⟩)]
theorem go_eq {n pl nw : Nat} {S κ η : Sg} (hPB : PB pl nw S) (hpl : pl ≤ 200) (hnw : nw ≤ 20) :
    (mgo n pl nw (wnE S η nw 4) nw (dkS S nw, k0 S) (wnE S η nw 3)).1.1 = (goF n pl nw (S, κ)).1 := by
  unfold goF
  have e4 : ∀ w, w < nw → wnE S η nw 4 w = S 13 w := fun w hw => by
    unfold wnE va_up cpk
    simp [hw]
  have e3 : ∀ w, w < nw → wnE S η nw 3 w = wtF S w := fun w hw => by
    unfold wnE va_up cpk
    simp [hw]
  have eh : ∀ w, w < nw → hgF nw (slF n (S, κ)) 4 w = nI 0 := fun w hw => by rw [hgF_at, if_pos ⟨rfl, hw⟩]
  have eng : ∀ w, w < nw → ng S (hgF nw (slF n (S, κ))) w = decide (S 12 w = nI 1) := fun w hw => by
    unfold ng
    rw [eh w hw, decide_eq_true (show nI 0 = 0 from rfl), Bool.and_true]
  refine RG_go hPB hpl hnw e4 nw _ _ _ ⟨⟨fun r hr => dkS_row hr, fun s hs => ?_⟩, fun _ _ => rfl, fun w hw => ?_, fun _ _ _ => ⟨rfl, rfl⟩, fun w => ?_⟩ (cnt_le _ _)
  · show lt_ S s 2 = hgF nw (slF n (S, κ)) 3 s
    rw [hgF_at, if_neg (fun z => absurd z.1 (by omega)), slF_at, if_pos ⟨rfl, hs⟩]
  · rw [e3 w hw]
    show _ ↔ ng S (hgF nw (slF n (S, κ))) w = true
    rw [eng w hw]
    unfold wtF
    by_cases c : S 12 w = nI 1
    · rw [if_pos c, decide_eq_true c]
      exact ⟨fun _ => rfl, fun _ => rfl⟩
    · rw [if_neg c, decide_eq_false c]
      exact ⟨fun z => absurd z (by decide), fun z => absurd z (by decide)⟩
  · show dkS S nw 14 w = if w < nw ∧ ng S (hgF nw (slF n (S, κ))) w = true ∧ S 11 w = 0 then S 14 w + nI 1 else S 14 w
    rw [dkS_at]
    by_cases c : w < nw
    · rw [eng w c]
      by_cases d : S 12 w = nI 1
      · rw [decide_eq_true d]
        by_cases e : S 11 w = 0
        · rw [if_pos ⟨c, d, e⟩, if_pos ⟨c, rfl, e⟩]
        · rw [if_neg (fun z => e z.2.2), if_neg (fun z => e z.2.2)]
      · rw [decide_eq_false d, if_neg (fun z => d z.2.1), if_neg (fun z => absurd z.2.1 (by decide))]
    · rw [if_neg (fun z => c z.1), if_neg (fun z => c z.1)]
/-- the model's step is the class's -/
theorem ms5_eq {n pl nw ns : Nat} {σ κ η : Sg} (hz : bz σ) (hwz : wz σ) (hPB : PB pl nw σ) (hSV : SV nw σ) (hpl : pl ≤ 200) (hnw : nw ≤ 20) (hns : ns ≤ 6) (hg : ∀ i, ¬ (i / 6 < nw ∧ i % 6 < ns) → η 0 i = 0) :
    ms5 n pl nw ns σ η = (tsF n pl nw ns (σ, κ)).1 := by
  have eA : ms1 nw σ η = (t1 nw (σ, κ)).1 := by
    show (leF nw (boF (windOf σ) nw (bdF (windOf σ) nw σ), η)).1 = (leF nw (boF (windOf σ) nw (bdF (windOf σ) nw σ), κ)).1
    have a1 : bz (boF (windOf σ) nw (bdF (windOf σ) nw σ)) := boF_bz (bdF_bz hz)
    have a2 : wz (boF (windOf σ) nw (bdF (windOf σ) nw σ)) := wz_row (bdF_wz hwz) (boF_row (by omega))
    rw [le_lg a1 a2, le_lg a1 a2]
  have hz1 : bz (ms1 nw σ η) := ms_bz hz
  have hSV1 : SV nw (ms1 nw σ η) := by
    unfold SV
    rw [ms1_row (by omega) (by omega), ms1_row (by omega) (by omega)]
    exact hSV
  have eB : ms2 nw ns σ η = (sgF nw ns (t1 nw (σ, κ))).1 := by
    unfold ms2
    have : sgF nw ns (t1 nw (σ, κ)) = sgF nw ns (ms1 nw σ η, (t1 nw (σ, κ)).2) := by rw [eA]
    rw [this]
    exact sg_eq hSV1 hz1 hnw hns hg
  have hPB2 : PB pl nw (ms2 nw ns σ η) := PB_rows (ms2_rowS (by omega) (by omega) (by omega)) (ms2_rowS (by omega) (by omega) (by omega)) hPB
  have eC : (mgF n pl nw ns σ η).1.1 = (t2 n pl nw ns (σ, κ)).1 := by
    unfold mgF me3
    rw [go_eq (κ := (sgF nw ns (t1 nw (σ, κ))).2) hPB2 hpl hnw, eB]
    rfl
  unfold ms5 tsF
  rw [eC]
