/-! THE ORDER OF GOING: sorted by insertion, it is the order in which the foremost goes -/
def pz (S : Sg) (w : Nat) : Nat := nN (S 13 w)
def btr (S : Sg) (x y : Nat) : Prop := pz S y < pz S x ∨ (pz S x = pz S y ∧ x < y)
/-- the first m of f: those of the first k who walk, in order -/
def OR (S : Sg) (k m : Nat) (f : Nat → Nat) : Prop := m ≤ k ∧ (∀ i, i < m → f i < k ∧ S 12 (f i) = nI 1) ∧ (∀ i j, i < j → j < m → btr S (f i) (f j)) ∧ ∀ w, w < k → S 12 w = nI 1 → ∃ i, i < m ∧ f i = w
def insF (f : Nat → Nat) (at0 k : Nat) : Nat → Nat := fun i => if i < at0 then f i else if i = at0 then k else f (i - 1)
theorem OR_0 {S : Sg} {f : Nat → Nat} : OR S 0 0 f := ⟨Nat.le_refl _, fun i h => absurd h (Nat.not_lt_zero _), fun i j _ h => absurd h (Nat.not_lt_zero _), fun w h => absurd h (Nat.not_lt_zero _)⟩
theorem OR_skip {S : Sg} {k m : Nat} {f : Nat → Nat} (h : OR S k m f) (hk : ¬ S 12 k = nI 1) : OR S (k + 1) m f := by
  obtain ⟨h1, h2, h3, h4⟩ := h
  refine ⟨by omega, fun i hi => ⟨Nat.lt_succ_of_lt (h2 i hi).1, (h2 i hi).2⟩, h3, fun w hw hs => ?_⟩
  by_cases e : w = k
  · subst e; exact absurd hs hk
  · exact h4 w (by omega) hs
theorem OR_ins {S : Sg} {k m at0 : Nat} {f : Nat → Nat} (h : OR S k m f) (hk : S 12 k = nI 1) (ha : at0 ≤ m) (hb : ∀ i, at0 ≤ i → i < m → pz S (f i) < pz S k) (hc : at0 = 0 ∨ pz S k ≤ pz S (f (at0 - 1))) : OR S (k + 1) (m + 1) (insF f at0 k) := by
  obtain ⟨h1, h2, h3, h4⟩ := h
  have lo : ∀ i, i < at0 → insF f at0 k i = f i := fun i hi => if_pos hi
  have mid : insF f at0 k at0 = k := by unfold insF; rw [if_neg (Nat.lt_irrefl _), if_pos rfl]
  have hi' : ∀ i, at0 < i → insF f at0 k i = f (i - 1) := fun i hi => by unfold insF; rw [if_neg (by omega), if_neg (by omega)]
  have low : ∀ i, i < at0 → btr S (f i) k := by
    intro i hi
    have hl := (h2 i (by omega)).1
    rcases hc with hc | hc
    · omega
    · have : pz S (f (at0 - 1)) ≤ pz S (f i) := by
        by_cases e : i = at0 - 1
        · rw [e]; exact Nat.le_refl _
        · rcases h3 i (at0 - 1) (by omega) (by omega) with z | z
          · exact Nat.le_of_lt z
          · exact Nat.le_of_eq z.1.symm
      rcases Nat.lt_or_ge (pz S k) (pz S (f i)) with z | z
      · exact Or.inl z
      · exact Or.inr ⟨by omega, hl⟩
  refine ⟨by omega, fun i hi => ?_, fun i j hij hj => ?_, fun w hw hs => ?_⟩
  · rcases Nat.lt_trichotomy i at0 with z | z | z
    · rw [lo i z]
      exact ⟨Nat.lt_succ_of_lt (h2 i (by omega)).1, (h2 i (by omega)).2⟩
    · rw [z, mid]
      exact ⟨Nat.lt_succ_self _, hk⟩
    · rw [hi' i z]
      exact ⟨Nat.lt_succ_of_lt (h2 (i - 1) (by omega)).1, (h2 (i - 1) (by omega)).2⟩
  · rcases Nat.lt_trichotomy j at0 with z | z | z
    · rw [lo i (by omega), lo j z]
      exact h3 i j hij (by omega)
    · rw [z, mid, lo i (by omega)]
      exact low i (by omega)
    · rw [hi' j z]
      rcases Nat.lt_trichotomy i at0 with y | y | y
      · rw [lo i y]
        exact h3 i (j - 1) (by omega) (by omega)
      · rw [y, mid]
        exact Or.inl (hb (j - 1) (by omega) (by omega))
      · rw [hi' i y]
        exact h3 (i - 1) (j - 1) (by omega) (by omega)
  · by_cases e : w = k
    · exact ⟨at0, by omega, by rw [mid, e]⟩
    · obtain ⟨i, hi, he⟩ := h4 w (by omega) hs
      rcases Nat.lt_or_ge i at0 with z | z
      · exact ⟨i, by omega, by rw [lo i z, he]⟩
      · exact ⟨i + 1, by omega, by rw [hi' (i + 1) (by omega), Nat.add_sub_cancel, he]⟩
/-- what stands in the row while one is put in its place -/
def RW (R : Nat → Int32) (f : Nat → Nat) (m at0 : Nat) : Prop := (∀ i, i < at0 → R i = nI (f i)) ∧ ∀ i, at0 < i → i ≤ m → R i = nI (f (i - 1))
theorem RW_0 {R : Nat → Int32} {f : Nat → Nat} {m : Nat} (h : ∀ i, i < m → R i = nI (f i)) : RW R f m m := ⟨h, fun i h1 h2 => by omega⟩
theorem RW_s {R : Nat → Int32} {f : Nat → Nat} {m at0 : Nat} (h : RW R f m (at0 + 1)) : RW (upd R (at0 + 1) (R at0)) f m at0 := by
  refine ⟨fun i hi => ?_, fun i h1 h2 => ?_⟩
  · unfold upd
    rw [if_neg (by omega)]
    exact h.1 i (by omega)
  · unfold upd
    by_cases e : i = at0 + 1
    · rw [if_pos e, e, Nat.add_sub_cancel]
      exact h.1 at0 (by omega)
    · rw [if_neg e]
      exact h.2 i (by omega) h2
theorem RW_e {R : Nat → Int32} {f : Nat → Nat} {m at0 k : Nat} (h : RW R f m at0) (ha : at0 ≤ m) : ∀ i, i < m + 1 → upd R at0 (nI k) i = nI (insF f at0 k i) := fun i hi => by
  unfold upd insF
  rcases Nat.lt_trichotomy i at0 with z | z | z
  · rw [if_neg (by omega), if_pos z]
    exact h.1 i z
  · rw [if_pos z, if_neg (by omega), if_pos z]
  · rw [if_neg (by omega), if_neg (by omega), if_neg (by omega)]
    exact h.2 i z (by omega)
/-- turns in the order of f -/
def goT (n pl nw : Nat) (f : Nat → Nat) : Nat → P2 → P2
  | 0, q => q
  | i + 1, q => (wl n pl nw (f i) (wkP (f i) (goT n pl nw f i q).1) (true, goT n pl nw f i q)).2
def goR' (n pl nw : Nat) (f : Nat → Nat) : Nat → Nat → P2 → P2
  | _, 0, q => q
  | i, d + 1, q => goR' n pl nw f (i + 1) d (wl n pl nw (f i) (wkP (f i) q.1) (true, q)).2
theorem goR'_s {n pl nw : Nat} {f : Nat → Nat} : ∀ (d i : Nat) (q : P2), goR' n pl nw f i (d + 1) q = (wl n pl nw (f (i + d)) (wkP (f (i + d)) (goR' n pl nw f i d q).1) (true, goR' n pl nw f i d q)).2
  | 0, i, q => rfl
  | d + 1, i, q => by
    show goR' n pl nw f (i + 1) (d + 1) _ = _
    rw [goR'_s d (i + 1)]
    rw [show i + 1 + d = i + (d + 1) by omega]
    rfl
theorem goT_R {n pl nw : Nat} {f : Nat → Nat} {q : P2} : ∀ m, goT n pl nw f m q = goR' n pl nw f 0 m q
  | 0 => rfl
  | m + 1 => by
    rw [goR'_s]
    show (wl n pl nw (f m) (wkP (f m) (goT n pl nw f m q).1) (true, goT n pl nw f m q)).2 = _
    rw [goT_R m, Nat.zero_add]
theorem mf_some {wt ah : Nat → Int32} : ∀ {k j : Nat}, mf wt ah k = some j → j < k ∧ wt j = 0 ∧ ∀ w, w < k → wt w = 0 → ah w ≤ ah j ∧ (w < j → ah w < ah j)
  | 0, j, h => by cases h
  | k + 1, j, h => by
    simp only [mf] at h
    by_cases c : wt k = 0 ∧ mlo ah (mf wt ah k) k = true
    · rw [if_pos c] at h
      cases h
      refine ⟨Nat.lt_succ_self _, c.1, fun w hw h0 => ?_⟩
      by_cases e : w = k
      · subst e
        exact ⟨Int32.le_refl _, fun z => absurd z (Nat.lt_irrefl _)⟩
      · cases hm : mf wt ah k with
        | none => exact absurd h0 (mf_none hm w (by omega))
        | some i =>
          obtain ⟨-, -, h3⟩ := mf_some hm
          have h4 := (h3 w (by omega) h0).1
          have h5 : ¬ ah k ≤ ah i := by
            have := c.2
            rw [hm] at this
            exact of_decide_eq_true this
          have h6 : ah w < ah k := Int32.lt_of_le_of_lt h4 (Int32.not_le.mp h5)
          exact ⟨Int32.le_of_lt h6, fun _ => h6⟩
    · rw [if_neg c] at h
      obtain ⟨h1, h2, h3⟩ := mf_some h
      refine ⟨Nat.lt_succ_of_lt h1, h2, fun w hw h0 => ?_⟩
      by_cases e : w = k
      · subst e
        refine ⟨Classical.byContradiction (fun z => c ⟨h0, by rw [h]; exact decide_eq_true z⟩), fun z => by omega⟩
      · exact h3 w (by omega) h0
theorem mgo_R {n pl nw m : Nat} {S : Sg} {f : Nat → Nat} {ah : Nat → Int32} (hOR : OR S nw m f) (hah : ∀ w, w < nw → S 12 w = nI 1 → ah w = nI (pz S w) ∧ pz S w < 1000) : ∀ (d i M : Nat) (q : P2) (wt : Nat → Int32), i + d = m → d ≤ M → (∀ w, w < nw → (wt w = 0 ↔ ∃ j, i ≤ j ∧ j < m ∧ f j = w)) → (mgo n pl nw ah M q wt).1 = goR' n pl nw f i d q := by
  obtain ⟨h1, h2, h3, h4⟩ := hOR
  intro d
  induction d with
  | zero =>
    intro i M q wt hi hM hw
    show _ = q
    cases M with
    | zero => rfl
    | succ M =>
      have : mf wt ah nw = none := by
        cases hm : mf wt ah nw with
        | none => rfl
        | some j =>
          obtain ⟨g1, g2, -⟩ := mf_some hm
          obtain ⟨x, hx1, hx2, -⟩ := (hw j g1).mp g2
          omega
      rw [mgo_n this]
  | succ d ih =>
    intro i M q wt hi hM hw
    cases M with
    | zero => omega
    | succ M =>
      have hfi := h2 i (by omega)
      have w0 : wt (f i) = 0 := (hw (f i) hfi.1).mpr ⟨i, Nat.le_refl _, by omega, rfl⟩
      have : mf wt ah nw = some (f i) := by
        cases hm : mf wt ah nw with
        | none => exact absurd w0 (mf_none hm (f i) hfi.1)
        | some j =>
          obtain ⟨g1, g2, g3⟩ := mf_some hm
          obtain ⟨x, hx1, hx2, hx3⟩ := (hw j g1).mp g2
          by_cases e : x = i
          · rw [← e, hx3]
          · exfalso
            obtain ⟨g4, g5⟩ := g3 (f i) hfi.1 w0
            have hfx := h2 x hx2
            obtain ⟨a1, a2⟩ := hah (f i) hfi.1 hfi.2
            obtain ⟨b1, b2⟩ := hah (f x) hfx.1 hfx.2
            rw [← hx3] at g4 g5
            rw [a1, b1, nI_leI (by omega) (by omega)] at g4
            rw [a1, b1, nI_ltI (by omega) (by omega)] at g5
            rcases h3 i x (by omega) hx2 with z | ⟨z1, z2⟩
            · omega
            · have := g5 z2
              omega
      rw [mgo_s this]
      show _ = goR' n pl nw f (i + 1) d _
      refine ih (i + 1) M _ _ (by omega) (by omega) (fun w hw' => ?_)
      unfold upd
      by_cases e : w = f i
      · rw [if_pos e]
        constructor
        · intro z; exact absurd z (by decide)
        · rintro ⟨j, j1, j2, j3⟩
          exfalso
          rcases h3 i j (by omega) j2 with z | ⟨-, z⟩
          · rw [j3, ← e] at z; exact absurd z (Nat.lt_irrefl _)
          · rw [j3, ← e] at z; exact absurd z (Nat.lt_irrefl _)
      · rw [if_neg e, hw w hw']
        constructor
        · rintro ⟨j, j1, j2, j3⟩
          refine ⟨j, ?_, j2, j3⟩
          by_cases y : j = i
          · subst y; exact absurd j3.symm e
          · omega
        · rintro ⟨j, j1, j2, j3⟩
          exact ⟨j, by omega, j2, j3⟩
/-- the simulation's turns are the class's -/
theorem goT_goF {n pl nw m : Nat} {S κ : Sg} {f : Nat → Nat} (hOR : OR S nw m f) (hPB : PB pl nw S) (hpl : pl ≤ 200) (hnw : nw ≤ 20) : (goT n pl nw f m (dkS S nw, k0 S)).1 = (goF n pl nw (S, κ)).1 := by
  rw [← go_eq (κ := κ) (η := S) hPB hpl hnw, goT_R]
  have h := mgo_R (n := n) (pl := pl) (ah := wnE S S nw 4) hOR (fun w hw hs => ?_) m 0 nw (dkS S nw, k0 S) (wnE S S nw 3) (Nat.zero_add _) hOR.1 (fun w hw => ?_)
  · rw [h]
  · obtain ⟨j, hj, e⟩ := hPB w hw hs
    have e4 : wnE S S nw 4 w = S 13 w := by
      unfold wnE va_up cpk
      simp [hw]
    have e5 : pz S w = j := by unfold pz; rw [e]; exact nN_nI (by omega)
    rw [e4, e, e5]
    exact ⟨rfl, by omega⟩
  · have e3 : wnE S S nw 3 w = wtF S w := by
      unfold wnE va_up cpk
      simp [hw]
    rw [e3]
    unfold wtF
    by_cases c : S 12 w = nI 1
    · rw [if_pos c]
      obtain ⟨i, hi, he⟩ := hOR.2.2.2 w hw c
      exact ⟨fun _ => ⟨i, Nat.zero_le _, hi, he⟩, fun _ => rfl⟩
    · rw [if_neg c]
      constructor
      · intro z; exact absurd z (by decide)
      · rintro ⟨i, -, hi, he⟩
        exact absurd (he ▸ (hOR.2.1 i hi).2) c
/-- what holds in the turns -/
def gT (n pl nw m : Nat) (S : Sg) (f : Nat → Nat) (i : Nat) (q : P2) : Prop := (∀ r, goK r → q.1 r = dkS S nw r) ∧ PB pl nw q.1 ∧ TH n S q.2 ∧ AT pl nw q.1 ∧ ∀ j, i ≤ j → j < m → q.1 12 (f j) = nI 1
theorem gT_0 {n pl nw m : Nat} {S : Sg} {f : Nat → Nat} (hOR : OR S nw m f) (hPB : PB pl nw S) (hAT : AT pl nw S) (hLT : LT n S) : gT n pl nw m S f 0 (dkS S nw, k0 S) :=
  ⟨fun _ _ => rfl, PB_rows (dkS_row (by omega)) (dkS_row (by omega)) hPB, TH_k0 hLT, AT_rows hAT (dkS_row (by omega)) (dkS_row (by omega)), fun j _ hj => by
    show dkS S nw 12 (f j) = nI 1
    rw [dkS_row (by omega)]
    exact (hOR.2.1 j hj).2⟩
theorem gT_s {n pl nw m i : Nat} {S : Sg} {f : Nat → Nat} {q : P2} (hpl : pl ≤ 200) (hOR : OR S nw m f) (hi : i < m) (h : gT n pl nw m S f i q) : gT n pl nw m S f (i + 1) (wl n pl nw (f i) (wkP (f i) q.1) (true, q)).2 := by
  obtain ⟨h1, h2, h3, h4, h5⟩ := h
  have hfi := hOR.2.1 i hi
  obtain ⟨k1, k2, k3⟩ := wl_keep (n := n) hpl hfi.1 (wkP (f i) q.1) true q.1 q.2 h2 h3 (fun _ => h5 i (Nat.le_refl _) hi)
  refine ⟨fun r hr => (wl_rowK hr _ _).trans (h1 r hr), k1, k2, wl_AT _ _ h4, fun j hj hj2 => ?_⟩
  refine (k3 (f j) (fun z => ?_)).1.trans (h5 j (by omega) hj2)
  rcases hOR.2.2.1 i j (by omega) hj2 with y | ⟨-, y⟩
  · rw [z] at y; exact absurd y (Nat.lt_irrefl _)
  · rw [z] at y; exact absurd y (Nat.lt_irrefl _)
theorem thE_thE {σ S E k k' : Sg} (h1 : σ 1 = S 1) (h7 : σ 7 = S 7) : thE σ (thE S E k) k' = thE S E k' := by
  funext r
  unfold thE va_up
  by_cases h : r = 2
  · rw [if_pos h, if_pos h, thr_rows h1 h7]
  · rw [if_neg h, if_neg h, if_neg h]
