/-! WORLDS: a parade with its setting (wP): s k i: row k at i (0 length 1 lets 2 first 3 wind 4 pace 5 voice 6 songLength 7 corner 8 passed 9 stopped 10 wick 11 burns 12 stage 13 place 14 dark 15 cameHome 16 known 17 the step), t: rows of notes (0 burnedBefore 1 knownBefore 2 loudest 3 stillLets 4 hasGone). -/
def up2 (σ : Nat → Nat → Int32) (k i : Nat) (x : Int32) : Nat → Nat → Int32 := va_up σ k (upd (σ k) i x)
theorem up2_at (σ : Nat → Nat → Int32) (k i : Nat) (x : Int32) (k' i' : Nat) : up2 σ k i x k' i' = if k' = k ∧ i' = i then x else σ k' i' := by
  unfold up2 va_up upd
  by_cases h : k' = k
  · subst h
    by_cases h2 : i' = i <;> simp [h2]
  · simp [h]
theorem up2_row (σ : Nat → Nat → Int32) (k i : Nat) (x : Int32) {k' : Nat} (h : k' ≠ k) : up2 σ k i x k' = σ k' := by
  unfold up2 va_up
  rw [if_neg h]
abbrev T4 (cI cZ cL cO : ClassId) : List (ClassId × FieldType) := [(cI, .int), (cZ, .boolean), (cL, tyWk), (cO, .array .int)]
def wP (cI cZ : ClassId) (a : Nat → Nat) (n pl nw ns : Nat) (σ κ : Nat → Nat → Int32) : va_W :=
  [(a 0, .inr (0, [.ref (a 16), .int (σ 17 0), .ref (a 1), .ref (a 2), .ref (a 3), .ref (a 4), .ref (a 5), .ref (a 6), .ref (a 7), .ref (a 8), .ref (a 9), .ref (a 10), .ref (a 11), .ref (a 12), .ref (a 13), .ref (a 14), .ref (a 15)])),
   (a 1, .inl (cI, 2, .inl (σ 7))),
   (a 2, .inl (cI, 10, .inl (σ 8))),
   (a 3, .inl (cI, 10, .inl (σ 9))),
   (a 4, .inl (cI, 20, .inl (σ 10))),
   (a 5, .inl (cZ, 20, .inl (σ 11))),
   (a 6, .inl (cI, 20, .inl (σ 12))),
   (a 7, .inl (cI, 20, .inl (σ 13))),
   (a 8, .inl (cI, 20, .inl (σ 14))),
   (a 9, .inl (cI, 20, .inl (σ 15))),
   (a 10, .inl (cI, 120, .inl (σ 16))),
   (a 11, .inl (cZ, 20, .inl (κ 0))),
   (a 12, .inl (cI, 120, .inl (κ 1))),
   (a 13, .inl (cI, 6, .inl (κ 2))),
   (a 14, .inl (cI, 10, .inl (κ 3))),
   (a 15, .inl (cZ, 20, .inl (κ 4))),
   (a 16, .inr (1, [.int (nI n), .int (nI pl), .ref (a 17), .ref (a 18), .ref (a 19), .ref (a 20), .int (nI nw), .ref (a 21), .ref (a 22), .int (nI ns), .ref (a 23)])),
   (a 17, .inl (cI, 10, .inl (σ 0))),
   (a 18, .inl (cI, 10, .inl (σ 1))),
   (a 19, .inl (cI, 10, .inl (σ 2))),
   (a 20, .inl (cI, 10, .inl (σ 3))),
   (a 21, .inl (cI, 20, .inl (σ 4))),
   (a 22, .inl (cI, 20, .inl (σ 5))),
   (a 23, .inl (cI, 6, .inl (σ 6)))]
theorem stP_7 {cI cZ : ClassId} {a : Nat → Nat} {n pl nw ns : Nat} {σ κ : Nat → Nat → Int32} {i : Nat} {x : Int32} : (wP cI cZ a n pl nw ns σ κ).set 1 (a 1, .inl (cI, 2, .inl (upd (σ 7) i x))) = wP cI cZ a n pl nw ns (up2 σ 7 i x) κ := rfl
theorem stP_8 {cI cZ : ClassId} {a : Nat → Nat} {n pl nw ns : Nat} {σ κ : Nat → Nat → Int32} {i : Nat} {x : Int32} : (wP cI cZ a n pl nw ns σ κ).set 2 (a 2, .inl (cI, 10, .inl (upd (σ 8) i x))) = wP cI cZ a n pl nw ns (up2 σ 8 i x) κ := rfl
theorem stP_9 {cI cZ : ClassId} {a : Nat → Nat} {n pl nw ns : Nat} {σ κ : Nat → Nat → Int32} {i : Nat} {x : Int32} : (wP cI cZ a n pl nw ns σ κ).set 3 (a 3, .inl (cI, 10, .inl (upd (σ 9) i x))) = wP cI cZ a n pl nw ns (up2 σ 9 i x) κ := rfl
theorem stP_10 {cI cZ : ClassId} {a : Nat → Nat} {n pl nw ns : Nat} {σ κ : Nat → Nat → Int32} {i : Nat} {x : Int32} : (wP cI cZ a n pl nw ns σ κ).set 4 (a 4, .inl (cI, 20, .inl (upd (σ 10) i x))) = wP cI cZ a n pl nw ns (up2 σ 10 i x) κ := rfl
theorem stP_11 {cI cZ : ClassId} {a : Nat → Nat} {n pl nw ns : Nat} {σ κ : Nat → Nat → Int32} {i : Nat} {x : Int32} : (wP cI cZ a n pl nw ns σ κ).set 5 (a 5, .inl (cZ, 20, .inl (upd (σ 11) i x))) = wP cI cZ a n pl nw ns (up2 σ 11 i x) κ := rfl
theorem stP_12 {cI cZ : ClassId} {a : Nat → Nat} {n pl nw ns : Nat} {σ κ : Nat → Nat → Int32} {i : Nat} {x : Int32} : (wP cI cZ a n pl nw ns σ κ).set 6 (a 6, .inl (cI, 20, .inl (upd (σ 12) i x))) = wP cI cZ a n pl nw ns (up2 σ 12 i x) κ := rfl
theorem stP_13 {cI cZ : ClassId} {a : Nat → Nat} {n pl nw ns : Nat} {σ κ : Nat → Nat → Int32} {i : Nat} {x : Int32} : (wP cI cZ a n pl nw ns σ κ).set 7 (a 7, .inl (cI, 20, .inl (upd (σ 13) i x))) = wP cI cZ a n pl nw ns (up2 σ 13 i x) κ := rfl
theorem stP_14 {cI cZ : ClassId} {a : Nat → Nat} {n pl nw ns : Nat} {σ κ : Nat → Nat → Int32} {i : Nat} {x : Int32} : (wP cI cZ a n pl nw ns σ κ).set 8 (a 8, .inl (cI, 20, .inl (upd (σ 14) i x))) = wP cI cZ a n pl nw ns (up2 σ 14 i x) κ := rfl
theorem stP_15 {cI cZ : ClassId} {a : Nat → Nat} {n pl nw ns : Nat} {σ κ : Nat → Nat → Int32} {i : Nat} {x : Int32} : (wP cI cZ a n pl nw ns σ κ).set 9 (a 9, .inl (cI, 20, .inl (upd (σ 15) i x))) = wP cI cZ a n pl nw ns (up2 σ 15 i x) κ := rfl
theorem stP_16 {cI cZ : ClassId} {a : Nat → Nat} {n pl nw ns : Nat} {σ κ : Nat → Nat → Int32} {i : Nat} {x : Int32} : (wP cI cZ a n pl nw ns σ κ).set 10 (a 10, .inl (cI, 120, .inl (upd (σ 16) i x))) = wP cI cZ a n pl nw ns (up2 σ 16 i x) κ := rfl
theorem stK_0 {cI cZ : ClassId} {a : Nat → Nat} {n pl nw ns : Nat} {σ κ : Nat → Nat → Int32} {i : Nat} {x : Int32} : (wP cI cZ a n pl nw ns σ κ).set 11 (a 11, .inl (cZ, 20, .inl (upd (κ 0) i x))) = wP cI cZ a n pl nw ns σ (up2 κ 0 i x) := rfl
theorem stK_1 {cI cZ : ClassId} {a : Nat → Nat} {n pl nw ns : Nat} {σ κ : Nat → Nat → Int32} {i : Nat} {x : Int32} : (wP cI cZ a n pl nw ns σ κ).set 12 (a 12, .inl (cI, 120, .inl (upd (κ 1) i x))) = wP cI cZ a n pl nw ns σ (up2 κ 1 i x) := rfl
theorem stK_2 {cI cZ : ClassId} {a : Nat → Nat} {n pl nw ns : Nat} {σ κ : Nat → Nat → Int32} {i : Nat} {x : Int32} : (wP cI cZ a n pl nw ns σ κ).set 13 (a 13, .inl (cI, 6, .inl (upd (κ 2) i x))) = wP cI cZ a n pl nw ns σ (up2 κ 2 i x) := rfl
theorem stK_3 {cI cZ : ClassId} {a : Nat → Nat} {n pl nw ns : Nat} {σ κ : Nat → Nat → Int32} {i : Nat} {x : Int32} : (wP cI cZ a n pl nw ns σ κ).set 14 (a 14, .inl (cI, 10, .inl (upd (κ 3) i x))) = wP cI cZ a n pl nw ns σ (up2 κ 3 i x) := rfl
theorem stK_4 {cI cZ : ClassId} {a : Nat → Nat} {n pl nw ns : Nat} {σ κ : Nat → Nat → Int32} {i : Nat} {x : Int32} : (wP cI cZ a n pl nw ns σ κ).set 15 (a 15, .inl (cZ, 20, .inl (upd (κ 4) i x))) = wP cI cZ a n pl nw ns σ (up2 κ 4 i x) := rfl
theorem stP_0 {cI cZ : ClassId} {a : Nat → Nat} {n pl nw ns : Nat} {σ κ : Nat → Nat → Int32} {i : Nat} {x : Int32} : (wP cI cZ a n pl nw ns σ κ).set 17 (a 17, .inl (cI, 10, .inl (upd (σ 0) i x))) = wP cI cZ a n pl nw ns (up2 σ 0 i x) κ := rfl
theorem stP_1 {cI cZ : ClassId} {a : Nat → Nat} {n pl nw ns : Nat} {σ κ : Nat → Nat → Int32} {i : Nat} {x : Int32} : (wP cI cZ a n pl nw ns σ κ).set 18 (a 18, .inl (cI, 10, .inl (upd (σ 1) i x))) = wP cI cZ a n pl nw ns (up2 σ 1 i x) κ := rfl
theorem stP_2 {cI cZ : ClassId} {a : Nat → Nat} {n pl nw ns : Nat} {σ κ : Nat → Nat → Int32} {i : Nat} {x : Int32} : (wP cI cZ a n pl nw ns σ κ).set 19 (a 19, .inl (cI, 10, .inl (upd (σ 2) i x))) = wP cI cZ a n pl nw ns (up2 σ 2 i x) κ := rfl
theorem stP_3 {cI cZ : ClassId} {a : Nat → Nat} {n pl nw ns : Nat} {σ κ : Nat → Nat → Int32} {i : Nat} {x : Int32} : (wP cI cZ a n pl nw ns σ κ).set 20 (a 20, .inl (cI, 10, .inl (upd (σ 3) i x))) = wP cI cZ a n pl nw ns (up2 σ 3 i x) κ := rfl
theorem stP_4 {cI cZ : ClassId} {a : Nat → Nat} {n pl nw ns : Nat} {σ κ : Nat → Nat → Int32} {i : Nat} {x : Int32} : (wP cI cZ a n pl nw ns σ κ).set 21 (a 21, .inl (cI, 20, .inl (upd (σ 4) i x))) = wP cI cZ a n pl nw ns (up2 σ 4 i x) κ := rfl
theorem stP_5 {cI cZ : ClassId} {a : Nat → Nat} {n pl nw ns : Nat} {σ κ : Nat → Nat → Int32} {i : Nat} {x : Int32} : (wP cI cZ a n pl nw ns σ κ).set 22 (a 22, .inl (cI, 20, .inl (upd (σ 5) i x))) = wP cI cZ a n pl nw ns (up2 σ 5 i x) κ := rfl
theorem stP_6 {cI cZ : ClassId} {a : Nat → Nat} {n pl nw ns : Nat} {σ κ : Nat → Nat → Int32} {i : Nat} {x : Int32} : (wP cI cZ a n pl nw ns σ κ).set 23 (a 23, .inl (cI, 6, .inl (upd (σ 6) i x))) = wP cI cZ a n pl nw ns (up2 σ 6 i x) κ := rfl
theorem stP_17 {cI cZ : ClassId} {a : Nat → Nat} {n pl nw ns : Nat} {σ κ : Nat → Nat → Int32} {x : Int32} : (wP cI cZ a n pl nw ns σ κ).set 0 (a 0, .inr (0, [.ref (a 16), .int x, .ref (a 1), .ref (a 2), .ref (a 3), .ref (a 4), .ref (a 5), .ref (a 6), .ref (a 7), .ref (a 8), .ref (a 9), .ref (a 10), .ref (a 11), .ref (a 12), .ref (a 13), .ref (a 14), .ref (a 15)])) = wP cI cZ a n pl nw ns (up2 σ 17 0 x) κ := rfl
theorem srw_P7 {cI cZ : ClassId} {a : Nat → Nat} {n pl nw ns : Nat} {σ κ : Nat → Nat → Int32} {f : Nat → Int32} : (wP cI cZ a n pl nw ns σ κ).set 1 (a 1, .inl (cI, 2, .inl f)) = wP cI cZ a n pl nw ns (va_up σ 7 f) κ := rfl
theorem srw_P8 {cI cZ : ClassId} {a : Nat → Nat} {n pl nw ns : Nat} {σ κ : Nat → Nat → Int32} {f : Nat → Int32} : (wP cI cZ a n pl nw ns σ κ).set 2 (a 2, .inl (cI, 10, .inl f)) = wP cI cZ a n pl nw ns (va_up σ 8 f) κ := rfl
theorem srw_P9 {cI cZ : ClassId} {a : Nat → Nat} {n pl nw ns : Nat} {σ κ : Nat → Nat → Int32} {f : Nat → Int32} : (wP cI cZ a n pl nw ns σ κ).set 3 (a 3, .inl (cI, 10, .inl f)) = wP cI cZ a n pl nw ns (va_up σ 9 f) κ := rfl
theorem srw_P10 {cI cZ : ClassId} {a : Nat → Nat} {n pl nw ns : Nat} {σ κ : Nat → Nat → Int32} {f : Nat → Int32} : (wP cI cZ a n pl nw ns σ κ).set 4 (a 4, .inl (cI, 20, .inl f)) = wP cI cZ a n pl nw ns (va_up σ 10 f) κ := rfl
theorem srw_P11 {cI cZ : ClassId} {a : Nat → Nat} {n pl nw ns : Nat} {σ κ : Nat → Nat → Int32} {f : Nat → Int32} : (wP cI cZ a n pl nw ns σ κ).set 5 (a 5, .inl (cZ, 20, .inl f)) = wP cI cZ a n pl nw ns (va_up σ 11 f) κ := rfl
theorem srw_P12 {cI cZ : ClassId} {a : Nat → Nat} {n pl nw ns : Nat} {σ κ : Nat → Nat → Int32} {f : Nat → Int32} : (wP cI cZ a n pl nw ns σ κ).set 6 (a 6, .inl (cI, 20, .inl f)) = wP cI cZ a n pl nw ns (va_up σ 12 f) κ := rfl
theorem srw_P13 {cI cZ : ClassId} {a : Nat → Nat} {n pl nw ns : Nat} {σ κ : Nat → Nat → Int32} {f : Nat → Int32} : (wP cI cZ a n pl nw ns σ κ).set 7 (a 7, .inl (cI, 20, .inl f)) = wP cI cZ a n pl nw ns (va_up σ 13 f) κ := rfl
theorem srw_P14 {cI cZ : ClassId} {a : Nat → Nat} {n pl nw ns : Nat} {σ κ : Nat → Nat → Int32} {f : Nat → Int32} : (wP cI cZ a n pl nw ns σ κ).set 8 (a 8, .inl (cI, 20, .inl f)) = wP cI cZ a n pl nw ns (va_up σ 14 f) κ := rfl
theorem srw_P15 {cI cZ : ClassId} {a : Nat → Nat} {n pl nw ns : Nat} {σ κ : Nat → Nat → Int32} {f : Nat → Int32} : (wP cI cZ a n pl nw ns σ κ).set 9 (a 9, .inl (cI, 20, .inl f)) = wP cI cZ a n pl nw ns (va_up σ 15 f) κ := rfl
theorem srw_P16 {cI cZ : ClassId} {a : Nat → Nat} {n pl nw ns : Nat} {σ κ : Nat → Nat → Int32} {f : Nat → Int32} : (wP cI cZ a n pl nw ns σ κ).set 10 (a 10, .inl (cI, 120, .inl f)) = wP cI cZ a n pl nw ns (va_up σ 16 f) κ := rfl
theorem srw_K0 {cI cZ : ClassId} {a : Nat → Nat} {n pl nw ns : Nat} {σ κ : Nat → Nat → Int32} {f : Nat → Int32} : (wP cI cZ a n pl nw ns σ κ).set 11 (a 11, .inl (cZ, 20, .inl f)) = wP cI cZ a n pl nw ns σ (va_up κ 0 f) := rfl
theorem srw_K1 {cI cZ : ClassId} {a : Nat → Nat} {n pl nw ns : Nat} {σ κ : Nat → Nat → Int32} {f : Nat → Int32} : (wP cI cZ a n pl nw ns σ κ).set 12 (a 12, .inl (cI, 120, .inl f)) = wP cI cZ a n pl nw ns σ (va_up κ 1 f) := rfl
theorem srw_K2 {cI cZ : ClassId} {a : Nat → Nat} {n pl nw ns : Nat} {σ κ : Nat → Nat → Int32} {f : Nat → Int32} : (wP cI cZ a n pl nw ns σ κ).set 13 (a 13, .inl (cI, 6, .inl f)) = wP cI cZ a n pl nw ns σ (va_up κ 2 f) := rfl
theorem srw_K3 {cI cZ : ClassId} {a : Nat → Nat} {n pl nw ns : Nat} {σ κ : Nat → Nat → Int32} {f : Nat → Int32} : (wP cI cZ a n pl nw ns σ κ).set 14 (a 14, .inl (cI, 10, .inl f)) = wP cI cZ a n pl nw ns σ (va_up κ 3 f) := rfl
theorem srw_K4 {cI cZ : ClassId} {a : Nat → Nat} {n pl nw ns : Nat} {σ κ : Nat → Nat → Int32} {f : Nat → Int32} : (wP cI cZ a n pl nw ns σ κ).set 15 (a 15, .inl (cZ, 20, .inl f)) = wP cI cZ a n pl nw ns σ (va_up κ 4 f) := rfl
def okP (A : Nat → Prop) (a : Nat → Nat) (N : Nat) : Prop := (∀ i j, i < N → j < N → a i = a j → i = j) ∧ ∀ i, i < N → A (a i)
theorem wP_adr {cI cZ : ClassId} {a : Nat → Nat} {n pl nw ns : Nat} {σ κ : Nat → Nat → Int32} : ∀ (k : Nat) (q : Nat × va_E), (wP cI cZ a n pl nw ns σ κ)[k]? = some q → k < 24 ∧ q.1 = a k
  | 0, q, h => by cases h; exact ⟨by decide, rfl⟩
  | 1, q, h => by cases h; exact ⟨by decide, rfl⟩
  | 2, q, h => by cases h; exact ⟨by decide, rfl⟩
  | 3, q, h => by cases h; exact ⟨by decide, rfl⟩
  | 4, q, h => by cases h; exact ⟨by decide, rfl⟩
  | 5, q, h => by cases h; exact ⟨by decide, rfl⟩
  | 6, q, h => by cases h; exact ⟨by decide, rfl⟩
  | 7, q, h => by cases h; exact ⟨by decide, rfl⟩
  | 8, q, h => by cases h; exact ⟨by decide, rfl⟩
  | 9, q, h => by cases h; exact ⟨by decide, rfl⟩
  | 10, q, h => by cases h; exact ⟨by decide, rfl⟩
  | 11, q, h => by cases h; exact ⟨by decide, rfl⟩
  | 12, q, h => by cases h; exact ⟨by decide, rfl⟩
  | 13, q, h => by cases h; exact ⟨by decide, rfl⟩
  | 14, q, h => by cases h; exact ⟨by decide, rfl⟩
  | 15, q, h => by cases h; exact ⟨by decide, rfl⟩
  | 16, q, h => by cases h; exact ⟨by decide, rfl⟩
  | 17, q, h => by cases h; exact ⟨by decide, rfl⟩
  | 18, q, h => by cases h; exact ⟨by decide, rfl⟩
  | 19, q, h => by cases h; exact ⟨by decide, rfl⟩
  | 20, q, h => by cases h; exact ⟨by decide, rfl⟩
  | 21, q, h => by cases h; exact ⟨by decide, rfl⟩
  | 22, q, h => by cases h; exact ⟨by decide, rfl⟩
  | 23, q, h => by cases h; exact ⟨by decide, rfl⟩
  | k + 24, q, h => by exact absurd (List.getElem?_eq_some_iff.mp h).1 (by show ¬ k + 24 < 24; omega)
theorem okP.D {A : Nat → Prop} {cI cZ : ClassId} {a : Nat → Nat} {n pl nw ns : Nat} {σ κ : Nat → Nat → Int32} (h : okP A a 24) : va_D A (wP cI cZ a n pl nw ns σ κ) := by
  refine ⟨fun i j p q hi hj hpq => ?_, fun k q hk => ?_⟩
  · obtain ⟨h1, h2⟩ := wP_adr i p hi
    obtain ⟨h3, h4⟩ := wP_adr j q hj
    exact h.1 i j h1 h3 (by rw [← h2, ← h4]; exact hpq)
  · obtain ⟨h1, h2⟩ := wP_adr k q hk
    rw [h2]
    exact h.2 k h1
theorem okP.ne {A : Nat → Prop} {a : Nat → Nat} {N i j : Nat} (h : okP A a N) (hi : i < N) (hj : j < N) (hij : i ≠ j) : a i ≠ a j := fun z => hij (h.1 i j hi hj z)
def adr (a : Nat → Nat) (N : Nat) : Nat → Prop := fun q => ∃ k, k < N ∧ q = a k
def zI (b : Bool) : Int32 := if b then nI 1 else nI 0
theorem zI_t : zI true = nI 1 := rfl
theorem zI_f : zI false = nI 0 := rfl
theorem zI_n (b : Bool) : narrow .boolean (.int (zI b)) = .int (zI b) := by cases b <;> rfl
theorem zI_v (b : Bool) : vp_nar .boolean (zI b) = zI b := by cases b <;> rfl
theorem zI_0 {b : Bool} : zI b = 0 ↔ b = false := by cases b <;> decide
theorem nI_inc (k m : Nat) : nI k + Int32.ofInt (m : Int) = nI (k + m) := nI_add k m
theorem nI_0' : (nI 0) = 0 := rfl
/-- how many of the first n -/
def cnt (p : Nat → Bool) : Nat → Nat
  | 0 => 0
  | k + 1 => cnt p k + (if p k then 1 else 0)
theorem cnt_le (p : Nat → Bool) (k : Nat) : cnt p k ≤ k := by
  induction k with
  | zero => exact Nat.le_refl 0
  | succ k ih =>
    simp only [cnt]
    split <;> omega
theorem cnt_t {p : Nat → Bool} {k : Nat} (h : p k = true) : nI (cnt p k + 1) = nI (cnt p (k + 1)) := by simp only [cnt, h, if_true]
theorem cnt_f {p : Nat → Bool} {k : Nat} (h : p k = false) : nI (cnt p k) = nI (cnt p (k + 1)) := by simp [cnt, h]
theorem nI_dec1 (k : Nat) : nI (k + 1) + Int32.ofInt (-1) = nI k := by
  rw [nI_succ, Int32.add_assoc]
  show nI k + (1 + Int32.ofInt (-1)) = nI k
  rw [show (1 : Int32) + Int32.ofInt (-1) = 0 from by decide, Int32.add_zero]
section LWZ
variable {p : Program} {l : Launch} {e : Env} {R : Room} {s : State} {m : MethodId} {args : Array Value} {below : List Frame} {meth : Method} {c : Code} {H : Heap} {locs : List Loc} {cells slots : Nat} {Q : State → Prop}
variable {cc : ByteArray} {pc : Nat} {ls : Array Slot} {rest : List Value}
theorem li_zeq (hx : p.tables.exec = Jvm.exec) (hb : c.code = cc) {b : Bool} {off : Int} {tgt : Nat} (hdg : decode cc pc = .ok (.ifCond .eq off, 3)) (ht : (pc : Int) + off = (tgt : Int))
    (kt : b = false → W p l e R s m args below meth c H locs cells slots Q (F0 m tgt ls rest)) (kf : b = true → W p l e R s m args below meth c H locs cells slots Q (F0 m (pc + 3) ls rest)) : W p l e R s m args below meth c H locs cells slots Q (F0 m pc ls (.int (zI b) :: rest)) :=
  lv_if_eq hx hb hdg ht (fun h => kt (zI_0.mp h)) (fun h => kf (by cases b; exact absurd rfl h; rfl))
theorem li_zne (hx : p.tables.exec = Jvm.exec) (hb : c.code = cc) {b : Bool} {off : Int} {tgt : Nat} (hdg : decode cc pc = .ok (.ifCond .ne off, 3)) (ht : (pc : Int) + off = (tgt : Int))
    (kt : b = true → W p l e R s m args below meth c H locs cells slots Q (F0 m tgt ls rest)) (kf : b = false → W p l e R s m args below meth c H locs cells slots Q (F0 m (pc + 3) ls rest)) : W p l e R s m args below meth c H locs cells slots Q (F0 m pc ls (.int (zI b) :: rest)) :=
  lv_if_ne hx hb hdg ht (fun h => kt (by cases b; exact absurd rfl h; rfl)) (fun h => kf (zI_0.mp h))
theorem nI_z {i : Nat} (hi : i < 2 ^ 31) : nI i = 0 ↔ i = 0 := nI_eq hi (by decide)
theorem li_eq0 (hx : p.tables.exec = Jvm.exec) (hb : c.code = cc) {i : Nat} {off : Int} {tgt : Nat} (hdg : decode cc pc = .ok (.ifCond .eq off, 3)) (ht : (pc : Int) + off = (tgt : Int)) (hi : i < 2 ^ 31)
    (kt : i = 0 → W p l e R s m args below meth c H locs cells slots Q (F0 m tgt ls rest)) (kf : i ≠ 0 → W p l e R s m args below meth c H locs cells slots Q (F0 m (pc + 3) ls rest)) : W p l e R s m args below meth c H locs cells slots Q (F0 m pc ls (.int (nI i) :: rest)) :=
  lv_if_eq hx hb hdg ht (fun h => kt ((nI_z hi).mp h)) (fun h => kf (fun q => h ((nI_z hi).mpr q)))
theorem li_ne0 (hx : p.tables.exec = Jvm.exec) (hb : c.code = cc) {i : Nat} {off : Int} {tgt : Nat} (hdg : decode cc pc = .ok (.ifCond .ne off, 3)) (ht : (pc : Int) + off = (tgt : Int)) (hi : i < 2 ^ 31)
    (kt : i ≠ 0 → W p l e R s m args below meth c H locs cells slots Q (F0 m tgt ls rest)) (kf : i = 0 → W p l e R s m args below meth c H locs cells slots Q (F0 m (pc + 3) ls rest)) : W p l e R s m args below meth c H locs cells slots Q (F0 m pc ls (.int (nI i) :: rest)) :=
  lv_if_ne hx hb hdg ht (fun h => kt (fun q => h ((nI_z hi).mpr q))) (fun h => kf ((nI_z hi).mp h))
theorem li_le0 (hx : p.tables.exec = Jvm.exec) (hb : c.code = cc) {i : Nat} {off : Int} {tgt : Nat} (hdg : decode cc pc = .ok (.ifCond .le off, 3)) (ht : (pc : Int) + off = (tgt : Int)) (hi : i < 2 ^ 31)
    (kt : i = 0 → W p l e R s m args below meth c H locs cells slots Q (F0 m tgt ls rest)) (kf : 0 < i → W p l e R s m args below meth c H locs cells slots Q (F0 m (pc + 3) ls rest)) : W p l e R s m args below meth c H locs cells slots Q (F0 m pc ls (.int (nI i) :: rest)) :=
  lv_if_le hx hb hdg ht (fun h => kt (by have := (nI_leI hi (b := 0) (by decide)).mp h; omega)) (fun h => kf (Nat.lt_of_not_le (fun q => h ((nI_leI hi (b := 0) (by decide)).mpr q))))
theorem li_gt0 (hx : p.tables.exec = Jvm.exec) (hb : c.code = cc) {i : Nat} {off : Int} {tgt : Nat} (hdg : decode cc pc = .ok (.ifCond .gt off, 3)) (ht : (pc : Int) + off = (tgt : Int)) (hi : i < 2 ^ 31)
    (kt : 0 < i → W p l e R s m args below meth c H locs cells slots Q (F0 m tgt ls rest)) (kf : i = 0 → W p l e R s m args below meth c H locs cells slots Q (F0 m (pc + 3) ls rest)) : W p l e R s m args below meth c H locs cells slots Q (F0 m pc ls (.int (nI i) :: rest)) :=
  lv_if_gt hx hb hdg ht (fun h => kt ((nI_ltI (a := 0) (by decide) hi).mp h)) (fun h => kf (by rcases Nat.eq_zero_or_pos i with q | q; exact q; exact absurd ((nI_ltI (a := 0) (by decide) hi).mpr q) h))
theorem li_lt0 (hx : p.tables.exec = Jvm.exec) (hb : c.code = cc) {i : Nat} {off : Int} {tgt : Nat} (hdg : decode cc pc = .ok (.ifCond .lt off, 3)) (ht : (pc : Int) + off = (tgt : Int)) (hi : i < 2 ^ 31)
    (kt : False → W p l e R s m args below meth c H locs cells slots Q (F0 m tgt ls rest)) (kf : True → W p l e R s m args below meth c H locs cells slots Q (F0 m (pc + 3) ls rest)) : W p l e R s m args below meth c H locs cells slots Q (F0 m pc ls (.int (nI i) :: rest)) :=
  lv_if_lt hx hb hdg ht (fun h => kt (nI_pos hi h)) (fun _ => kf trivial)
theorem li_ge0 (hx : p.tables.exec = Jvm.exec) (hb : c.code = cc) {i : Nat} {off : Int} {tgt : Nat} (hdg : decode cc pc = .ok (.ifCond .ge off, 3)) (ht : (pc : Int) + off = (tgt : Int)) (hi : i < 2 ^ 31)
    (kt : True → W p l e R s m args below meth c H locs cells slots Q (F0 m tgt ls rest)) (kf : False → W p l e R s m args below meth c H locs cells slots Q (F0 m (pc + 3) ls rest)) : W p l e R s m args below meth c H locs cells slots Q (F0 m pc ls (.int (nI i) :: rest)) :=
  lv_if_ge hx hb hdg ht (fun _ => kt trivial) (fun h => kf (h (nI_pos' hi)))
end LWZ
theorem lv_re {ls : Array Slot} {nL : Nat} {l : List (Nat × Value)} (h : lv_has ls nL l) (k : Nat) {i : Nat} {x y : Int32} (hk : l[k]? = some (i, .int x)) (e : x = y) : lv_has ls nL (l.set k (i, .int y)) := by
  subst e
  refine ⟨h.1, h.2.1, fun q hq => h.2.2 q ?_⟩
  rcases List.mem_or_eq_of_mem_set hq with h1 | h1
  · exact h1
  · rw [h1]; exact List.mem_of_getElem? hk
