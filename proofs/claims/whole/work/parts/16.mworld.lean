/-! THE MODEL'S WORLD (wM): the same rows s; the route and the people lie in one row each (encR, encP); η: rows of notes (0 learns 1 lights 2 through 3 went 4 ahead) -/
def rid : Nat → Nat
  | 0 => 0
  | 1 => 1
  | 2 => 2
  | 3 => 8
  | _ => 9
def pid : Nat → Nat
  | 0 => 4
  | 1 => 10
  | 2 => 5
  | 3 => 11
  | 4 => 12
  | 5 => 13
  | 6 => 14
  | _ => 15
def encR (σ : Sg) : Nat → Int32 := fun j => σ (rid (j % 5)) (j / 5)
def encP (nw : Nat) (σ : Sg) : Nat → Int32 := fun j => if (j % 8 = 5 ∨ j % 8 = 7) ∧ nw ≤ j / 8 then 0 else σ (pid (j % 8)) (j / 8)
theorem encR_at {σ : Sg} {i k : Nat} (hk : k < 5) : encR σ (5 * i + k) = σ (rid k) i := by
  unfold encR
  rw [show (5 * i + k) % 5 = k by omega, show (5 * i + k) / 5 = i by omega]
theorem encP_at {nw : Nat} {σ : Sg} {i k : Nat} (hk : k < 8) (hi : i < nw) : encP nw σ (8 * i + k) = σ (pid k) i := by
  unfold encP
  rw [show (8 * i + k) % 8 = k by omega, show (8 * i + k) / 8 = i by omega, if_neg (fun z => by omega)]
theorem rid_inj {i j : Nat} (hi : i < 5) (hj : j < 5) (h : rid i = rid j) : i = j := by
  rcases (show i = 0 ∨ i = 1 ∨ i = 2 ∨ i = 3 ∨ i = 4 by omega) with rfl | rfl | rfl | rfl | rfl <;> rcases (show j = 0 ∨ j = 1 ∨ j = 2 ∨ j = 3 ∨ j = 4 by omega) with rfl | rfl | rfl | rfl | rfl <;> first | rfl | exact absurd h (by decide)
theorem pid_inj {i j : Nat} (hi : i < 8) (hj : j < 8) (h : pid i = pid j) : i = j := by
  rcases (show i = 0 ∨ i = 1 ∨ i = 2 ∨ i = 3 ∨ i = 4 ∨ i = 5 ∨ i = 6 ∨ i = 7 by omega) with rfl | rfl | rfl | rfl | rfl | rfl | rfl | rfl <;> rcases (show j = 0 ∨ j = 1 ∨ j = 2 ∨ j = 3 ∨ j = 4 ∨ j = 5 ∨ j = 6 ∨ j = 7 by omega) with rfl | rfl | rfl | rfl | rfl | rfl | rfl | rfl <;> first | rfl | exact absurd h (by decide)
theorem encR_up {σ : Sg} {i k : Nat} {x : Int32} (hk : k < 5) : upd (encR σ) (5 * i + k) x = encR (up2 σ (rid k) i x) := by
  funext j
  unfold upd encR
  rw [up2_at]
  by_cases h : j = 5 * i + k
  · subst h
    rw [if_pos rfl, show (5 * i + k) % 5 = k by omega, show (5 * i + k) / 5 = i by omega, if_pos ⟨rfl, rfl⟩]
  · rw [if_neg h, if_neg (fun q => h (by have := rid_inj (by omega) hk q.1; omega))]
theorem encP_up {nw : Nat} {σ : Sg} {i k : Nat} {x : Int32} (hk : k < 8) (hi : i < nw) : upd (encP nw σ) (8 * i + k) x = encP nw (up2 σ (pid k) i x) := by
  funext j
  unfold upd encP
  rw [up2_at]
  by_cases h : j = 8 * i + k
  · subst h
    rw [if_pos rfl, show (8 * i + k) % 8 = k by omega, show (8 * i + k) / 8 = i by omega, if_neg (fun z => by omega), if_pos ⟨rfl, rfl⟩]
  · have h2 : ¬ (pid (j % 8) = pid k ∧ j / 8 = i) := fun q => h (by have := pid_inj (by omega) hk q.1; omega)
    rw [if_neg h, if_neg h2]
theorem rid_ne {k r : Nat} (h : r ≠ 0 ∧ r ≠ 1 ∧ r ≠ 2 ∧ r ≠ 8 ∧ r ≠ 9) : r ≠ rid k := by
  unfold rid
  split <;> omega
theorem pid_ne {k r : Nat} (h : r ≠ 4 ∧ r ≠ 10 ∧ r ≠ 5 ∧ r ≠ 11 ∧ r ≠ 12 ∧ r ≠ 13 ∧ r ≠ 14 ∧ r ≠ 15) : r ≠ pid k := by
  unfold pid
  split <;> omega
theorem encR_row {σ : Sg} {r i : Nat} {x : Int32} (h : ∀ k, rid k ≠ r) : encR (up2 σ r i x) = encR σ := by
  funext j
  unfold encR
  rw [up2_row _ _ _ _ (h _)]
theorem encP_row {nw : Nat} {σ : Sg} {r i : Nat} {x : Int32} (h : ∀ k, pid k ≠ r) : encP nw (up2 σ r i x) = encP nw σ := by
  funext j
  unfold encP
  rw [up2_row _ _ _ _ (h _)]
def wM (cI cZ : ClassId) (a : Nat → Nat) (th : Int32) (n nw ns : Nat) (σ η : Sg) : va_W :=
  [(a 0, .inr (3, [.int th, .int (nI n), .ref (a 1), .ref (a 2), .ref (a 3), .int (nI nw), .ref (a 4), .int (nI ns), .ref (a 5), .ref (a 6), .ref (a 7), .ref (a 8), .ref (a 9), .ref (a 10), .ref (a 11), .ref (a 12)])),
   (a 1, .inl (cI, 50, .inl (encR σ))),
   (a 2, .inl (cI, 2, .inl (σ 7))),
   (a 3, .inl (cI, 10, .inl (σ 3))),
   (a 4, .inl (cI, 160, .inl (encP nw σ))),
   (a 5, .inl (cI, 6, .inl (σ 6))),
   (a 6, .inl (cI, 120, .inl (σ 16))),
   (a 7, .inl (cI, 1, .inl (σ 17))),
   (a 8, .inl (cI, 120, .inl (η 0))),
   (a 9, .inl (cZ, 20, .inl (η 1))),
   (a 10, .inl (cI, 10, .inl (η 2))),
   (a 11, .inl (cZ, 20, .inl (η 3))),
   (a 12, .inl (cI, 20, .inl (η 4)))]
theorem wM_adr {cI cZ : ClassId} {a : Nat → Nat} {th : Int32} {n nw ns : Nat} {σ η : Sg} : ∀ (k : Nat) (q : Nat × va_E), (wM cI cZ a th n nw ns σ η)[k]? = some q → k < 13 ∧ q.1 = a k
  | 0, q, h => by cases h; exact ⟨by decide, rfl⟩
  | 1, q, h => by cases h; exact ⟨by decide, rfl⟩
  | 2, q, h => by cases h; exact ⟨by decide, rfl⟩
  | 3, q, h => by cases h; exact ⟨by decide, rfl⟩
  | 4, q, h => by cases h; exact ⟨by decide, rfl⟩
  | 5, q, h => by cases h; exact ⟨by decide, rfl⟩
  | 6, q, h => by cases h; exact ⟨by decide, rfl⟩
  | 7, q, h => by cases h; exact ⟨by decide, rfl⟩
  | 8, q, h => by cases h; exact ⟨by decide, rfl⟩
  | 9, q, h => by cases h; exact ⟨by decide, rfl⟩
  | 10, q, h => by cases h; exact ⟨by decide, rfl⟩
  | 11, q, h => by cases h; exact ⟨by decide, rfl⟩
  | 12, q, h => by cases h; exact ⟨by decide, rfl⟩
  | k + 13, q, h => by exact absurd (List.getElem?_eq_some_iff.mp h).1 (by show ¬ k + 13 < 13; omega)
theorem okP.DM {A : Nat → Prop} {cI cZ : ClassId} {a : Nat → Nat} {th : Int32} {n nw ns : Nat} {σ η : Sg} (h : okP A a 13) : va_D A (wM cI cZ a th n nw ns σ η) := by
  refine ⟨fun i j p q hi hj hpq => ?_, fun k q hk => ?_⟩
  · obtain ⟨h1, h2⟩ := wM_adr i p hi
    obtain ⟨h3, h4⟩ := wM_adr j q hj
    exact h.1 i j h1 h3 (by rw [← h2, ← h4]; exact hpq)
  · obtain ⟨h1, h2⟩ := wM_adr k q hk
    rw [h2]
    exact h.2 k h1
theorem stM_7 {cI cZ : ClassId} {a : Nat → Nat} {th : Int32} {n nw ns : Nat} {σ η : Sg} {i : Nat} {x : Int32} : (wM cI cZ a th n nw ns σ η).set 2 (a 2, .inl (cI, 2, .inl (upd (σ 7) i x))) = wM cI cZ a th n nw ns (up2 σ 7 i x) η := by
  show _ = wM cI cZ a th n nw ns (up2 σ 7 i x) η
  unfold wM
  rw [encR_row (fun k h => rid_ne (k := k) (r := 7) (by decide) h.symm), encP_row (fun k h => pid_ne (k := k) (r := 7) (by decide) h.symm)]
  rfl
theorem stM_3 {cI cZ : ClassId} {a : Nat → Nat} {th : Int32} {n nw ns : Nat} {σ η : Sg} {i : Nat} {x : Int32} : (wM cI cZ a th n nw ns σ η).set 3 (a 3, .inl (cI, 10, .inl (upd (σ 3) i x))) = wM cI cZ a th n nw ns (up2 σ 3 i x) η := by
  show _ = wM cI cZ a th n nw ns (up2 σ 3 i x) η
  unfold wM
  rw [encR_row (fun k h => rid_ne (k := k) (r := 3) (by decide) h.symm), encP_row (fun k h => pid_ne (k := k) (r := 3) (by decide) h.symm)]
  rfl
theorem stM_6 {cI cZ : ClassId} {a : Nat → Nat} {th : Int32} {n nw ns : Nat} {σ η : Sg} {i : Nat} {x : Int32} : (wM cI cZ a th n nw ns σ η).set 5 (a 5, .inl (cI, 6, .inl (upd (σ 6) i x))) = wM cI cZ a th n nw ns (up2 σ 6 i x) η := by
  show _ = wM cI cZ a th n nw ns (up2 σ 6 i x) η
  unfold wM
  rw [encR_row (fun k h => rid_ne (k := k) (r := 6) (by decide) h.symm), encP_row (fun k h => pid_ne (k := k) (r := 6) (by decide) h.symm)]
  rfl
theorem stM_16 {cI cZ : ClassId} {a : Nat → Nat} {th : Int32} {n nw ns : Nat} {σ η : Sg} {i : Nat} {x : Int32} : (wM cI cZ a th n nw ns σ η).set 6 (a 6, .inl (cI, 120, .inl (upd (σ 16) i x))) = wM cI cZ a th n nw ns (up2 σ 16 i x) η := by
  show _ = wM cI cZ a th n nw ns (up2 σ 16 i x) η
  unfold wM
  rw [encR_row (fun k h => rid_ne (k := k) (r := 16) (by decide) h.symm), encP_row (fun k h => pid_ne (k := k) (r := 16) (by decide) h.symm)]
  rfl
theorem stM_17 {cI cZ : ClassId} {a : Nat → Nat} {th : Int32} {n nw ns : Nat} {σ η : Sg} {i : Nat} {x : Int32} : (wM cI cZ a th n nw ns σ η).set 7 (a 7, .inl (cI, 1, .inl (upd (σ 17) i x))) = wM cI cZ a th n nw ns (up2 σ 17 i x) η := by
  show _ = wM cI cZ a th n nw ns (up2 σ 17 i x) η
  unfold wM
  rw [encR_row (fun k h => rid_ne (k := k) (r := 17) (by decide) h.symm), encP_row (fun k h => pid_ne (k := k) (r := 17) (by decide) h.symm)]
  rfl
theorem stE_0 {cI cZ : ClassId} {a : Nat → Nat} {th : Int32} {n nw ns : Nat} {σ η : Sg} {i : Nat} {x : Int32} : (wM cI cZ a th n nw ns σ η).set 8 (a 8, .inl (cI, 120, .inl (upd (η 0) i x))) = wM cI cZ a th n nw ns σ (up2 η 0 i x) := rfl
theorem stE_1 {cI cZ : ClassId} {a : Nat → Nat} {th : Int32} {n nw ns : Nat} {σ η : Sg} {i : Nat} {x : Int32} : (wM cI cZ a th n nw ns σ η).set 9 (a 9, .inl (cZ, 20, .inl (upd (η 1) i x))) = wM cI cZ a th n nw ns σ (up2 η 1 i x) := rfl
theorem stE_2 {cI cZ : ClassId} {a : Nat → Nat} {th : Int32} {n nw ns : Nat} {σ η : Sg} {i : Nat} {x : Int32} : (wM cI cZ a th n nw ns σ η).set 10 (a 10, .inl (cI, 10, .inl (upd (η 2) i x))) = wM cI cZ a th n nw ns σ (up2 η 2 i x) := rfl
theorem stE_3 {cI cZ : ClassId} {a : Nat → Nat} {th : Int32} {n nw ns : Nat} {σ η : Sg} {i : Nat} {x : Int32} : (wM cI cZ a th n nw ns σ η).set 11 (a 11, .inl (cZ, 20, .inl (upd (η 3) i x))) = wM cI cZ a th n nw ns σ (up2 η 3 i x) := rfl
theorem stE_4 {cI cZ : ClassId} {a : Nat → Nat} {th : Int32} {n nw ns : Nat} {σ η : Sg} {i : Nat} {x : Int32} : (wM cI cZ a th n nw ns σ η).set 12 (a 12, .inl (cI, 20, .inl (upd (η 4) i x))) = wM cI cZ a th n nw ns σ (up2 η 4 i x) := rfl
theorem up2_e {σ : Sg} {r i : Nat} {x : Int32} {k : Nat} (h : k ≠ r) : σ k = up2 σ r i x k := (up2_row σ r i x h).symm
theorem stM_P {cI cZ : ClassId} {a : Nat → Nat} {th : Int32} {n nw ns : Nat} {σ η : Sg} {i k : Nat} {x : Int32} (hk : k < 8) (hi : i < nw) : (wM cI cZ a th n nw ns σ η).set 4 (a 4, .inl (cI, 160, .inl (upd (encP nw σ) (8 * i + k) x))) = wM cI cZ a th n nw ns (up2 σ (pid k) i x) η := by
  rw [encP_up hk hi]
  unfold wM
  have hR : encR (up2 σ (pid k) i x) = encR σ := encR_row (fun m => by unfold rid pid; split <;> split <;> omega)
  have h (r : Nat) (h : r ≠ 4 ∧ r ≠ 10 ∧ r ≠ 5 ∧ r ≠ 11 ∧ r ≠ 12 ∧ r ≠ 13 ∧ r ≠ 14 ∧ r ≠ 15) : up2 σ (pid k) i x r = σ r := up2_row _ _ _ _ (pid_ne h)
  rw [hR, h 7 (by decide), h 3 (by decide), h 6 (by decide), h 16 (by decide), h 17 (by decide)]
  rfl
theorem stM_R {cI cZ : ClassId} {a : Nat → Nat} {th : Int32} {n nw ns : Nat} {σ η : Sg} {i k : Nat} {x : Int32} (hk : k < 5) : (wM cI cZ a th n nw ns σ η).set 1 (a 1, .inl (cI, 50, .inl (upd (encR σ) (5 * i + k) x))) = wM cI cZ a th n nw ns (up2 σ (rid k) i x) η := by
  rw [encR_up hk]
  unfold wM
  have hR : encP nw (up2 σ (rid k) i x) = encP nw σ := encP_row (fun m => by unfold rid pid; split <;> split <;> omega)
  have h (r : Nat) (h : r ≠ 0 ∧ r ≠ 1 ∧ r ≠ 2 ∧ r ≠ 8 ∧ r ≠ 9) : up2 σ (rid k) i x r = σ r := up2_row _ _ _ _ (rid_ne h)
  rw [hR, h 7 (by decide), h 3 (by decide), h 6 (by decide), h 16 (by decide), h 17 (by decide)]
  rfl
theorem stM_th {cI cZ : ClassId} {a : Nat → Nat} {th : Int32} {n nw ns : Nat} {σ η : Sg} {x : Int32} : (wM cI cZ a th n nw ns σ η).set 0 (a 0, .inr (3, [.int x, .int (nI n), .ref (a 1), .ref (a 2), .ref (a 3), .int (nI nw), .ref (a 4), .int (nI ns), .ref (a 5), .ref (a 6), .ref (a 7), .ref (a 8), .ref (a 9), .ref (a 10), .ref (a 11), .ref (a 12)])) = wM cI cZ a x n nw ns σ η := rfl
