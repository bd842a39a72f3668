/-! THE CLASS'S WORLD (wX): the parade now with its setting (0 to 23), the one ahead (24 to 39), the object (40) -/
def wA (cI cZ : ClassId) (a : Nat → Nat) (σ κ : Sg) : va_W :=
  [(a 24, .inr (0, [.ref (a 16), .int (σ 17 0), .ref (a 25), .ref (a 26), .ref (a 27), .ref (a 28), .ref (a 29), .ref (a 30), .ref (a 31), .ref (a 32), .ref (a 33), .ref (a 34), .ref (a 35), .ref (a 36), .ref (a 37), .ref (a 38), .ref (a 39)])),
   (a 25, .inl (cI, 2, .inl (σ 7))),
   (a 26, .inl (cI, 10, .inl (σ 8))),
   (a 27, .inl (cI, 10, .inl (σ 9))),
   (a 28, .inl (cI, 20, .inl (σ 10))),
   (a 29, .inl (cZ, 20, .inl (σ 11))),
   (a 30, .inl (cI, 20, .inl (σ 12))),
   (a 31, .inl (cI, 20, .inl (σ 13))),
   (a 32, .inl (cI, 20, .inl (σ 14))),
   (a 33, .inl (cI, 20, .inl (σ 15))),
   (a 34, .inl (cI, 120, .inl (σ 16))),
   (a 35, .inl (cZ, 20, .inl (κ 0))),
   (a 36, .inl (cI, 120, .inl (κ 1))),
   (a 37, .inl (cI, 6, .inl (κ 2))),
   (a 38, .inl (cI, 10, .inl (κ 3))),
   (a 39, .inl (cZ, 20, .inl (κ 4)))]
def wO (a : Nat → Nat) : va_W := [(a 40, .inr (2, [.ref (a 16), .ref (a 0), .ref (a 24)]))]
def wX (cI cZ : ClassId) (a : Nat → Nat) (n pl nw ns : Nat) (σ κ σ' κ' : Sg) : va_W := wP cI cZ a n pl nw ns σ κ ++ (wA cI cZ a σ' κ' ++ wO a)
def ah (a : Nat → Nat) : Nat → Nat := fun i => if i < 16 then a (24 + i) else a i
def i24 : List Nat := [0, 1, 2, 3, 4, 5, 6, 7, 8, 9, 10, 11, 12, 13, 14, 15, 16, 17, 18, 19, 20, 21, 22, 23]
def j24 : List Nat := [24, 25, 26, 27, 28, 29, 30, 31, 32, 33, 34, 35, 36, 37, 38, 39, 16, 17, 18, 19, 20, 21, 22, 23]
section LWX
variable {D : va_G} {H H1 : Heap} {A : Nat → Prop} {cI cZ : ClassId} {a : Nat → Nat} {n pl nw ns n' pl' nw' ns' : Nat} {σ κ σ' κ' σ'' κ'' : Sg}
theorem wA_adr : ∀ (k : Nat) (q : Nat × va_E), (wA cI cZ a σ κ)[k]? = some q → k < 16 ∧ q.1 = a (24 + k)
  | 0, q, h => by cases h; exact ⟨by decide, rfl⟩
  | 1, q, h => by cases h; exact ⟨by decide, rfl⟩
  | 2, q, h => by cases h; exact ⟨by decide, rfl⟩
  | 3, q, h => by cases h; exact ⟨by decide, rfl⟩
  | 4, q, h => by cases h; exact ⟨by decide, rfl⟩
  | 5, q, h => by cases h; exact ⟨by decide, rfl⟩
  | 6, q, h => by cases h; exact ⟨by decide, rfl⟩
  | 7, q, h => by cases h; exact ⟨by decide, rfl⟩
  | 8, q, h => by cases h; exact ⟨by decide, rfl⟩
  | 9, q, h => by cases h; exact ⟨by decide, rfl⟩
  | 10, q, h => by cases h; exact ⟨by decide, rfl⟩
  | 11, q, h => by cases h; exact ⟨by decide, rfl⟩
  | 12, q, h => by cases h; exact ⟨by decide, rfl⟩
  | 13, q, h => by cases h; exact ⟨by decide, rfl⟩
  | 14, q, h => by cases h; exact ⟨by decide, rfl⟩
  | 15, q, h => by cases h; exact ⟨by decide, rfl⟩
  | k + 16, q, h => by exact absurd (List.getElem?_eq_some_iff.mp h).1 (by show ¬ k + 16 < 16; omega)
theorem wX_adr (k : Nat) (q : Nat × va_E) (h : (wX cI cZ a n pl nw ns σ κ σ' κ')[k]? = some q) : k < 41 ∧ q.1 = a k := by
  unfold wX at h
  have h1 : (wP cI cZ a n pl nw ns σ κ).length = 24 := rfl
  have h2 : (wA cI cZ a σ' κ').length = 16 := rfl
  by_cases c : k < 24
  · rw [List.getElem?_append_left (by rw [h1]; exact c)] at h
    exact ⟨by omega, (wP_adr k q h).2⟩
  · rw [List.getElem?_append_right (by rw [h1]; omega), h1] at h
    by_cases d : k - 24 < 16
    · rw [List.getElem?_append_left (by rw [h2]; exact d)] at h
      obtain ⟨e1, e2⟩ := wA_adr _ q h
      exact ⟨by omega, by rw [e2]; congr 1; omega⟩
    · rw [List.getElem?_append_right (by rw [h2]; omega), h2] at h
      have hz : k - 24 - 16 < 1 := (List.getElem?_eq_some_iff.mp h).1
      have e : k = 40 := by omega
      subst e
      cases h
      exact ⟨by decide, rfl⟩
theorem okP.DX41 (h : okP A a 41) : va_D A (wX cI cZ a n pl nw ns σ κ σ' κ') := by
  refine ⟨fun i j p q hi hj hpq => ?_, fun k q hk => ?_⟩
  · obtain ⟨h1, h2⟩ := wX_adr i p hi
    obtain ⟨h3, h4⟩ := wX_adr j q hj
    exact h.1 i j h1 h3 (by rw [← h2, ← h4]; exact hpq)
  · obtain ⟨h1, h2⟩ := wX_adr k q hk
    rw [h2]
    exact h.2 k h1
theorem ah_ok (h : okP A a 41) : okP A (ah a) 24 := by
  unfold ah
  refine ⟨fun i j hi hj e => ?_, fun k hk => ?_⟩
  · dsimp only at e
    by_cases c : i < 16
    · by_cases d : j < 16
      · rw [if_pos c, if_pos d] at e
        have := h.1 _ _ (by omega) (by omega) e
        omega
      · rw [if_pos c, if_neg d] at e
        have := h.1 _ _ (by omega) (by omega) e
        omega
    · by_cases d : j < 16
      · rw [if_neg c, if_pos d] at e
        have := h.1 _ _ (by omega) (by omega) e
        omega
      · rw [if_neg c, if_neg d] at e
        exact h.1 _ _ (by omega) (by omega) e
  · dsimp only
    split
    · exact h.2 _ (by omega)
    · exact h.2 _ (by omega)
/-- a call on the parade now, its setting with it, leaves the rest -/
theorem jnX (hA : okP A a 41) (hP : va_P D vwCl (wX cI cZ a n pl nw ns σ κ σ' κ') H) (hP1 : va_P D vwCl (wP cI cZ a n' pl' nw' ns' σ'' κ'') H1) (hk : ∀ q : Nat, q < H.size → ¬ A_ a 24 q → H1[q]? = H[q]?) : va_P D vwCl (wX cI cZ a n' pl' nw' ns' σ'' κ'' σ' κ') H1 := by
  refine va_P.app hP1 (fun k q hq => ?_)
  have h1 : (wP cI cZ a n pl nw ns σ κ).length = 24 := rfl
  have h0 : (wX cI cZ a n pl nw ns σ κ σ' κ')[24 + k]? = some q := by
    unfold wX
    rw [List.getElem?_append_right (by rw [h1]; omega), h1, show 24 + k - 24 = k by omega]
    exact hq
  obtain ⟨e1, e2⟩ := wX_adr _ q h0
  refine (hP _ q h0).kept (hk q.1 (hP _ q h0).lt (fun z => ?_))
  obtain ⟨j, hj, e⟩ := z
  have := hA.1 (24 + k) j e1 (by omega) (by rw [← e2]; exact e)
  omega
/-- the cells that a call on the parade ahead leaves -/
def wR (cI cZ : ClassId) (a : Nat → Nat) (n pl nw ns : Nat) (σ κ : Sg) : va_W := (wP cI cZ a n pl nw ns σ κ).take 16 ++ wO a
def k16 : List Nat := [0, 1, 2, 3, 4, 5, 6, 7, 8, 9, 10, 11, 12, 13, 14, 15]
theorem jnY (hA : okP A a 41) (hr : ∀ r, r < 7 → σ'' r = σ r) (hP : va_P D vwCl (wX cI cZ a n pl nw ns σ κ σ' κ') H) (hP1 : va_P D vwCl (wP cI cZ (ah a) n pl nw ns σ'' κ'') H1) (hk : ∀ q : Nat, q < H.size → ¬ A_ (ah a) 24 q → H1[q]? = H[q]?) : va_P D vwCl (wX cI cZ a n pl nw ns σ κ σ'' κ'') H1 := by
  have key : ∀ (k : Nat) (q : Nat × va_E), (k < 16 ∨ k = 40) → (wX cI cZ a n pl nw ns σ κ σ' κ')[k]? = some q → va_at D vwCl q H1 := fun k q hk2 hq => by
    obtain ⟨e1, e2⟩ := wX_adr _ q hq
    refine (hP _ q hq).kept (hk q.1 (hP _ q hq).lt (fun z => ?_))
    obtain ⟨j, hj, e⟩ := z
    unfold ah at e
    by_cases c : j < 16
    · rw [if_pos c] at e
      have := hA.1 k (24 + j) e1 (by omega) (by rw [← e2]; exact e)
      omega
    · rw [if_neg c] at e
      have := hA.1 k j e1 (by omega) (by rw [← e2]; exact e)
      omega
  have hR : va_P D vwCl (wR cI cZ a n pl nw ns σ κ) H1 := by
    intro k q hq
    have h2 : ((wP cI cZ a n pl nw ns σ κ).take 16).length = 16 := rfl
    unfold wR at hq
    by_cases c : k < 16
    · rw [List.getElem?_append_left (by rw [h2]; exact c), List.getElem?_take_of_lt c] at hq
      refine key k q (Or.inl c) ?_
      unfold wX
      rw [List.getElem?_append_left (by show k < 24; omega)]
      exact hq
    · rw [List.getElem?_append_right (by rw [h2]; omega), h2] at hq
      have hz : k - 16 < 1 := (List.getElem?_eq_some_iff.mp hq).1
      have e : k = 16 := by omega
      subst e
      exact key 40 q (Or.inr rfl) hq
  have hJ := va_P.app hR hP1
  refine hJ.sub ([0, 1, 2, 3, 4, 5, 6, 7, 8, 9, 10, 11, 12, 13, 14, 15] ++ [33, 34, 35, 36, 37, 38, 39, 40] ++ [17, 18, 19, 20, 21, 22, 23, 24, 25, 26, 27, 28, 29, 30, 31, 32] ++ [16]) ?_
  unfold wP
  rw [hr 0 (by decide), hr 1 (by decide), hr 2 (by decide), hr 3 (by decide), hr 4 (by decide), hr 5 (by decide), hr 6 (by decide)]
  rfl
theorem stX_7 {i : Nat} {x : Int32} : (wX cI cZ a n pl nw ns σ κ σ' κ').set 1 (a 1, .inl (cI, 2, .inl (upd (σ 7) i x))) = wX cI cZ a n pl nw ns (up2 σ 7 i x) κ σ' κ' := rfl
theorem stX_10 {i : Nat} {x : Int32} : (wX cI cZ a n pl nw ns σ κ σ' κ').set 4 (a 4, .inl (cI, 20, .inl (upd (σ 10) i x))) = wX cI cZ a n pl nw ns (up2 σ 10 i x) κ σ' κ' := rfl
theorem stX_11 {i : Nat} {x : Int32} : (wX cI cZ a n pl nw ns σ κ σ' κ').set 5 (a 5, .inl (cZ, 20, .inl (upd (σ 11) i x))) = wX cI cZ a n pl nw ns (up2 σ 11 i x) κ σ' κ' := rfl
theorem stX_16 {i : Nat} {x : Int32} : (wX cI cZ a n pl nw ns σ κ σ' κ').set 10 (a 10, .inl (cI, 120, .inl (upd (σ 16) i x))) = wX cI cZ a n pl nw ns (up2 σ 16 i x) κ σ' κ' := rfl
theorem stX_3 {i : Nat} {x : Int32} : (wX cI cZ a n pl nw ns σ κ σ' κ').set 20 (a 20, .inl (cI, 10, .inl (upd (σ 3) i x))) = wX cI cZ a n pl nw ns (up2 σ 3 i x) κ σ' κ' := rfl
theorem stY_7 {i : Nat} {x : Int32} : (wX cI cZ a n pl nw ns σ κ σ' κ').set 25 (a 25, .inl (cI, 2, .inl (upd (σ' 7) i x))) = wX cI cZ a n pl nw ns σ κ (up2 σ' 7 i x) κ' := rfl
theorem stY_17 {x : Int32} : (wX cI cZ a n pl nw ns σ κ σ' κ').set 24 (a 24, .inr (0, [.ref (a 16), .int x, .ref (a 25), .ref (a 26), .ref (a 27), .ref (a 28), .ref (a 29), .ref (a 30), .ref (a 31), .ref (a 32), .ref (a 33), .ref (a 34), .ref (a 35), .ref (a 36), .ref (a 37), .ref (a 38), .ref (a 39)])) = wX cI cZ a n pl nw ns σ κ (up2 σ' 17 0 x) κ' := rfl
theorem srY_7 {f : Nat → Int32} : (wX cI cZ a n pl nw ns σ κ σ' κ').set 25 (a 25, .inl (cI, 2, .inl f)) = wX cI cZ a n pl nw ns σ κ (va_up σ' 7 f) κ' := rfl
theorem srY_8 {f : Nat → Int32} : (wX cI cZ a n pl nw ns σ κ σ' κ').set 26 (a 26, .inl (cI, 10, .inl f)) = wX cI cZ a n pl nw ns σ κ (va_up σ' 8 f) κ' := rfl
theorem srY_9 {f : Nat → Int32} : (wX cI cZ a n pl nw ns σ κ σ' κ').set 27 (a 27, .inl (cI, 10, .inl f)) = wX cI cZ a n pl nw ns σ κ (va_up σ' 9 f) κ' := rfl
theorem srY_10 {f : Nat → Int32} : (wX cI cZ a n pl nw ns σ κ σ' κ').set 28 (a 28, .inl (cI, 20, .inl f)) = wX cI cZ a n pl nw ns σ κ (va_up σ' 10 f) κ' := rfl
theorem srY_11 {f : Nat → Int32} : (wX cI cZ a n pl nw ns σ κ σ' κ').set 29 (a 29, .inl (cZ, 20, .inl f)) = wX cI cZ a n pl nw ns σ κ (va_up σ' 11 f) κ' := rfl
theorem srY_12 {f : Nat → Int32} : (wX cI cZ a n pl nw ns σ κ σ' κ').set 30 (a 30, .inl (cI, 20, .inl f)) = wX cI cZ a n pl nw ns σ κ (va_up σ' 12 f) κ' := rfl
theorem srY_13 {f : Nat → Int32} : (wX cI cZ a n pl nw ns σ κ σ' κ').set 31 (a 31, .inl (cI, 20, .inl f)) = wX cI cZ a n pl nw ns σ κ (va_up σ' 13 f) κ' := rfl
theorem srY_14 {f : Nat → Int32} : (wX cI cZ a n pl nw ns σ κ σ' κ').set 32 (a 32, .inl (cI, 20, .inl f)) = wX cI cZ a n pl nw ns σ κ (va_up σ' 14 f) κ' := rfl
theorem srY_15 {f : Nat → Int32} : (wX cI cZ a n pl nw ns σ κ σ' κ').set 33 (a 33, .inl (cI, 20, .inl f)) = wX cI cZ a n pl nw ns σ κ (va_up σ' 15 f) κ' := rfl
theorem srY_16 {f : Nat → Int32} : (wX cI cZ a n pl nw ns σ κ σ' κ').set 34 (a 34, .inl (cI, 120, .inl f)) = wX cI cZ a n pl nw ns σ κ (va_up σ' 16 f) κ' := rfl
end LWX
