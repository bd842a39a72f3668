/-! THE LAW'S OWN ROWS; what each of its checks asks -/
def fillK (g : Nat → Nat → Int32) (K w j : Nat) : Nat → Nat → Int32 := fun w' j' => if (w' < w ∧ j' < K) ∨ (w' = w ∧ j' < j) then g w' j' else 0
def upF (f : Nat → Nat → Int32) (w j : Nat) (x : Int32) : Nat → Nat → Int32 := fun w' => if w' = w then upd (f w) j x else f w'
theorem fillK_0 {g : Nat → Nat → Int32} {K : Nat} : fillK g K 0 0 = fun _ _ => 0 := by
  funext w' j'
  exact if_neg (by omega)
theorem fillK_s {g : Nat → Nat → Int32} {K w j : Nat} : upF (fillK g K w j) w j (g w j) = fillK g K w (j + 1) := by
  funext w' j'
  unfold upF
  by_cases h : w' = w
  · subst h
    rw [if_pos rfl]
    unfold upd fillK
    by_cases q : j' = j
    · subst q
      rw [if_pos rfl, if_pos (by omega)]
    · rw [if_neg q]
      by_cases r : (w' < w' ∧ j' < K) ∨ (w' = w' ∧ j' < j)
      · rw [if_pos r, if_pos (by omega)]
      · rw [if_neg r, if_neg (by omega)]
  · rw [if_neg h]
    unfold fillK
    by_cases r : (w' < w ∧ j' < K) ∨ (w' = w ∧ j' < j)
    · rw [if_pos r, if_pos (by omega)]
    · rw [if_neg r, if_neg (by omega)]
theorem fillK_n {g : Nat → Nat → Int32} {K w : Nat} : fillK g K w K = fillK g K (w + 1) 0 := by
  funext w' j'
  unfold fillK
  by_cases r : (w' < w ∧ j' < K) ∨ (w' = w ∧ j' < K)
  · rw [if_pos r, if_pos (by omega)]
  · rw [if_neg r, if_neg (by omega)]
theorem fillK_at {g : Nat → Nat → Int32} {K n w j : Nat} (hw : w < n) (hj : j < K) : fillK g K n 0 w j = g w j := if_pos (Or.inl ⟨hw, hj⟩)
def TL (cI cO : ClassId) (a : Ka) (n pl nw : Nat) (wf kf : Nat → Nat → Int32) (hf : Nat → Int32) (cf : Nat → Nat → Int32) (of : Nat → Int32) : Ke
  | 0, _ => .inl (cO, nw, .inr (.inr (.inr (.inr (rfs nw (a 6))))))
  | 1, w => .inl (cI, 9, .inl (wf w))
  | 2, _ => .inl (cO, nw, .inr (.inr (.inr (.inr (rfs nw (a 8))))))
  | 3, w => .inl (cI, 6, .inl (kf w))
  | 4, 0 => .inl (cI, nw, .inl hf)
  | 5, _ => .inl (cO, n, .inr (.inr (.inr (.inr (rfs n (a 11))))))
  | 6, s => .inl (cI, 6, .inl (cf s))
  | 7, 0 => .inl (cI, pl, .inl of)
  | _, _ => .inl (cI, 0, .inl (fun _ => 0))
section TLS
variable {D : va_G} {H G : Heap} {A : Nat → Prop} {cI cZ cW cO : ClassId} {X : Nat → va_E} {a a1 : Ka} {n pl nw ns w j : Nat} {σ η : Sg} {wf kf cf : Nat → Nat → Int32} {hf of : Nat → Int32} {x : Int32} {M : Km}
theorem eT_chg {T T' : Ke} {c i : Nat} {v : va_E} (h : T' c i = v) (ho : ∀ d k, ¬ (d = c ∧ k = i) → T' d k = T d k) : eup (eL cI cZ cW cO X a n nw ns σ η T) (c + 5) i v = eL cI cZ cW cO X a n nw ns σ η T' := by
  rw [eT_new]
  congr 1
  funext d k
  by_cases q : d = c ∧ k = i
  · obtain ⟨q1, q2⟩ := q
    subst q1; subst q2
    rw [eup_in, h]
  · rw [eup_ne q, ho d k q]
theorem sT_1 : eup (eL cI cZ cW cO X a n nw ns σ η (TL cI cO a n pl nw wf kf hf cf of)) 6 w (.inl (cI, 9, .inl (upd (wf w) j x))) = eL cI cZ cW cO X a n nw ns σ η (TL cI cO a n pl nw (upF wf w j x) kf hf cf of) := by
  refine eT_chg (c := 1) ?_ (fun d k h => ?_)
  · show (Sum.inl (cI, 9, .inl (upF wf w j x w)) : va_E) = _
    unfold upF
    rw [if_pos rfl]
  · match d, h with
    | 0, _ => rfl
    | 1, h =>
      show (Sum.inl (cI, 9, .inl (upF wf w j x k)) : va_E) = Sum.inl (cI, 9, .inl (wf k))
      unfold upF
      rw [if_neg (fun z => h ⟨rfl, z⟩)]
    | 2, _ => rfl
    | 3, _ => rfl
    | 4, _ => cases k <;> rfl
    | 5, _ => rfl
    | 6, _ => rfl
    | 7, _ => cases k <;> rfl
    | d + 8, _ => rfl
theorem sT_3 : eup (eL cI cZ cW cO X a n nw ns σ η (TL cI cO a n pl nw wf kf hf cf of)) 8 w (.inl (cI, 6, .inl (upd (kf w) j x))) = eL cI cZ cW cO X a n nw ns σ η (TL cI cO a n pl nw wf (upF kf w j x) hf cf of) := by
  refine eT_chg (c := 3) ?_ (fun d k h => ?_)
  · show (Sum.inl (cI, 6, .inl (upF kf w j x w)) : va_E) = _
    unfold upF
    rw [if_pos rfl]
  · match d, h with
    | 0, _ => rfl
    | 1, _ => rfl
    | 2, _ => rfl
    | 3, h =>
      show (Sum.inl (cI, 6, .inl (upF kf w j x k)) : va_E) = Sum.inl (cI, 6, .inl (kf k))
      unfold upF
      rw [if_neg (fun z => h ⟨rfl, z⟩)]
    | 4, _ => cases k <;> rfl
    | 5, _ => rfl
    | 6, _ => rfl
    | 7, _ => cases k <;> rfl
    | d + 8, _ => rfl
theorem sT_6 : eup (eL cI cZ cW cO X a n nw ns σ η (TL cI cO a n pl nw wf kf hf cf of)) 11 w (.inl (cI, 6, .inl (upd (cf w) j x))) = eL cI cZ cW cO X a n nw ns σ η (TL cI cO a n pl nw wf kf hf (upF cf w j x) of) := by
  refine eT_chg (c := 6) ?_ (fun d k h => ?_)
  · show (Sum.inl (cI, 6, .inl (upF cf w j x w)) : va_E) = _
    unfold upF
    rw [if_pos rfl]
  · match d, h with
    | 0, _ => rfl
    | 1, _ => rfl
    | 2, _ => rfl
    | 3, _ => rfl
    | 4, _ => cases k <;> rfl
    | 5, _ => rfl
    | 6, h =>
      show (Sum.inl (cI, 6, .inl (upF cf w j x k)) : va_E) = Sum.inl (cI, 6, .inl (cf k))
      unfold upF
      rw [if_neg (fun z => h ⟨rfl, z⟩)]
    | 7, _ => cases k <;> rfl
    | d + 8, _ => rfl
theorem sT_4 : eup (eL cI cZ cW cO X a n nw ns σ η (TL cI cO a n pl nw wf kf hf cf of)) 9 0 (.inl (cI, nw, .inl (upd hf j x))) = eL cI cZ cW cO X a n nw ns σ η (TL cI cO a n pl nw wf kf (upd hf j x) cf of) := by
  refine eT_chg (c := 4) rfl (fun d k h => ?_)
  match d, k, h with
  | 0, _, _ => rfl
  | 1, _, _ => rfl
  | 2, _, _ => rfl
  | 3, _, _ => rfl
  | 4, 0, h => exact absurd ⟨rfl, rfl⟩ h
  | 4, k + 1, _ => rfl
  | 5, _, _ => rfl
  | 6, _, _ => rfl
  | 7, 0, _ => rfl
  | 7, k + 1, _ => rfl
  | d + 8, _, _ => rfl
theorem sT_7 : eup (eL cI cZ cW cO X a n nw ns σ η (TL cI cO a n pl nw wf kf hf cf of)) 12 0 (.inl (cI, pl, .inl (upd of j x))) = eL cI cZ cW cO X a n nw ns σ η (TL cI cO a n pl nw wf kf hf cf (upd of j x)) := by
  refine eT_chg (c := 7) rfl (fun d k h => ?_)
  match d, k, h with
  | 0, _, _ => rfl
  | 1, _, _ => rfl
  | 2, _, _ => rfl
  | 3, _, _ => rfl
  | 4, 0, _ => rfl
  | 4, k + 1, _ => rfl
  | 5, _, _ => rfl
  | 6, _, _ => rfl
  | 7, 0, h => exact absurd ⟨rfl, rfl⟩ h
  | 7, k + 1, _ => rfl
  | d + 8, _, _ => rfl
/-- the row that counts who stands where, told otherwise -/
theorem kt_row7 {of' : Nat → Int32} (hP : kP D M a (eL cI cZ cW cO X a n nw ns σ η (TL cI cO a n pl nw wf kf hf cf of)) H) (h : ∀ z, z < pl → of z = of' z) : kP D M a (eL cI cZ cW cO X a n nw ns σ η (TL cI cO a n pl nw wf kf hf cf of')) H := by
  intro c i hi
  have h0 := hP c i hi
  match c, i, h0 with
  | 0, _, h0 => exact h0
  | 1, _, h0 => exact h0
  | 2, _, h0 => exact h0
  | 3, _, h0 => exact h0
  | 4, _, h0 => exact h0
  | 5, _, h0 => exact h0
  | 6, _, h0 => exact h0
  | 7, _, h0 => exact h0
  | 8, _, h0 => exact h0
  | 9, 0, h0 => exact h0
  | 9, k + 1, h0 => exact h0
  | 10, _, h0 => exact h0
  | 11, _, h0 => exact h0
  | 12, 0, h0 =>
    have h0 : H[a 12 0]? = some (vp_cell cI (pl, .inl of)) := h0
    show H[a 12 0]? = some (vp_cell cI (pl, .inl of'))
    rw [h0, vp_cell_ext h]
  | 12, k + 1, h0 => exact h0
  | c + 13, _, h0 => exact h0
theorem kT_any {T T' : Ke} (hP : kP D [41, 10, n, nw, nw] a (eL cI cZ cW cO X a n nw ns σ η T) H) : kP D [41, 10, n, nw, nw] a (eL cI cZ cW cO X a n nw ns σ η T') H := by
  intro c i hi
  have h0 := hP c i hi
  match c, hi, h0 with
  | 0, _, h0 => exact h0
  | 1, _, h0 => exact h0
  | 2, _, h0 => exact h0
  | 3, _, h0 => exact h0
  | 4, _, h0 => exact h0
  | c + 5, hi, _ => exact absurd hi (Nat.not_lt_zero _)
theorem kM_end (c i : Nat) : i < km [41, 10, n, nw, nw] c → i < km [41, 10, n, nw, nw, 1, nw, 1, nw, 1, 1, n, 1] c := by
  intro h
  match c, h with
  | 0, h => exact h
  | 1, h => exact h
  | 2, h => exact h
  | 3, h => exact h
  | 4, h => exact h
  | c + 5, h => exact absurd h (Nat.not_lt_zero _)
end TLS
section TLA
variable {D : va_G} {H G : Heap} {A : Nat → Prop} {cI cZ cW cO : ClassId} {a : Ka} {n pl nw ns : Nat} {σ η : Sg} {wf kf cf : Nat → Nat → Int32} {hf of : Nat → Int32}
theorem kt_mL5 {q : Nat} {r : Nat → Nat} {cn cpl cnw cns : Nat} {cs : Sg} {u : S3} (hO : kO A [41, 10, n, nw, nw] a) (hP : kP D [41, 10, n, nw, nw] a (eL cI cZ cW cO (xC cI cZ (a 0) cn cpl cnw cns cs u) a n nw ns σ η (TL cI cO a n pl nw wf kf hf cf of)) G) (hq : A q) (hr : ∀ j, j < nw → A (r j)) (h1 : ∀ c i, i < km [41, 10, n, nw, nw] c → ¬ a c i = q) (h2 : ∀ c i j, i < km [41, 10, n, nw, nw] c → j < nw → ¬ a c i = r j) (h3 : ∀ j, j < nw → ¬ q = r j) (h4 : ∀ i j, i < nw → j < nw → r i = r j → i = j)
    (hvq : va_at D vwCl (q, .inl (cO, nw, .inr (.inr (.inr (.inr (rfs nw r)))))) G) (hvr : ∀ j, j < nw → va_at D vwCl (r j, .inl (cI, 9, .inl (fun _ => 0))) G) :
    ∃ a1 : Ka, a1 5 0 = q ∧ (∀ c i, c ≠ 5 → c ≠ 6 → a1 c i = a c i) ∧ kP D [41, 10, n, nw, nw, 1, nw] a1 (eL cI cZ cW cO (xC cI cZ (a1 0) cn cpl cnw cns cs u) a1 n nw ns σ η (TL cI cO a1 n pl nw (fun _ _ => 0) kf hf cf of)) G ∧ kO A [41, 10, n, nw, nw, 1, nw] a1 := by
  refine ⟨fun c i => if c = 5 then q else if c = 6 then r i else a c i, rfl, fun c i k1 k2 => by dsimp only; rw [if_neg k1, if_neg k2], ?_⟩
  refine kt_mna (M1 := [41, 10, n, nw, nw, 1, nw]) (c1 := 5) (c2 := 6) (e1 := eL cI cZ cW cO (xC cI cZ (a 0) cn cpl cnw cns cs u) (fun c i => if c = 5 then q else if c = 6 then r i else a c i) n nw ns σ η (TL cI cO (fun c i => if c = 5 then q else if c = 6 then r i else a c i) n pl nw (fun _ _ => 0) kf hf cf of)) hO hP hq hr h1 h2 h3 h4 hvq hvr (by decide) (fun c i hi => ?_) rfl (fun j hj => rfl) (fun c i k1 k2 hi => ?_)
  · match c, hi with
    | 0, hi => exact Or.inr (Or.inr ⟨by decide, by decide, hi⟩)
    | 1, hi => exact Or.inr (Or.inr ⟨by decide, by decide, hi⟩)
    | 2, hi => exact Or.inr (Or.inr ⟨by decide, by decide, hi⟩)
    | 3, hi => exact Or.inr (Or.inr ⟨by decide, by decide, hi⟩)
    | 4, hi => exact Or.inr (Or.inr ⟨by decide, by decide, hi⟩)
    | 5, hi =>
      have hi : i < 1 := hi
      exact Or.inl ⟨rfl, by omega⟩
    | 6, hi => exact Or.inr (Or.inl ⟨rfl, hi⟩)
    | c + 7, hi => exact absurd hi (Nat.not_lt_zero _)
  · match c, i, k1, k2, hi with
    | 0, _, _, _, _ => rfl
    | 1, _, _, _, _ => rfl
    | 2, _, _, _, _ => rfl
    | 3, _, _, _, _ => rfl
    | 4, _, _, _, _ => rfl
    | 5, _, k1, _, _ => exact absurd rfl k1
    | 6, _, _, k2, _ => exact absurd rfl k2
    | c + 7, _, _, _, hi => exact absurd hi (Nat.not_lt_zero _)
theorem kt_mL7 {q : Nat} {r : Nat → Nat} {cn cpl cnw cns : Nat} {cs : Sg} {u : S3} (hO : kO A [41, 10, n, nw, nw, 1, nw] a) (hP : kP D [41, 10, n, nw, nw, 1, nw] a (eL cI cZ cW cO (xC cI cZ (a 0) cn cpl cnw cns cs u) a n nw ns σ η (TL cI cO a n pl nw wf kf hf cf of)) G) (hq : A q) (hr : ∀ j, j < nw → A (r j)) (h1 : ∀ c i, i < km [41, 10, n, nw, nw, 1, nw] c → ¬ a c i = q) (h2 : ∀ c i j, i < km [41, 10, n, nw, nw, 1, nw] c → j < nw → ¬ a c i = r j) (h3 : ∀ j, j < nw → ¬ q = r j) (h4 : ∀ i j, i < nw → j < nw → r i = r j → i = j)
    (hvq : va_at D vwCl (q, .inl (cO, nw, .inr (.inr (.inr (.inr (rfs nw r)))))) G) (hvr : ∀ j, j < nw → va_at D vwCl (r j, .inl (cI, 6, .inl (fun _ => 0))) G) :
    ∃ a1 : Ka, a1 7 0 = q ∧ (∀ c i, c ≠ 7 → c ≠ 8 → a1 c i = a c i) ∧ kP D [41, 10, n, nw, nw, 1, nw, 1, nw] a1 (eL cI cZ cW cO (xC cI cZ (a1 0) cn cpl cnw cns cs u) a1 n nw ns σ η (TL cI cO a1 n pl nw wf (fun _ _ => 0) hf cf of)) G ∧ kO A [41, 10, n, nw, nw, 1, nw, 1, nw] a1 := by
  refine ⟨fun c i => if c = 7 then q else if c = 8 then r i else a c i, rfl, fun c i k1 k2 => by dsimp only; rw [if_neg k1, if_neg k2], ?_⟩
  refine kt_mna (M1 := [41, 10, n, nw, nw, 1, nw, 1, nw]) (c1 := 7) (c2 := 8) (e1 := eL cI cZ cW cO (xC cI cZ (a 0) cn cpl cnw cns cs u) (fun c i => if c = 7 then q else if c = 8 then r i else a c i) n nw ns σ η (TL cI cO (fun c i => if c = 7 then q else if c = 8 then r i else a c i) n pl nw wf (fun _ _ => 0) hf cf of)) hO hP hq hr h1 h2 h3 h4 hvq hvr (by decide) (fun c i hi => ?_) rfl (fun j hj => rfl) (fun c i k1 k2 hi => ?_)
  · match c, hi with
    | 0, hi => exact Or.inr (Or.inr ⟨by decide, by decide, hi⟩)
    | 1, hi => exact Or.inr (Or.inr ⟨by decide, by decide, hi⟩)
    | 2, hi => exact Or.inr (Or.inr ⟨by decide, by decide, hi⟩)
    | 3, hi => exact Or.inr (Or.inr ⟨by decide, by decide, hi⟩)
    | 4, hi => exact Or.inr (Or.inr ⟨by decide, by decide, hi⟩)
    | 5, hi => exact Or.inr (Or.inr ⟨by decide, by decide, hi⟩)
    | 6, hi => exact Or.inr (Or.inr ⟨by decide, by decide, hi⟩)
    | 7, hi =>
      have hi : i < 1 := hi
      exact Or.inl ⟨rfl, by omega⟩
    | 8, hi => exact Or.inr (Or.inl ⟨rfl, hi⟩)
    | c + 9, hi => exact absurd hi (Nat.not_lt_zero _)
  · match c, i, k1, k2, hi with
    | 0, _, _, _, _ => rfl
    | 1, _, _, _, _ => rfl
    | 2, _, _, _, _ => rfl
    | 3, _, _, _, _ => rfl
    | 4, _, _, _, _ => rfl
    | 5, _, _, _, _ => rfl
    | 6, _, _, _, _ => rfl
    | 7, _, k1, _, _ => exact absurd rfl k1
    | 8, _, _, k2, _ => exact absurd rfl k2
    | c + 9, _, _, _, hi => exact absurd hi (Nat.not_lt_zero _)
theorem kt_mL10 {q : Nat} {r : Nat → Nat} {cn cpl cnw cns : Nat} {cs : Sg} {u : S3} (hO : kO A [41, 10, n, nw, nw, 1, nw, 1, nw, 1] a) (hP : kP D [41, 10, n, nw, nw, 1, nw, 1, nw, 1] a (eL cI cZ cW cO (xC cI cZ (a 0) cn cpl cnw cns cs u) a n nw ns σ η (TL cI cO a n pl nw wf kf hf cf of)) G) (hq : A q) (hr : ∀ j, j < n → A (r j)) (h1 : ∀ c i, i < km [41, 10, n, nw, nw, 1, nw, 1, nw, 1] c → ¬ a c i = q) (h2 : ∀ c i j, i < km [41, 10, n, nw, nw, 1, nw, 1, nw, 1] c → j < n → ¬ a c i = r j) (h3 : ∀ j, j < n → ¬ q = r j) (h4 : ∀ i j, i < n → j < n → r i = r j → i = j)
    (hvq : va_at D vwCl (q, .inl (cO, n, .inr (.inr (.inr (.inr (rfs n r)))))) G) (hvr : ∀ j, j < n → va_at D vwCl (r j, .inl (cI, 6, .inl (fun _ => 0))) G) :
    ∃ a1 : Ka, a1 10 0 = q ∧ (∀ c i, c ≠ 10 → c ≠ 11 → a1 c i = a c i) ∧ kP D [41, 10, n, nw, nw, 1, nw, 1, nw, 1, 1, n] a1 (eL cI cZ cW cO (xC cI cZ (a1 0) cn cpl cnw cns cs u) a1 n nw ns σ η (TL cI cO a1 n pl nw wf kf hf (fun _ _ => 0) of)) G ∧ kO A [41, 10, n, nw, nw, 1, nw, 1, nw, 1, 1, n] a1 := by
  refine ⟨fun c i => if c = 10 then q else if c = 11 then r i else a c i, rfl, fun c i k1 k2 => by dsimp only; rw [if_neg k1, if_neg k2], ?_⟩
  refine kt_mna (M1 := [41, 10, n, nw, nw, 1, nw, 1, nw, 1, 1, n]) (c1 := 10) (c2 := 11) (e1 := eL cI cZ cW cO (xC cI cZ (a 0) cn cpl cnw cns cs u) (fun c i => if c = 10 then q else if c = 11 then r i else a c i) n nw ns σ η (TL cI cO (fun c i => if c = 10 then q else if c = 11 then r i else a c i) n pl nw wf kf hf (fun _ _ => 0) of)) hO hP hq hr h1 h2 h3 h4 hvq hvr (by decide) (fun c i hi => ?_) rfl (fun j hj => rfl) (fun c i k1 k2 hi => ?_)
  · match c, hi with
    | 0, hi => exact Or.inr (Or.inr ⟨by decide, by decide, hi⟩)
    | 1, hi => exact Or.inr (Or.inr ⟨by decide, by decide, hi⟩)
    | 2, hi => exact Or.inr (Or.inr ⟨by decide, by decide, hi⟩)
    | 3, hi => exact Or.inr (Or.inr ⟨by decide, by decide, hi⟩)
    | 4, hi => exact Or.inr (Or.inr ⟨by decide, by decide, hi⟩)
    | 5, hi => exact Or.inr (Or.inr ⟨by decide, by decide, hi⟩)
    | 6, hi => exact Or.inr (Or.inr ⟨by decide, by decide, hi⟩)
    | 7, hi => exact Or.inr (Or.inr ⟨by decide, by decide, hi⟩)
    | 8, hi => exact Or.inr (Or.inr ⟨by decide, by decide, hi⟩)
    | 9, hi => exact Or.inr (Or.inr ⟨by decide, by decide, hi⟩)
    | 10, hi =>
      have hi : i < 1 := hi
      exact Or.inl ⟨rfl, by omega⟩
    | 11, hi => exact Or.inr (Or.inl ⟨rfl, hi⟩)
    | c + 12, hi => exact absurd hi (Nat.not_lt_zero _)
  · match c, i, k1, k2, hi with
    | 0, _, _, _, _ => rfl
    | 1, _, _, _, _ => rfl
    | 2, _, _, _, _ => rfl
    | 3, _, _, _, _ => rfl
    | 4, _, _, _, _ => rfl
    | 5, _, _, _, _ => rfl
    | 6, _, _, _, _ => rfl
    | 7, _, _, _, _ => rfl
    | 8, _, _, _, _ => rfl
    | 9, 0, _, _, _ => rfl
    | 9, k + 1, _, _, _ => rfl
    | 10, _, k1, _, _ => exact absurd rfl k1
    | 11, _, _, k2, _ => exact absurd rfl k2
    | c + 12, _, _, _, hi => exact absurd hi (Nat.not_lt_zero _)
theorem kt_n9 {q : Nat} {cn cpl cnw cns : Nat} {cs : Sg} {u : S3} (hO : kO A [41, 10, n, nw, nw, 1, nw, 1, nw] a) (hP : kP D [41, 10, n, nw, nw, 1, nw, 1, nw] a (eL cI cZ cW cO (xC cI cZ (a 0) cn cpl cnw cns cs u) a n nw ns σ η (TL cI cO a n pl nw wf kf hf cf of)) H) (hv : va_at D vwCl (q, .inl (cI, nw, .inl (fun _ => 0))) G) (hk : ∀ x, x < H.size → G[x]? = H[x]?) (hq : q = H.size) (hA : A q) :
    ∃ a1 : Ka, a1 9 0 = q ∧ (∀ d j, ¬ (d = 9 ∧ j = 0) → a1 d j = a d j) ∧ kP D [41, 10, n, nw, nw, 1, nw, 1, nw, 1] a1 (eL cI cZ cW cO (xC cI cZ (a1 0) cn cpl cnw cns cs u) a1 n nw ns σ η (TL cI cO a1 n pl nw wf kf (fun _ => 0) cf of)) G ∧ kO A [41, 10, n, nw, nw, 1, nw, 1, nw, 1] a1 := by
  refine ⟨aup a 9 0 q, aup_in, fun _ _ h => aup_ne h, ?_, hO.new hP (by rw [hq]; exact Nat.le_refl _) hA (fun d j h h2 => ?_)⟩
  · refine (kP.new (M' := [41, 10, n, nw, nw, 1, nw, 1, nw, 1]) hP hv hk (fun d j h h2 => ?_)).ext (fun d j h => ?_)
    · match d, h, h2 with
      | 0, h, _ => exact h
      | 1, h, _ => exact h
      | 2, h, _ => exact h
      | 3, h, _ => exact h
      | 4, h, _ => exact h
      | 5, h, _ => exact h
      | 6, h, _ => exact h
      | 7, h, _ => exact h
      | 8, h, _ => exact h
      | 9, h, h2 =>
        have h : j < 1 := h
        exact absurd ⟨rfl, by omega⟩ h2
      | d + 10, h, _ => exact absurd h (Nat.not_lt_zero _)
    · match d, j, h with
      | 0, _, _ => rfl
      | 1, _, _ => rfl
      | 2, _, _ => rfl
      | 3, _, _ => rfl
      | 4, _, _ => rfl
      | 5, _, _ => rfl
      | 6, _, _ => rfl
      | 7, _, _ => rfl
      | 8, _, _ => rfl
      | 9, 0, _ => rfl
      | 9, k + 1, h => exact absurd (show k + 1 < 1 from h) (by omega)
      | d + 10, _, h => exact absurd h (Nat.not_lt_zero _)
  · match d, h, h2 with
    | 0, h, _ => exact h
    | 1, h, _ => exact h
    | 2, h, _ => exact h
    | 3, h, _ => exact h
    | 4, h, _ => exact h
    | 5, h, _ => exact h
    | 6, h, _ => exact h
    | 7, h, _ => exact h
    | 8, h, _ => exact h
    | 9, h, h2 =>
      have h : j < 1 := h
      exact absurd ⟨rfl, by omega⟩ h2
    | d + 10, h, _ => exact absurd h (Nat.not_lt_zero _)
theorem kt_n12 {q : Nat} {cn cpl cnw cns : Nat} {cs : Sg} {u : S3} (hO : kO A [41, 10, n, nw, nw, 1, nw, 1, nw, 1, 1, n] a) (hP : kP D [41, 10, n, nw, nw, 1, nw, 1, nw, 1, 1, n] a (eL cI cZ cW cO (xC cI cZ (a 0) cn cpl cnw cns cs u) a n nw ns σ η (TL cI cO a n pl nw wf kf hf cf of)) H) (hv : va_at D vwCl (q, .inl (cI, pl, .inl (fun _ => 0))) G) (hk : ∀ x, x < H.size → G[x]? = H[x]?) (hq : q = H.size) (hA : A q) :
    ∃ a1 : Ka, a1 12 0 = q ∧ (∀ d j, ¬ (d = 12 ∧ j = 0) → a1 d j = a d j) ∧ kP D [41, 10, n, nw, nw, 1, nw, 1, nw, 1, 1, n, 1] a1 (eL cI cZ cW cO (xC cI cZ (a1 0) cn cpl cnw cns cs u) a1 n nw ns σ η (TL cI cO a1 n pl nw wf kf hf cf (fun _ => 0))) G ∧ kO A [41, 10, n, nw, nw, 1, nw, 1, nw, 1, 1, n, 1] a1 := by
  refine ⟨aup a 12 0 q, aup_in, fun _ _ h => aup_ne h, ?_, hO.new hP (by rw [hq]; exact Nat.le_refl _) hA (fun d j h h2 => ?_)⟩
  · refine (kP.new (M' := [41, 10, n, nw, nw, 1, nw, 1, nw, 1, 1, n, 1]) hP hv hk (fun d j h h2 => ?_)).ext (fun d j h => ?_)
    · match d, h, h2 with
      | 0, h, _ => exact h
      | 1, h, _ => exact h
      | 2, h, _ => exact h
      | 3, h, _ => exact h
      | 4, h, _ => exact h
      | 5, h, _ => exact h
      | 6, h, _ => exact h
      | 7, h, _ => exact h
      | 8, h, _ => exact h
      | 9, h, _ => exact h
      | 10, h, _ => exact h
      | 11, h, _ => exact h
      | 12, h, h2 =>
        have h : j < 1 := h
        exact absurd ⟨rfl, by omega⟩ h2
      | d + 13, h, _ => exact absurd h (Nat.not_lt_zero _)
    · match d, j, h with
      | 0, _, _ => rfl
      | 1, _, _ => rfl
      | 2, _, _ => rfl
      | 3, _, _ => rfl
      | 4, _, _ => rfl
      | 5, _, _ => rfl
      | 6, _, _ => rfl
      | 7, _, _ => rfl
      | 8, _, _ => rfl
      | 9, 0, _ => rfl
      | 9, k + 1, _ => rfl
      | 10, _, _ => rfl
      | 11, _, _ => rfl
      | 12, 0, _ => rfl
      | 12, k + 1, h => exact absurd (show k + 1 < 1 from h) (by omega)
      | d + 13, _, h => exact absurd h (Nat.not_lt_zero _)
  · match d, h, h2 with
    | 0, h, _ => exact h
    | 1, h, _ => exact h
    | 2, h, _ => exact h
    | 3, h, _ => exact h
    | 4, h, _ => exact h
    | 5, h, _ => exact h
    | 6, h, _ => exact h
    | 7, h, _ => exact h
    | 8, h, _ => exact h
    | 9, h, _ => exact h
    | 10, h, _ => exact h
    | 11, h, _ => exact h
    | 12, h, h2 =>
      have h : j < 1 := h
      exact absurd ⟨rfl, by omega⟩ h2
    | d + 13, h, _ => exact absurd h (Nat.not_lt_zero _)
end TLA
section CHK
variable {n pl nw ns t w : Nat} {σ : Sg}
theorem k_496 (h : LV n pl nw ns t σ) (hn : 0 < n) (hw : w < nw) : ¬ tau n pl nw ns σ 12 w < σ 12 w := by
  rcases tau_w h hn hw with ⟨e, -, -, ⟨f, -⟩ | ⟨f, -⟩⟩ | ⟨e, -, p, -, -, ⟨d, -, -, f, -⟩ | ⟨f, -⟩⟩ | ⟨e, -, f, -⟩ <;> rw [e, f] <;> decide
theorem k_512 (h : LV n pl nw ns t σ) (hn : 0 < n) (hw : w < nw) (c : ¬ tau n pl nw ns σ 12 w ≤ nI 1) : ¬ σ 12 w = 0 := by
  rcases tau_w h hn hw with ⟨e, -, -, ⟨f, -⟩ | ⟨f, -⟩⟩ | ⟨e, -, p, -, -, ⟨d, -, -, f, -⟩ | ⟨f, -⟩⟩ | ⟨e, -, f, -⟩
  · rw [f] at c; exact absurd (by decide) c
  · rw [f] at c; exact absurd (by decide) c
  · rw [e]; decide
  · rw [e]; decide
  · rw [e]; decide
theorem k_528a (h : LV n pl nw ns t σ) (hn : 0 < n) (hw : w < nw) (c : tau n pl nw ns σ 12 w = nI 1) : ∃ p, p < pl ∧ tau n pl nw ns σ 13 w = nI p := (LV_step h hn).inv.2.2.2.2.1 w hw c
theorem k_528b (h : LV n pl nw ns t σ) (hn : 0 < n) (c : ¬ tau n pl nw ns σ 12 w = nI 1) : tau n pl nw ns σ 13 w = -1 := (LV_step h hn).2.2.2.2.1 w c
theorem k_640 (h : LV n pl nw ns t σ) (hn : 0 < n) (hw : w < nw) (c : tau n pl nw ns σ 12 w = nI 2) (c2 : ¬ nI 2 ≤ σ 12 w) : tau n pl nw ns σ 15 w = nI t := by
  rcases tau_w h hn hw with ⟨e, -, -, ⟨f, -⟩ | ⟨f, -⟩⟩ | ⟨e, -, p, -, -, ⟨d, -, -, f, -⟩ | ⟨f, -, g⟩⟩ | ⟨e, -, f, -, g⟩
  · rw [f] at c; exact absurd c (by decide)
  · rw [f] at c; exact absurd c (by decide)
  · rw [f] at c; exact absurd c (by decide)
  · exact g
  · rw [e] at c2; exact absurd (by decide) c2
theorem k_640b (h : LV n pl nw ns t σ) (hn : 0 < n) (hw : w < nw) (c2 : nI 2 ≤ σ 12 w) : tau n pl nw ns σ 15 w = σ 15 w := by
  rcases tau_w h hn hw with ⟨e, -, -, ⟨f, -⟩ | ⟨f, -⟩⟩ | ⟨e, -, p, -, -, ⟨d, -, -, f, -⟩ | ⟨f, -, g⟩⟩ | ⟨e, -, f, -, g⟩
  · rw [e] at c2; exact absurd c2 (by decide)
  · rw [e] at c2; exact absurd c2 (by decide)
  · rw [e] at c2; exact absurd c2 (by decide)
  · rw [e] at c2; exact absurd c2 (by decide)
  · exact g
theorem k_658 (h : LV n pl nw ns t σ) (hn : 0 < n) (c : ¬ nI 2 ≤ tau n pl nw ns σ 12 w) : tau n pl nw ns σ 15 w = -1 := (LV_step h hn).2.2.2.2.2.1 w (fun z => c (by rw [z]; decide))
theorem now_t (c : tau n pl nw ns σ 12 w = nI 2) (c2 : ¬ nI 2 ≤ σ 12 w) : nI (cnt (nwS σ (tau n pl nw ns σ)) w + 1) = nI (cnt (nwS σ (tau n pl nw ns σ)) (w + 1)) :=
  cnt_t (by unfold nwS; rw [decide_eq_true c, decide_eq_true (show ¬ σ 12 w = nI 2 from fun z => c2 (by rw [z]; decide))]; rfl)
theorem now_f1 (c : ¬ tau n pl nw ns σ 12 w = nI 2) : nI (cnt (nwS σ (tau n pl nw ns σ)) w + 0) = nI (cnt (nwS σ (tau n pl nw ns σ)) (w + 1)) :=
  cnt_f (by unfold nwS; rw [decide_eq_false c, Bool.false_and])
theorem now_f2 (h : LV n pl nw ns t σ) (c2 : nI 2 ≤ σ 12 w) : nI (cnt (nwS σ (tau n pl nw ns σ)) w + 0) = nI (cnt (nwS σ (tau n pl nw ns σ)) (w + 1)) :=
  cnt_f (by
    have e : σ 12 w = nI 2 := by
      rcases h.2.2.2.1 w with e | e | e
      · rw [e] at c2; exact absurd c2 (by decide)
      · rw [e] at c2; exact absurd c2 (by decide)
      · exact e
    unfold nwS
    rw [decide_eq_false (show ¬ ¬ σ 12 w = nI 2 from fun z => z e), Bool.and_false])
/-- how far one has gone -/
theorem k_goes (h : LV n pl nw ns t σ) (hn : 0 < n) (hw : w < nw) (c : tau n pl nw ns σ 12 w = nI 1) (c2 : σ 12 w = nI 1) {pz : Nat} (hpz : pz < pl) (ez : tau n pl nw ns σ 13 w = nI pz) : ∃ d, nI pz - σ 13 w = nI d ∧ d ≤ nN (σ 4 w) ∧ (tau n pl nw ns σ 11 w = 0 → d ≤ mxp (nN (σ 4 w))) ∧ d < 1000 := by
  have hpl := h.inv.1.2.1
  rcases tau_w h hn hw with ⟨e, -⟩ | ⟨e, -, p, hp, ep, ⟨d, hd, hd2, f, g, -⟩ | ⟨f, -⟩⟩ | ⟨e, -⟩
  · rw [e] at c2; exact absurd c2 (by decide)
  · rw [ez, nI_eq (by omega) (by omega)] at g
    subst g
    have hP := (h.inv.2.1.2.1 w hw)
    refine ⟨d, by rw [ep, pk_sub (by omega)]; congr 1; omega, ?_, fun z => ?_, by omega⟩
    · unfold wkP at hd
      rw [show tau n pl nw ns σ 4 = σ 4 from tau_row (by decide)] at hd
      split at hd
      · unfold mxp at hd
        split at hd <;> omega
      · exact hd
    · unfold wkP at hd
      rw [show tau n pl nw ns σ 4 = σ 4 from tau_row (by decide), if_pos z] at hd
      exact hd
  · rw [f] at c; exact absurd c (by decide)
  · rw [e] at c2; exact absurd c2 (by decide)
theorem k_762 (h : LV n pl nw ns t σ) (hn : 0 < n) (hw : w < nw) (c : tau n pl nw ns σ 12 w = nI 1) (c2 : σ 12 w = 0) : tau n pl nw ns σ 13 w = nI 0 := by
  rcases tau_w h hn hw with ⟨e, -, -, ⟨f, -⟩ | ⟨f, g, -⟩⟩ | ⟨e, -⟩ | ⟨e, -⟩
  · rw [f] at c; exact absurd c (by decide)
  · exact g
  · rw [e] at c2; exact absurd c2 (by decide)
  · rw [e] at c2; exact absurd c2 (by decide)
theorem mxp_max {P : Nat} (h : 1 ≤ P) (h2 : P ≤ 3) : (if nI 1 < nI (P - 1) then nI (P - 1) else nI 1) = nI (mxp P) := by
  unfold mxp
  rcases (show P = 1 ∨ P = 2 ∨ P = 3 by omega) with rfl | rfl | rfl <;> decide
theorem k_830a (h : LV n pl nw ns t σ) (hw : w < nw) (c : σ 11 w = nI 1) (c2 : ¬ nI 2 ≤ σ 12 w) (c3 : windOf σ ≤ nI 5) : tau n pl nw ns σ 10 w = (if nI 0 < σ 10 w - nI 1 then σ 10 w - nI 1 else nI 0) := by
  rw [(tau_b h hw).1]
  unfold bdN
  rw [if_pos ⟨by rw [c]; decide, fun z => c2 (by rw [z]; decide)⟩, loss_1 c3]
  rfl
theorem k_830b (h : LV n pl nw ns t σ) (hw : w < nw) (c : σ 11 w = nI 1) (c2 : ¬ nI 2 ≤ σ 12 w) (c3 : ¬ windOf σ ≤ nI 5) : tau n pl nw ns σ 10 w = (if nI 0 < σ 10 w - nI 2 then σ 10 w - nI 2 else nI 0) := by
  rw [(tau_b h hw).1]
  unfold bdN
  rw [if_pos ⟨by rw [c]; decide, fun z => c2 (by rw [z]; decide)⟩, loss_2 c3]
  rfl
theorem k_830c (h : LV n pl nw ns t σ) (hw : w < nw) (c : ¬ σ 11 w = nI 1 ∨ nI 2 ≤ σ 12 w) : tau n pl nw ns σ 10 w = (if nI 0 < σ 10 w - nI 0 then σ 10 w - nI 0 else nI 0) := by
  rw [(tau_b h hw).1]
  unfold bdN
  rw [if_neg, show σ 10 w - nI 0 = σ 10 w from Int32.sub_zero _]
  · have h0 := h.inv.2.2.1 w
    split
    · rfl
    · rename_i q
      exact Int32.le_antisymm (Int32.not_lt.mp q) h0
  · rintro ⟨g1, g2⟩
    rcases c with c | c
    · rcases h.inv.2.1.1 w with e | e
      · exact g1 e
      · exact c e
    · rcases h.2.2.2.1 w with e | e | e
      · rw [e] at c; exact absurd c (by decide)
      · rw [e] at c; exact absurd c (by decide)
      · exact g2 e
theorem k_857 (h : LV n pl nw ns t σ) (hw : w < nw) (c : tau n pl nw ns σ 11 w = nI 1) (c2 : tau n pl nw ns σ 10 w = 0) : nI 2 ≤ σ 12 w := by
  rcases h.2.2.2.1 w with e | e | e
  · exact absurd c2 ((tau_b h hw).2.2 (by rw [e]; decide) c)
  · exact absurd c2 ((tau_b h hw).2.2 (by rw [e]; decide) c)
  · rw [e]; decide
def dkN (σ τ : Sg) (w : Nat) : Nat := if σ 12 w = nI 1 ∧ τ 11 w = 0 then 1 else 0
theorem k_908 (h : LV n pl nw ns t σ) (hn : 0 < n) (hw : w < nw) : tau n pl nw ns σ 14 w - σ 14 w = nI (dkN σ (tau n pl nw ns σ) w) := by
  rw [tau_14 h hn hw]
  unfold dkN
  split
  · rw [Int32.add_comm, Int32.add_sub_cancel]
  · exact Int32.sub_self _
theorem dkN_le {τ : Sg} : dkN σ τ w ≤ 1 := by
  unfold dkN
  split <;> omega
theorem dkN_1 {τ : Sg} (h : dkN σ τ w = 1) : σ 12 w = nI 1 ∧ τ 11 w = 0 := by
  unfold dkN at h
  split at h
  · assumption
  · cases h
theorem dkN_0 {τ : Sg} (h : dkN σ τ w = 0) (c : σ 12 w = nI 1) : ¬ τ 11 w = 0 := fun z => by
  unfold dkN at h
  rw [if_pos ⟨c, z⟩] at h
  cases h
/-- how many stand where -/
def onH (τ : Sg) (k : Nat) : Nat → Int32 := fun z => nI (cnt (waS τ (nI z)) k)
theorem onH_f {τ : Sg} {k : Nat} (c : ¬ τ 12 k = nI 1) : onH τ k = onH τ (k + 1) := by
  funext z
  exact cnt_f (by unfold waS; rw [decide_eq_false c, Bool.false_and])
theorem onH_s {τ : Sg} {k pz N : Nat} (c : τ 12 k = nI 1) (e : τ 13 k = nI pz) (hp : pz < N) (hN : N ≤ 1000) (z : Nat) (hz : z < N) : upd (onH τ k) pz (onH τ k pz + nI 1) z = onH τ (k + 1) z := by
  unfold upd onH
  by_cases q : z = pz
  · subst q
    rw [if_pos rfl, nI_add]
    exact cnt_t (waS_t.mpr ⟨c, e⟩)
  · rw [if_neg q]
    exact cnt_f (by unfold waS; rw [e, decide_eq_false (show ¬ nI pz = nI z from fun y => q ((nI_eq (by omega) (by omega)).mp y).symm), Bool.and_false])
theorem onH_0 {τ : Sg} : (fun _ => 0 : Nat → Int32) = onH τ 0 := rfl
end CHK
