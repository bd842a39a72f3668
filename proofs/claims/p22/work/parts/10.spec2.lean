/-! SPEC of a step, in the order of the class: over pairs (rows, notes) -/
abbrev P2 : Type := Sg × Sg
def foldN {α : Type} (f : Nat → α → α) : Nat → α → α
  | 0, x => x
  | k + 1, x => f k (foldN f k x)
def nN (x : Int32) : Nat := x.toNatClampNeg
theorem nN_nI {k : Nat} (h : k < 2 ^ 31) : nN (nI k) = k := nI_clamp h
def mx0 (x : Int32) : Int32 := if nI 0 < x then x else nI 0
def bd1 (loss : Int32) (w : Nat) (σ : Sg) : Sg :=
  if ¬ σ 11 w = 0 ∧ ¬ σ 12 w = nI 2 then up2 (up2 σ 10 w (mx0 (σ 10 w - loss))) 11 w (if mx0 (σ 10 w - loss) ≤ 0 then nI 0 else nI 1) else σ
def lossOf (x : Int32) : Int32 := if x < nI 6 then nI 1 else nI 2
def bdF (x : Int32) (nw : Nat) (σ : Sg) : Sg := foldN (bd1 (lossOf x)) nw σ
def bo1 (nw w : Nat) (σ : Sg) : Sg := if σ 12 w = nI 1 ∧ nb σ nw w < 2 then up2 σ 11 w (nI 0) else σ
def boF (x : Int32) (nw : Nat) (σ : Sg) : Sg := if nI 8 ≤ x then foldN (bo1 nw) nw σ else σ
def le1 (κ : Sg) (nw w : Nat) (σ : Sg) : Sg := if σ 12 w = nI 1 ∧ ¬ σ 10 w ≤ 0 ∧ bb σ κ nw w = true then up2 σ 11 w (nI 1) else σ
def leK (q : P2) : Sg := va_up q.2 0 (q.1 11)
def leF (nw : Nat) (q : P2) : P2 := (foldN (le1 (leK q) nw) nw q.1, leK q)
def rem99 (x : Int32) : Int32 := x - x / nI 99 * nI 99
def lis1 (learner singer : Nat) (voice heard : Int32) (ch : Bool) (sg : Nat) (q : P2) : P2 :=
  if q.2 1 (6 * learner + sg) = 0 ∧ ¬ q.2 1 (6 * singer + sg) = 0 ∧ ¬ voice ≤ q.2 2 sg then
    (if heard < q.1 6 sg then q.1 else up2 q.1 16 (6 * learner + sg) (if ch = true then rem99 (q.2 1 (6 * singer + sg)) + nI 1 else q.2 1 (6 * singer + sg)), up2 q.2 2 sg voice)
  else q
def hrd (σ : Sg) (learner singer : Nat) : Int32 := if σ 11 learner = 0 then σ 5 singer + nI 3 else σ 5 singer
def chg (σ : Sg) (learner singer : Nat) : Bool := decide (¬ σ 11 learner = 0) && decide (¬ σ 11 singer = 0)
def lisF (learner singer ns : Nat) (q : P2) : P2 := foldN (lis1 learner singer (q.1 5 singer) (hrd q.1 learner singer) (chg q.1 learner singer)) ns q
def la1 (ns learner w : Nat) (q : P2) : P2 := if nbr q.1 learner w = true then lisF learner w ns q else q
def laF (nw ns learner : Nat) (q : P2) : P2 := foldN (la1 ns learner) nw (q.1, va_up q.2 2 (fun _ => -1))
def sg1 (nw ns w : Nat) (q : P2) : P2 := if q.1 12 w = nI 1 then laF nw ns w q else q
def sgF (nw ns : Nat) (q : P2) : P2 := foldN (sg1 nw ns) nw (q.1, va_up q.2 1 (q.1 16))
def ch1 (w : Nat) (σ : Sg) : Sg := up2 (up2 (up2 σ 12 w (nI 2)) 13 w (-1)) 15 w (σ 17 0)
def pcB (s : Nat) (q : P2) : Bool := decide (0 < q.2 3 s)
def pcQ (s : Nat) (q : P2) : P2 := if 0 < q.2 3 s then (up2 q.1 8 s (q.1 8 s + nI 1), up2 q.2 3 s (q.2 3 s - nI 1)) else (up2 q.1 9 s (q.1 9 s + nI 1), q.2)
def g2 (pl w : Nat) (z : Int32) (q : P2) : Bool × P2 := if z < nI pl then (true, (up2 q.1 13 w z, q.2)) else (false, (ch1 w q.1, q.2))
/-- one place further: whether there may be more to go, and what is then -/
def g1 (n pl nw w : Nat) (q : P2) : Bool × P2 :=
  if 2 ≤ wa q.1 nw (q.1 13 w + nI 1) then (false, q) else
  match se q.1 n (q.1 13 w) with
  | none => g2 pl w (q.1 13 w + nI 1) q
  | some s => if pcB s q = true then g2 pl w (q.1 13 w + nI 1) (pcQ s q) else (false, pcQ s q)
def wl (n pl nw w : Nat) : Nat → Bool × P2 → Bool × P2
  | 0, r => r
  | k + 1, r => if r.1 = true then wl n pl nw w k (g1 n pl nw w r.2) else r
def wk0 (w : Nat) (σ : Sg) : Sg := if σ 11 w = 0 then up2 σ 14 w (σ 14 w + nI 1) else σ
def mxp (P : Nat) : Nat := if P ≤ 2 then 1 else P - 1
def wkP (w : Nat) (σ : Sg) : Nat := if σ 11 w = 0 then mxp (nN (σ 4 w)) else nN (σ 4 w)
def wkF (n pl nw w : Nat) (q : P2) : P2 := (wl n pl nw w (wkP w q.1) (true, (wk0 w q.1, q.2))).2
def goL (n pl nw : Nat) : Nat → P2 → P2
  | 0, q => q
  | k + 1, q => if (fg q.1 q.2 nw).2 = -1 then q else goL n pl nw k (wkF n pl nw (nN (fg q.1 q.2 nw).2) (q.1, up2 q.2 4 (nN (fg q.1 q.2 nw).2) (nI 1)))
def sl1 (σ : Sg) (s : Nat) (κ : Sg) : Sg := up2 κ 3 s (lt_ σ s 2)
def slF (n : Nat) (q : P2) : Sg := foldN (sl1 q.1) n q.2
def hg1 (w : Nat) (κ : Sg) : Sg := up2 κ 4 w (nI 0)
def hgF (nw : Nat) (κ : Sg) : Sg := foldN hg1 nw κ
def goF (n pl nw : Nat) (q : P2) : P2 := goL n pl nw nw (q.1, hgF nw (slF n q))
def st1 (nw w : Nat) (σ : Sg) : Sg := if σ 12 w = 0 ∧ wa σ nw (nI 0) < 2 then up2 (up2 σ 12 w (nI 1)) 13 w (nI 0) else σ
def stF (nw : Nat) (σ : Sg) : Sg := foldN (st1 nw) nw σ
def windOf (σ : Sg) : Int32 := σ 3 (nN (σ 17 0) % 10)
def t1 (nw : Nat) (q : P2) : P2 := leF nw (boF (windOf q.1) nw (bdF (windOf q.1) nw q.1), q.2)
def t2 (n pl nw ns : Nat) (q : P2) : P2 := goF n pl nw (sgF nw ns (t1 nw q))
def tsF (n pl nw ns : Nat) (q : P2) : P2 := (up2 (stF nw (t2 n pl nw ns q).1) 17 0 (stF nw (t2 n pl nw ns q).1 17 0 + nI 1), (t2 n pl nw ns q).2)
def tsN (n pl nw ns : Nat) : Nat → P2 → P2
  | 0, q => q
  | k + 1, q => tsF n pl nw ns (tsN n pl nw ns k q)
/-! rows that a part of the step leaves -/
theorem foldN_inv {α : Type} {f : Nat → α → α} {P : α → Prop} {x : α} {n : Nat} (h0 : P x) (hs : ∀ k y, k < n → P y → P (f k y)) : P (foldN f n x) := by
  induction n with
  | zero => exact h0
  | succ n ih => exact hs n _ (Nat.lt_succ_self n) (ih (fun k y hk => hs k y (Nat.lt_succ_of_lt hk)))
theorem vu_ne {α : Type} {f : Nat → α} {k j : Nat} {v : α} (h : j ≠ k) : va_up f k v j = f j := by unfold va_up; rw [if_neg h]
theorem vu_eq {α : Type} {f : Nat → α} {k : Nat} {v : α} : va_up f k v k = v := by unfold va_up; rw [if_pos rfl]
theorem bdF_row {x : Int32} {nw : Nat} {σ : Sg} {k : Nat} (h1 : k ≠ 10) (h2 : k ≠ 11) : bdF x nw σ k = σ k :=
  foldN_inv (P := fun (τ : Sg) => τ k = σ k) rfl (fun w τ _ h => by unfold bd1; split; rw [up2_row _ _ _ _ h2, up2_row _ _ _ _ h1]; exact h; exact h)
theorem boF_row {x : Int32} {nw : Nat} {σ : Sg} {k : Nat} (h2 : k ≠ 11) : boF x nw σ k = σ k := by
  unfold boF
  split
  · exact foldN_inv (P := fun (τ : Sg) => τ k = σ k) rfl (fun w τ _ h => by unfold bo1; split; rw [up2_row _ _ _ _ h2]; exact h; exact h)
  · rfl
theorem leF_row {nw : Nat} {q : P2} {k : Nat} (h2 : k ≠ 11) : (leF nw q).1 k = q.1 k :=
  foldN_inv (P := fun (τ : Sg) => τ k = q.1 k) rfl (fun w τ _ h => by unfold le1; split; rw [up2_row _ _ _ _ h2]; exact h; exact h)
theorem lisF_row {learner singer ns : Nat} {q : P2} {k : Nat} (h2 : k ≠ 16) : (lisF learner singer ns q).1 k = q.1 k :=
  foldN_inv (P := fun (τ : P2) => τ.1 k = q.1 k) rfl (fun w τ _ h => by
    unfold lis1
    split
    · show (if _ then τ.1 else _) k = _
      split
      · exact h
      · rw [up2_row _ _ _ _ h2]; exact h
    · exact h)
theorem laF_row {nw ns learner : Nat} {q : P2} {k : Nat} (h2 : k ≠ 16) : (laF nw ns learner q).1 k = q.1 k :=
  foldN_inv (P := fun (τ : P2) => τ.1 k = q.1 k) rfl (fun w τ _ h => by unfold la1; split; rw [lisF_row h2]; exact h; exact h)
theorem sgF_row {nw ns : Nat} {q : P2} {k : Nat} (h2 : k ≠ 16) : (sgF nw ns q).1 k = q.1 k :=
  foldN_inv (P := fun (τ : P2) => τ.1 k = q.1 k) rfl (fun w τ _ h => by unfold sg1; split; rw [laF_row h2]; exact h; exact h)
theorem pcQ_row {s : Nat} {q : P2} {k : Nat} (h1 : k ≠ 8) (h2 : k ≠ 9) : (pcQ s q).1 k = q.1 k := by
  unfold pcQ
  split
  · exact up2_row _ _ _ _ h1
  · exact up2_row _ _ _ _ h2
theorem g2_row {pl w : Nat} {z : Int32} {q : P2} {k : Nat} (h1 : k ≠ 12) (h2 : k ≠ 13) (h3 : k ≠ 15) : (g2 pl w z q).2.1 k = q.1 k := by
  unfold g2
  split
  · exact up2_row _ _ _ _ h2
  · show ch1 w q.1 k = _
    unfold ch1
    rw [up2_row _ _ _ _ h3, up2_row _ _ _ _ h2, up2_row _ _ _ _ h1]
def goR (k : Nat) : Prop := k ≠ 8 ∧ k ≠ 9 ∧ k ≠ 12 ∧ k ≠ 13 ∧ k ≠ 14 ∧ k ≠ 15
theorem g1_row {n pl nw w : Nat} {q : P2} {k : Nat} (h : goR k) : (g1 n pl nw w q).2.1 k = q.1 k := by
  obtain ⟨h8, h9, h12, h13, h14, h15⟩ := h
  unfold g1
  split
  · rfl
  · split
    · exact g2_row h12 h13 h15
    · split
      · rw [g2_row h12 h13 h15, pcQ_row h8 h9]
      · exact pcQ_row h8 h9
theorem wl_row {n pl nw w : Nat} {k : Nat} (h : goR k) : ∀ (m : Nat) (r : Bool × P2), (wl n pl nw w m r).2.1 k = r.2.1 k
  | 0, r => rfl
  | m + 1, r => by
    simp only [wl]
    split
    · rw [wl_row h m, g1_row h]
    · rfl
theorem wkF_row {n pl nw w : Nat} {q : P2} {k : Nat} (h : goR k) : (wkF n pl nw w q).1 k = q.1 k := by
  unfold wkF
  rw [wl_row h]
  show wk0 w q.1 k = _
  unfold wk0
  split
  · exact up2_row _ _ _ _ h.2.2.2.2.1
  · rfl
theorem goL_row {n pl nw : Nat} {k : Nat} (h : goR k) : ∀ (m : Nat) (q : P2), (goL n pl nw m q).1 k = q.1 k
  | 0, q => rfl
  | m + 1, q => by
    simp only [goL]
    split
    · rfl
    · rw [goL_row h m, wkF_row h]
theorem goF_row {n pl nw : Nat} {q : P2} {k : Nat} (h : goR k) : (goF n pl nw q).1 k = q.1 k := by
  unfold goF
  rw [goL_row h]
theorem stF_row {nw : Nat} {σ : Sg} {k : Nat} (h1 : k ≠ 12) (h2 : k ≠ 13) : stF nw σ k = σ k :=
  foldN_inv (P := fun (τ : Sg) => τ k = σ k) rfl (fun w τ _ h => by unfold st1; split; rw [up2_row _ _ _ _ h2, up2_row _ _ _ _ h1]; exact h; exact h)
/-- what no step changes -/
theorem tsF_row {n pl nw ns : Nat} {q : P2} {k : Nat} (h : k < 8) : (tsF n pl nw ns q).1 k = q.1 k := by
  show (up2 (stF nw (t2 n pl nw ns q).1) 17 0 (stF nw (t2 n pl nw ns q).1 17 0 + nI 1)) k = q.1 k
  rw [up2_row _ _ _ _ (by omega), stF_row (by omega) (by omega)]
  unfold t2
  rw [goF_row (by unfold goR; omega), sgF_row (by omega)]
  unfold t1
  rw [leF_row (by omega)]
  show boF (windOf q.1) nw (bdF (windOf q.1) nw q.1) k = q.1 k
  rw [boF_row (by omega), bdF_row (by omega) (by omega)]
theorem tsF_step {n pl nw ns : Nat} {q : P2} : (tsF n pl nw ns q).1 17 0 = q.1 17 0 + nI 1 := by
  show (up2 (stF nw (t2 n pl nw ns q).1) 17 0 (stF nw (t2 n pl nw ns q).1 17 0 + nI 1)) 17 0 = q.1 17 0 + nI 1
  rw [up2_at, if_pos ⟨rfl, rfl⟩, stF_row (by omega) (by omega)]
  unfold t2
  rw [goF_row (by unfold goR; omega), sgF_row (by omega)]
  unfold t1
  rw [leF_row (by omega)]
  show boF (windOf q.1) nw (bdF (windOf q.1) nw q.1) 17 0 + nI 1 = q.1 17 0 + nI 1
  rw [boF_row (by omega), bdF_row (by omega) (by omega)]
/-- burning is 0 or 1 -/
def bz (σ : Sg) : Prop := ∀ i, σ 11 i = nI 0 ∨ σ 11 i = nI 1
theorem bz_up {σ : Sg} {w : Nat} {v : Int32} (h : bz σ) (hv : v = nI 0 ∨ v = nI 1) : bz (up2 σ 11 w v) := fun i => by
  rw [up2_at]
  split
  · exact hv
  · exact h i
theorem bz_row {σ τ : Sg} (h : bz σ) (e : τ 11 = σ 11) : bz τ := fun i => by rw [e]; exact h i
theorem bdF_bz {x : Int32} {nw : Nat} {σ : Sg} (h : bz σ) : bz (bdF x nw σ) :=
  foldN_inv (P := bz) h (fun w τ _ h => by
    unfold bd1
    split
    · refine bz_up (bz_row h (up2_row _ _ _ _ (by omega))) ?_
      split
      · exact Or.inl rfl
      · exact Or.inr rfl
    · exact h)
theorem boF_bz {x : Int32} {nw : Nat} {σ : Sg} (h : bz σ) : bz (boF x nw σ) := by
  unfold boF
  split
  · exact foldN_inv (P := bz) h (fun w τ _ h => by
      unfold bo1
      split
      · exact bz_up h (Or.inl rfl)
      · exact h)
  · exact h
theorem leF_bz {nw : Nat} {q : P2} (h : bz q.1) : bz (leF nw q).1 :=
  foldN_inv (P := bz) h (fun w τ _ h => by
    unfold le1
    split
    · exact bz_up h (Or.inr rfl)
    · exact h)
theorem t2_bz {n pl nw ns : Nat} {q : P2} (h : bz q.1) : bz (t2 n pl nw ns q).1 := by
  unfold t2
  refine bz_row (leF_bz (nw := nw) (q := (boF (windOf q.1) nw (bdF (windOf q.1) nw q.1), q.2)) (boF_bz (bdF_bz h))) ?_
  rw [goF_row (by unfold goR; omega), sgF_row (by omega)]
  rfl
theorem tsF_bz {n pl nw ns : Nat} {q : P2} (h : bz q.1) : bz (tsF n pl nw ns q).1 := by
  refine bz_row (t2_bz (n := n) (pl := pl) (nw := nw) (ns := ns) h) ?_
  show (up2 (stF nw (t2 n pl nw ns q).1) 17 0 (stF nw (t2 n pl nw ns q).1 17 0 + nI 1)) 11 = (t2 n pl nw ns q).1 11
  rw [up2_row _ _ _ _ (by omega), stF_row (by omega) (by omega)]
/-- what a step wants: burning 0 or 1, paces 1 to 3, the step t -/
def okS (nw t : Nat) (σ : Sg) : Prop := bz σ ∧ (∀ w, w < nw → σ 4 w = nI (nN (σ 4 w)) ∧ 1 ≤ nN (σ 4 w) ∧ nN (σ 4 w) ≤ 3) ∧ σ 17 0 = nI t
theorem tsF_ok {n pl nw ns t : Nat} {q : P2} (h : okS nw t q.1) : okS nw (t + 1) (tsF n pl nw ns q).1 :=
  ⟨tsF_bz h.1, fun w hw => by rw [tsF_row (by omega)]; exact h.2.1 w hw, by rw [tsF_step, h.2.2, nI_add]⟩
theorem tsN_ok {n pl nw ns t : Nat} {q : P2} (h : okS nw t q.1) : ∀ k, okS nw (t + k) (tsN n pl nw ns k q).1
  | 0 => h
  | k + 1 => tsF_ok (tsN_ok h k)
theorem tsN_row {n pl nw ns : Nat} {q : P2} {j : Nat} (h : j < 8) : ∀ k, (tsN n pl nw ns k q).1 j = q.1 j
  | 0 => rfl
  | k + 1 => by
    show (tsF n pl nw ns (tsN n pl nw ns k q)).1 j = _
    rw [tsF_row h, tsN_row h k]
theorem fg_nat {σ κ : Sg} {n : Nat} (h : ¬ (fg σ κ n).2 = -1) : ∃ j, j < n ∧ (fg σ κ n).2 = nI j ∧ σ 12 j = nI 1 ∧ κ 4 j = 0 := by
  induction n with
  | zero => exact absurd rfl h
  | succ n ih =>
    simp only [fg] at h ⊢
    split
    · rename_i hc
      exact ⟨n, Nat.lt_succ_self n, rfl, hc.1, hc.2.1⟩
    · rename_i hc
      rw [if_neg hc] at h
      obtain ⟨j, h1, h2⟩ := ih h
      exact ⟨j, Nat.lt_succ_of_lt h1, h2⟩
theorem wl_f {n pl nw w : Nat} {q : P2} : ∀ m, wl n pl nw w m (false, q) = (false, q)
  | 0 => rfl
  | m + 1 => by simp [wl]
theorem oI_m1 {x : Option Nat} {n : Nat} (hx : ∀ j, x = some j → j < n) (hn : n < 2 ^ 31) (h : oI x = -1) : x = none := by
  cases x with
  | none => rfl
  | some j =>
    have hj := hx j rfl
    have : nI j = -1 := h
    have h2 := nI_toInt (n := j) (by omega)
    rw [this] at h2
    have h3 : ((-1 : Int32)).toInt = -1 := by decide
    omega
theorem oI_n {x : Option Nat} (h : ¬ oI x = -1) : ∃ j, x = some j := by
  cases x with
  | none => exact absurd rfl h
  | some j => exact ⟨j, rfl⟩
theorem mxp_eq {P : Nat} (h1 : 1 ≤ P) (h3 : P ≤ 3) : (if nI 1 < nI (P - 1) then nI (P - 1) else nI 1) = nI (mxp P) := by
  rcases (show P = 1 ∨ P = 2 ∨ P = 3 by omega) with rfl | rfl | rfl <;> decide
theorem mxp_le {P : Nat} (h3 : P ≤ 3) : mxp P ≤ 3 := by unfold mxp; split <;> omega
theorem lossOf_t {x : Int32} (h : x < nI 6) : lossOf x = nI 1 := if_pos h
theorem lossOf_f {x : Int32} (h : ¬ x < nI 6) : lossOf x = nI 2 := if_neg h
theorem bd1_0 {g : Int32} {w : Nat} {σ : Sg} (h : σ 11 w = 0) : bd1 g w σ = σ := if_neg (fun q => q.1 h)
theorem bd1_2 {g : Int32} {w : Nat} {σ : Sg} (h : σ 12 w = nI 2) : bd1 g w σ = σ := if_neg (fun q => q.2 h)
theorem bd1_a {g : Int32} {w : Nat} {σ : Sg} (h1 : ¬ σ 11 w = 0) (h2 : ¬ σ 12 w = nI 2) (h3 : mx0 (σ 10 w - g) ≤ 0) : bd1 g w σ = up2 (up2 σ 10 w (mx0 (σ 10 w - g))) 11 w (nI 0) := by
  unfold bd1
  rw [if_pos ⟨h1, h2⟩, if_pos h3]
theorem bd1_b {g : Int32} {w : Nat} {σ : Sg} (h1 : ¬ σ 11 w = 0) (h2 : ¬ σ 12 w = nI 2) (h3 : ¬ mx0 (σ 10 w - g) ≤ 0) : bd1 g w σ = up2 (up2 σ 10 w (mx0 (σ 10 w - g))) 11 w (nI 1) := by
  unfold bd1
  rw [if_pos ⟨h1, h2⟩, if_neg h3]
theorem bo1_0 {nw w : Nat} {σ : Sg} (h : ¬ σ 12 w = nI 1) : bo1 nw w σ = σ := if_neg (fun q => h q.1)
theorem bo1_2 {nw w : Nat} {σ : Sg} (h : 2 ≤ nb σ nw w) : bo1 nw w σ = σ := if_neg (fun q => by omega)
theorem bo1_a {nw w : Nat} {σ : Sg} (h : σ 12 w = nI 1) (h2 : nb σ nw w < 2) : bo1 nw w σ = up2 σ 11 w (nI 0) := if_pos ⟨h, h2⟩
theorem le1_0 {κ : Sg} {nw w : Nat} {σ : Sg} (h : ¬ σ 12 w = nI 1) : le1 κ nw w σ = σ := if_neg (fun q => h q.1)
theorem le1_1 {κ : Sg} {nw w : Nat} {σ : Sg} (h : σ 10 w ≤ 0) : le1 κ nw w σ = σ := if_neg (fun q => q.2.1 h)
theorem le1_2 {κ : Sg} {nw w : Nat} {σ : Sg} (h : bb σ κ nw w = false) : le1 κ nw w σ = σ := if_neg (fun q => by rw [h] at q; exact absurd q.2.2 (by decide))
theorem le1_a {κ : Sg} {nw w : Nat} {σ : Sg} (h : σ 12 w = nI 1) (h2 : ¬ σ 10 w ≤ 0) (h3 : bb σ κ nw w = true) : le1 κ nw w σ = up2 σ 11 w (nI 1) := if_pos ⟨h, h2, h3⟩
theorem st1_0 {nw w : Nat} {σ : Sg} (h : ¬ σ 12 w = 0) : st1 nw w σ = σ := if_neg (fun q => h q.1)
theorem st1_2 {nw w : Nat} {σ : Sg} (h : 2 ≤ wa σ nw (nI 0)) : st1 nw w σ = σ := if_neg (fun q => by omega)
theorem st1_a {nw w : Nat} {σ : Sg} (h : σ 12 w = 0) (h2 : wa σ nw (nI 0) < 2) : st1 nw w σ = up2 (up2 σ 12 w (nI 1)) 13 w (nI 0) := if_pos ⟨h, h2⟩
theorem la1_f {ns g w : Nat} {q : P2} (h : nbr q.1 g w = false) : la1 ns g w q = q := if_neg (fun z => by rw [h] at z; exact absurd z (by decide))
theorem la1_t {ns g w : Nat} {q : P2} (h : nbr q.1 g w = true) : la1 ns g w q = lisF g w ns q := if_pos h
theorem sg1_f {nw ns w : Nat} {q : P2} (h : ¬ q.1 12 w = nI 1) : sg1 nw ns w q = q := if_neg h
theorem sg1_t {nw ns w : Nat} {q : P2} (h : q.1 12 w = nI 1) : sg1 nw ns w q = laF nw ns w q := if_pos h
theorem wa_le {σ : Sg} {nw : Nat} {z : Int32} : wa σ nw z ≤ nw := cnt_le _ _
theorem nb_le {σ : Sg} {nw w : Nat} : nb σ nw w ≤ nw := cnt_le _ _
theorem bz_v {σ : Sg} (h : bz σ) (i : Nat) : vp_nar .boolean (σ 11 i) = σ 11 i := by rcases h i with h | h <;> rw [h] <;> rfl
section LIS
variable {lr sr sg : Nat} {v hd : Int32} {ch : Bool} {q : P2}
theorem lis1_a (h : ¬ q.2 1 (6 * lr + sg) = 0) : lis1 lr sr v hd ch sg q = q := if_neg (fun z => h z.1)
theorem lis1_b (h : q.2 1 (6 * sr + sg) = 0) : lis1 lr sr v hd ch sg q = q := if_neg (fun z => z.2.1 h)
theorem lis1_c (h : v ≤ q.2 2 sg) : lis1 lr sr v hd ch sg q = q := if_neg (fun z => z.2.2 h)
theorem lis1_d (h1 : q.2 1 (6 * lr + sg) = 0) (h2 : ¬ q.2 1 (6 * sr + sg) = 0) (h3 : ¬ v ≤ q.2 2 sg) (h4 : hd < q.1 6 sg) : lis1 lr sr v hd ch sg q = (q.1, up2 q.2 2 sg v) := by
  unfold lis1
  rw [if_pos ⟨h1, h2, h3⟩, if_pos h4]
theorem lis1_e (h1 : q.2 1 (6 * lr + sg) = 0) (h2 : ¬ q.2 1 (6 * sr + sg) = 0) (h3 : ¬ v ≤ q.2 2 sg) (h4 : ¬ hd < q.1 6 sg) (h5 : ch = true) : lis1 lr sr v hd ch sg q = (up2 q.1 16 (6 * lr + sg) (rem99 (q.2 1 (6 * sr + sg)) + nI 1), up2 q.2 2 sg v) := by
  unfold lis1
  rw [if_pos ⟨h1, h2, h3⟩, if_neg h4, if_pos h5]
theorem lis1_f (h1 : q.2 1 (6 * lr + sg) = 0) (h2 : ¬ q.2 1 (6 * sr + sg) = 0) (h3 : ¬ v ≤ q.2 2 sg) (h4 : ¬ hd < q.1 6 sg) (h5 : ch = false) : lis1 lr sr v hd ch sg q = (up2 q.1 16 (6 * lr + sg) (q.2 1 (6 * sr + sg)), up2 q.2 2 sg v) := by
  subst h5
  unfold lis1
  rw [if_pos ⟨h1, h2, h3⟩, if_neg h4, if_neg (by decide)]
theorem hrd_t {σ : Sg} (h : σ 11 lr = 0) : hrd σ lr sr = σ 5 sr + nI 3 := if_pos h
theorem hrd_f {σ : Sg} (h : ¬ σ 11 lr = 0) : hrd σ lr sr = σ 5 sr := if_neg h
theorem chg_a {σ : Sg} (h : σ 11 lr = 0) : chg σ lr sr = false := by unfold chg; simp [h]
theorem chg_b {σ : Sg} (h : σ 11 sr = 0) : chg σ lr sr = false := by unfold chg; simp [h]
theorem chg_c {σ : Sg} (h : ¬ σ 11 lr = 0) (h2 : ¬ σ 11 sr = 0) : chg σ lr sr = true := by unfold chg; simp [h, h2]
end LIS
section G1
variable {n pl nw w j : Nat} {σ κ : Sg}
theorem g1_a (h : 2 ≤ wa σ nw (σ 13 w + nI 1)) : g1 n pl nw w (σ, κ) = (false, (σ, κ)) := if_pos h
theorem g1_b (h : wa σ nw (σ 13 w + nI 1) < 2) (hse : se σ n (σ 13 w) = some j) (hp : pcB j (σ, κ) = false) : g1 n pl nw w (σ, κ) = (false, pcQ j (σ, κ)) := by
  unfold g1
  rw [if_neg (show ¬ 2 ≤ wa σ nw (σ 13 w + nI 1) by omega)]
  simp only [hse, hp]
  rfl
theorem g1_c (h : wa σ nw (σ 13 w + nI 1) < 2) (hse : se σ n (σ 13 w) = none) (hz : ¬ σ 13 w + nI 1 < nI pl) : g1 n pl nw w (σ, κ) = (false, (ch1 w σ, κ)) := by
  unfold g1
  rw [if_neg (show ¬ 2 ≤ wa σ nw (σ 13 w + nI 1) by omega)]
  simp only [hse]
  exact if_neg hz
theorem g1_d (h : wa σ nw (σ 13 w + nI 1) < 2) (hse : se σ n (σ 13 w) = none) (hz : σ 13 w + nI 1 < nI pl) : g1 n pl nw w (σ, κ) = (true, (up2 σ 13 w (σ 13 w + nI 1), κ)) := by
  unfold g1
  rw [if_neg (show ¬ 2 ≤ wa σ nw (σ 13 w + nI 1) by omega)]
  simp only [hse]
  exact if_pos hz
theorem g1_e (h : wa σ nw (σ 13 w + nI 1) < 2) (hse : se σ n (σ 13 w) = some j) (hp : pcB j (σ, κ) = true) (hz : ¬ σ 13 w + nI 1 < nI pl) : g1 n pl nw w (σ, κ) = (false, (ch1 w (pcQ j (σ, κ)).1, (pcQ j (σ, κ)).2)) := by
  unfold g1
  rw [if_neg (show ¬ 2 ≤ wa σ nw (σ 13 w + nI 1) by omega)]
  simp only [hse, hp]
  exact if_neg hz
theorem g1_f (h : wa σ nw (σ 13 w + nI 1) < 2) (hse : se σ n (σ 13 w) = some j) (hp : pcB j (σ, κ) = true) (hz : σ 13 w + nI 1 < nI pl) : g1 n pl nw w (σ, κ) = (true, (up2 (pcQ j (σ, κ)).1 13 w (σ 13 w + nI 1), (pcQ j (σ, κ)).2)) := by
  unfold g1
  rw [if_neg (show ¬ 2 ≤ wa σ nw (σ 13 w + nI 1) by omega)]
  simp only [hse, hp]
  exact if_pos hz
end G1
theorem pace_t1 {nw ns t : Nat} {q : P2} (h : okS nw t q.1) : ∀ w, w < nw → (sgF nw ns (t1 nw q)).1 4 w = nI (nN ((sgF nw ns (t1 nw q)).1 4 w)) ∧ 1 ≤ nN ((sgF nw ns (t1 nw q)).1 4 w) ∧ nN ((sgF nw ns (t1 nw q)).1 4 w) ≤ 3 := by
  have h9 : (sgF nw ns (t1 nw q)).1 4 = q.1 4 := by
    rw [sgF_row (by omega)]
    unfold t1
    rw [leF_row (by omega)]
    show boF (windOf q.1) nw (bdF (windOf q.1) nw q.1) 4 = q.1 4
    rw [boF_row (by omega), bdF_row (by omega) (by omega)]
  rw [h9]
  exact h.2.1
