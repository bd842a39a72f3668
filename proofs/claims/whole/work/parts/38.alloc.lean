/-! THE MODEL'S OWN ROWS: a row written down first, then copied -/
def vAdd (n : Nat) (σ : Sg) (x y : Int32) : Int32 := if kAdd n σ x y = 0 then nI n else nI 0
def sAddK (n pl : Nat) (σ : Sg) (x y : Int32) : Sg := if kAdd n σ x y = 0 then sAdd n pl σ x y else σ
def nAdd (n : Nat) (σ : Sg) (x y : Int32) : Nat := if kAdd n σ x y = 0 then n + 1 else n
def vCome (nw : Nat) (x y z : Int32) : Int32 := if kCome nw x y z = 0 then nI nw else nI 0
def sComeK (nw : Nat) (σ : Sg) (x y z : Int32) : Sg := if kCome nw x y z = 0 then sCome nw σ x y z else σ
def nCome (nw : Nat) (x y z : Int32) : Nat := if kCome nw x y z = 0 then nw + 1 else nw
theorem cpR_add {n pl : Nat} {x y : Int32} {σ : Sg} (h8 : σ 8 n = 0) (h9 : σ 9 n = 0) (j : Nat) : va_cpy (upd (upd (upd (upd (upd (fun _ => 0) 0 x) 1 y) 2 (nI pl)) 3 (nI 0)) 4 (nI 0)) (encR σ) 0 (5 * n) 5 j = encR (sAdd n pl σ x y) j := by
  unfold va_cpy
  by_cases h : 5 * n ≤ j ∧ j < 5 * n + 5
  · rw [if_pos h]
    obtain ⟨d, rfl⟩ := Nat.exists_eq_add_of_le h.1
    rw [encR_at (by omega)]
    rcases (show d = 0 ∨ d = 1 ∨ d = 2 ∨ d = 3 ∨ d = 4 by omega) with rfl | rfl | rfl | rfl | rfl
    · simp [upd, sAdd, up2_at, rid]
    · simp [upd, sAdd, up2_at, rid]
    · simp [upd, sAdd, up2_at, rid]
    · simp [upd, sAdd, up2_at, rid, h8, nI_0]
    · simp [upd, sAdd, up2_at, rid, h9, nI_0]
  · rw [if_neg h]
    unfold encR sAdd
    have hj : j / 5 ≠ n := by omega
    rw [up2_off (fun _ => hj), up2_off (fun _ => hj), up2_off (fun _ => hj)]
theorem cpP_come {nw : Nat} {x y z b : Int32} {σ : Sg} (hb : b = if nI 0 < y then nI 1 else nI 0) (h12 : σ 12 nw = 0) (h13 : σ 13 nw = -1) (h14 : σ 14 nw = 0) (h15 : σ 15 nw = -1) (j : Nat) :
    va_cpy (upd (upd (upd (upd (upd (upd (upd (upd (fun _ => 0) 0 x) 1 y) 2 z) 3 b) 4 (nI 0)) 5 (-1)) 6 (nI 0)) 7 (-1)) (encP nw σ) 0 (8 * nw) 8 j = encP (nw + 1) (sCome nw σ x y z) j := by
  unfold va_cpy
  by_cases h : 8 * nw ≤ j ∧ j < 8 * nw + 8
  · rw [if_pos h]
    obtain ⟨d, rfl⟩ := Nat.exists_eq_add_of_le h.1
    rw [encP_at (by omega) (by omega)]
    rcases (show d = 0 ∨ d = 1 ∨ d = 2 ∨ d = 3 ∨ d = 4 ∨ d = 5 ∨ d = 6 ∨ d = 7 by omega) with rfl | rfl | rfl | rfl | rfl | rfl | rfl | rfl
    · simp [upd, sCome, up2_at, pid]
    · simp [upd, sCome, up2_at, pid]
    · simp [upd, sCome, up2_at, pid]
    · simp [upd, sCome, up2_at, pid, hb]
    · simp [upd, sCome, up2_at, pid, h12, nI_0]
    · simp [upd, sCome, up2_at, pid, h13]
    · simp [upd, sCome, up2_at, pid, h14, nI_0]
    · simp [upd, sCome, up2_at, pid, h15]
  · rw [if_neg h]
    unfold encP sCome
    have hj : j / 8 ≠ nw := by omega
    rw [up2_off (fun _ => hj), up2_off (fun _ => hj), up2_off (fun _ => hj), up2_off (fun _ => hj)]
    by_cases c : (j % 8 = 5 ∨ j % 8 = 7) ∧ nw ≤ j / 8
    · rw [if_pos c, if_pos ⟨c.1, by omega⟩]
    · rw [if_neg c, if_neg (fun w => c ⟨w.1, by omega⟩)]
def i13 : List Nat := [0, 1, 2, 3, 4, 5, 6, 7, 8, 9, 10, 11, 12]
/-- the world with any row of people -/
def wMg (cI cZ : ClassId) (a : Nat → Nat) (th : Int32) (n nw ns : Nat) (P : Nat → Int32) (σ η : Sg) : va_W :=
  (wM cI cZ a th n nw ns σ η).set 4 (a 4, .inl (cI, 160, .inl P))
section CPW
variable {cI cZ : ClassId} {a : Nat → Nat} {th : Int32} {n nw ns : Nat} {σ σ' η : Sg} {x : Nat × va_E} {g : Nat → Int32} {D : va_G} {G : Heap}
theorem stM_cpR (hP : va_P D vwCl ((wM cI cZ a th n nw ns σ η ++ [x]).set 1 (a 1, .inl (cI, 50, .inl g))) G) (hg : ∀ j, j < 50 → g j = encR σ' j) (h7 : σ' 7 = σ 7) (h3 : σ' 3 = σ 3) (h6 : σ' 6 = σ 6) (h16 : σ' 16 = σ 16) (h17 : σ' 17 = σ 17) (hp : encP nw σ' = encP nw σ) : va_P D vwCl (wM cI cZ a th n nw ns σ' η) G := by
  have h1 := va_P_row hP (q0 := 1) (b := a 1) (cA := cI) (n := 50) (f := g) (g := encR σ') rfl hg
  refine h1.sub i13 ?_
  unfold wM
  rw [h7, h3, h6, h16, h17, hp]
  rfl
theorem stM_cpP {P : Nat → Int32} (hP : va_P D vwCl ((wM cI cZ a th n nw ns σ η ++ [x]).set 4 (a 4, .inl (cI, 160, .inl g))) G) (hg : ∀ j, j < 160 → g j = P j) (h7 : σ' 7 = σ 7) (h3 : σ' 3 = σ 3) (h6 : σ' 6 = σ 6) (h16 : σ' 16 = σ 16) (h17 : σ' 17 = σ 17) (hp : encR σ' = encR σ) : va_P D vwCl (wMg cI cZ a th n nw ns P σ' η) G := by
  have h1 := va_P_row hP (q0 := 4) (b := a 4) (cA := cI) (n := 160) (f := g) (g := P) rfl hg
  refine h1.sub i13 ?_
  unfold wMg wM
  rw [h7, h3, h6, h16, h17, hp]
  rfl
end CPW
