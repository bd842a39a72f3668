/-! THE CALLS, in pure words: k which refusal (0: none), v the answer, s the rows afterwards -/
def isI (v lo hi : Int32) : Bool := decide (¬ v < lo) && decide (¬ hi < v)
theorem isI_nat {v : Int32} {lo hi : Nat} (hl : lo < 2 ^ 31) (hh : hi < 2 ^ 31) (h : isI v (nI lo) (nI hi) = true) : ∃ j : Nat, lo ≤ j ∧ j ≤ hi ∧ v = nI j := by
  unfold isI at h
  rw [Bool.and_eq_true] at h
  have h1 := of_decide_eq_true h.1
  have h2 := of_decide_eq_true h.2
  have h0 : ¬ v < 0 := fun z => h1 (Int32.lt_of_lt_of_le z (nI_pos' hl))
  obtain ⟨j, hj, rfl⟩ := nI_of h0
  rw [nI_ltI hj hl] at h1
  rw [nI_ltI hh hj] at h2
  exact ⟨j, by omega, by omega, rfl⟩
theorem isI_of {j lo hi : Nat} (hh : hi < 2 ^ 31) (h1 : lo ≤ j) (h2 : j ≤ hi) : isI (nI j) (nI lo) (nI hi) = true := by
  unfold isI
  rw [decide_eq_true (show ¬ nI j < nI lo from fun z => by rw [nI_ltI (by omega) (by omega)] at z; omega), decide_eq_true (show ¬ nI hi < nI j from fun z => by rw [nI_ltI (by omega) (by omega)] at z; omega)]
  rfl
theorem has_nat {n : Nat} {v : Int32} (hn : n < 2 ^ 31) (h : has n v = true) : ∃ j : Nat, j < n ∧ v = nI j := by
  unfold has at h
  rw [Bool.and_eq_true] at h
  have h1 := of_decide_eq_true h.1
  have h2 := of_decide_eq_true h.2
  obtain ⟨j, hj, rfl⟩ := nI_of h1
  rw [nI_leI hn hj] at h2
  exact ⟨j, by omega, rfl⟩
theorem has_of {n j : Nat} (hn : n < 2 ^ 31) (h : j < n) : has n (nI j) = true := by
  unfold has
  rw [decide_eq_true (nI_pos (by omega)), decide_eq_true (show ¬ nI n ≤ nI j from fun z => by rw [nI_leI (by omega) (by omega)] at z; omega)]
  rfl
/-- -1, or one of the first n -/
def noneOr (n : Nat) (z : Int32) : Bool := decide (z = -1) || has n z
def kAdd (n : Nat) (σ : Sg) (x y : Int32) : Nat := if isI x (nI 1) (nI 20) = true ∧ isI y (nI 1) (nI 4) = true then (if n = 10 ∨ 0 < σ 17 0 then 2 else 0) else 1
def sAdd (n pl : Nat) (σ : Sg) (x y : Int32) : Sg := up2 (up2 (up2 σ 0 n x) 1 n y) 2 n (nI pl)
def kPost (n : Nat) (x y : Int32) : Nat := if isI x (nI 0) (nI 1) = true ∧ noneOr n y = true then 0 else 1
def sPost (n : Nat) (σ : Sg) (x y : Int32) : Sg := if kPost n x y = 0 then up2 σ 7 (nN x) y else σ
def vPost (n : Nat) (σ : Sg) (x y : Int32) : Int32 := if kPost n x y = 0 then σ 7 (nN x) else nI 0
def kWind (x y : Int32) : Nat := if isI x (nI 0) (nI 9) = true then (if isI y (nI 0) (nI 9) = true then 0 else 2) else 1
def sWind (σ : Sg) (x y : Int32) : Sg := if kWind x y = 0 then up2 σ 3 (nN x) y else σ
def vWind (σ : Sg) (x y : Int32) : Int32 := if kWind x y = 0 then σ 3 (nN x) else nI 0
def kCome (nw : Nat) (x y z : Int32) : Nat := if isI x (nI 1) (nI 3) = true ∧ isI y (nI 0) (nI 200) = true ∧ isI z (nI 0) (nI 9) = true then (if nw = 20 then 2 else 0) else 1
def sCome (nw : Nat) (σ : Sg) (x y z : Int32) : Sg := up2 (up2 (up2 (up2 σ 4 nw x) 5 nw z) 10 nw y) 11 nw (if nI 0 < y then nI 1 else nI 0)
def kTrim (nw : Nat) (σ : Sg) (x y : Int32) : Nat := if has nw x = true then (if isI y (nI 1) (nI 200) = true then (if σ 12 (nN x) = nI 2 then 3 else 0) else 2) else 1
def wTrim (σ : Sg) (x y : Int32) : Int32 := if σ 10 (nN x) + y < nI 200 then σ 10 (nN x) + y else nI 200
def sTrim (nw : Nat) (σ : Sg) (x y : Int32) : Sg := if kTrim nw σ x y = 0 then up2 (up2 σ 10 (nN x) (wTrim σ x y)) 11 (nN x) (nI 1) else σ
def vTrim (nw : Nat) (σ : Sg) (x y : Int32) : Int32 := if kTrim nw σ x y = 0 then wTrim σ x y else nI 0
def kSong (ns : Nat) (x : Int32) : Nat := if isI x (nI 1) (nI 9) = true then (if ns = 6 then 2 else 0) else 1
def nSong (ns : Nat) (x : Int32) : Nat := if kSong ns x = 0 then ns + 1 else ns
def sSong (ns : Nat) (σ : Sg) (x : Int32) : Sg := if kSong ns x = 0 then up2 σ 6 ns x else σ
def vSong (ns : Nat) (x : Int32) : Int32 := if kSong ns x = 0 then nI ns else nI 0
def kTeach (nw ns : Nat) (x y z : Int32) : Nat := if has nw x = true ∧ has ns y = true then (if isI z (nI 0) (nI 99) = true then 0 else 2) else 1
def sTeach (nw ns : Nat) (σ : Sg) (x y z : Int32) : Sg := if kTeach nw ns x y z = 0 then up2 σ 16 (6 * nN x + nN y) z else σ
def vTeach (nw ns : Nat) (σ : Sg) (x y z : Int32) : Int32 := if kTeach nw ns x y z = 0 then σ 16 (6 * nN x + nN y) else nI 0
def kTwo (n : Nat) (hi : Nat) (x y : Int32) : Nat := if has n x = true ∧ isI y (nI 0) (nI hi) = true then 0 else 1
def kKnow (nw ns : Nat) (x y : Int32) : Nat := if has nw x = true ∧ has ns y = true then 0 else 1
def vKnow (nw ns : Nat) (σ : Sg) (x y : Int32) : Int32 := if kKnow nw ns x y = 0 then σ 16 (6 * nN x + nN y) else nI 0
def kPass (n : Nat) (x : Int32) : Nat := if isI x (nI 1) (nI 200) = true then (if n = 0 then 2 else 0) else 1
def kCount (x : Int32) : Nat := if isI x (nI 0) (nI 10) = true then 0 else 1
def ifk (k : Nat) (v : Int32) : Int32 := if k = 0 then v else nI 0
theorem ifk_0 {k : Nat} {v : Int32} (h : k = 0) : ifk k v = v := if_pos h
theorem ifk_n {k : Nat} {v : Int32} (h : ¬ k = 0) : ifk k v = nI 0 := if_neg h
theorem c_X3_isI (l : Launch) (D : va_G) (cI cZ cL cO : ClassId) (H : Heap) (v lo hi : Int32) : Met l yX3_isIn wsX3_isIn ({ frames := 0, cells := 0, slots := 0, locals := 0 } : Room) (ro_P D (T4 cI cZ cL cO) ([]) H [.int v, .int lo, .int hi]) (ro_Q (zI (isI v lo hi)) H) 0 0 (fun _ => False) := c_X3_isIn l D cI cZ cL cO H v lo hi
