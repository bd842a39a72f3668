/-! SPEC: what the parade's questions answer, over the rows σ of a world (06): pure words, no machine. -/
abbrev Sg : Type := Nat → Nat → Int32
def anyN (p : Nat → Bool) : Nat → Bool
  | 0 => false
  | k + 1 => anyN p k || p k
def sumN (f : Nat → Nat) : Nat → Nat
  | 0 => 0
  | k + 1 => sumN f k + f k
def fnd (p : Nat → Bool) : Nat → Option Nat
  | 0 => none
  | k + 1 => match fnd p k with
    | some j => some j
    | none => if p k then some k else none
def oI : Option Nat → Int32
  | none => -1
  | some j => nI j
def hmS (σ : Sg) (x : Int32) (w : Nat) : Bool := decide (σ 12 w = x)
def hm (σ : Sg) (nw : Nat) (x : Int32) : Nat := cnt (hmS σ x) nw
def lbS (σ : Sg) (w : Nat) : Bool := decide (σ 12 w = nI 1) && decide (¬ σ 11 w = 0)
def lb (σ : Sg) (nw : Nat) : Nat := cnt (lbS σ) nw
def knS (σ : Sg) (s : Nat) (w : Nat) : Bool := decide (¬ σ 16 (6 * w + s) = 0)
def kn (σ : Sg) (nw s : Nat) : Nat := cnt (knS σ s) nw
def kvS (σ : Sg) (s : Nat) (v : Int32) (w : Nat) : Bool := decide (σ 16 (6 * w + s) = v)
def kv (σ : Sg) (nw s : Nat) (v : Int32) : Nat := cnt (kvS σ s v) nw
def vsS (σ : Sg) (nw s : Nat) (k : Nat) : Bool := decide (0 < kv σ nw s (nI (k + 1)))
def vs (σ : Sg) (nw s : Nat) : Nat := cnt (vsS σ nw s) 99
/-- the commonest version of the first k, and how many know it -/
def cm (σ : Sg) (nw s : Nat) : Nat → Nat × Nat
  | 0 => (0, 0)
  | k + 1 => if (cm σ nw s k).2 < kv σ nw s (nI (k + 1)) then (k + 1, kv σ nw s (nI (k + 1))) else cm σ nw s k
def lt_ (σ : Sg) (s : Nat) : Nat → Int32
  | 0 => σ 1 s
  | k + 1 => if σ 7 k = nI s then lt_ σ s k + 1 else lt_ σ s k
def onS (σ : Sg) (s : Nat) (w : Nat) : Bool := decide (σ 12 w = nI 1) && (decide (¬ σ 13 w < σ 2 s) && decide (¬ σ 2 s + σ 0 s ≤ σ 13 w))
def on (σ : Sg) (nw s : Nat) : Nat := cnt (onS σ s) nw
def waS (σ : Sg) (z : Int32) (w : Nat) : Bool := decide (σ 12 w = nI 1) && decide (σ 13 w = z)
def wa (σ : Sg) (nw : Nat) (z : Int32) : Nat := cnt (waS σ z) nw
def nbr (σ : Sg) (i j : Nat) : Bool := decide (i ≠ j) && (decide (σ 12 i = nI 1) && (decide (σ 12 j = nI 1) && (decide (¬ nI 1 < σ 13 i - σ 13 j) && decide (¬ nI 1 < σ 13 j - σ 13 i))))
def nb (σ : Sg) (nw w : Nat) : Nat := cnt (nbr σ w) nw
def fm (σ : Sg) : Nat → Int32
  | 0 => -1
  | k + 1 => if σ 12 k = nI 1 ∧ ¬ σ 13 k ≤ fm σ k then σ 13 k else fm σ k
def ls_ (σ : Sg) (f : Int32) : Nat → Int32
  | 0 => f
  | k + 1 => if σ 12 k = nI 1 ∧ ¬ ls_ σ f k ≤ σ 13 k then σ 13 k else ls_ σ f k
def bbS (σ κ : Sg) (w o : Nat) : Bool := decide (¬ κ 0 o = 0) && nbr σ w o
def bb (σ κ : Sg) (nw w : Nat) : Bool := anyN (bbS σ κ w) nw
/-- the foremost of the first k who has not gone yet: the place, the walker -/
def fg (σ κ : Sg) : Nat → Int32 × Int32
  | 0 => (-1, -1)
  | k + 1 => if σ 12 k = nI 1 ∧ κ 4 k = 0 ∧ ¬ σ 13 k ≤ (fg σ κ k).1 then (σ 13 k, nI k) else fg σ κ k
def seS (σ : Sg) (z : Int32) (s : Nat) : Bool := decide (σ 2 s + σ 0 s - nI 1 = z)
def se (σ : Sg) (n : Nat) (z : Int32) : Option Nat := fnd (seS σ z) n
/-- an int that names one of the first n -/
def has (n : Nat) (z : Int32) : Bool := decide (¬ z < 0) && decide (¬ nI n ≤ z)
theorem anyN_t {p : Nat → Bool} {k n : Nat} (hk : k < n) (h : p k = true) : anyN p n = true := by
  induction n with
  | zero => omega
  | succ n ih =>
    simp only [anyN, Bool.or_eq_true]
    rcases Nat.lt_or_ge k n with q | q
    · exact Or.inl (ih q)
    · have : k = n := by omega
      subst this
      exact Or.inr h
theorem anyN_f {p : Nat → Bool} {k : Nat} (h1 : anyN p k = false) (h2 : p k = false) : anyN p (k + 1) = false := by simp [anyN, h1, h2]
theorem fnd_lt {p : Nat → Bool} {n j : Nat} (h : fnd p n = some j) : j < n ∧ p j = true := by
  induction n with
  | zero => cases h
  | succ n ih =>
    simp only [fnd] at h
    cases hf : fnd p n with
    | some i =>
      rw [hf] at h
      cases h
      exact ⟨Nat.lt_succ_of_lt (ih hf).1, (ih hf).2⟩
    | none =>
      rw [hf] at h
      by_cases hp : p n = true
      · simp only [hp, if_true] at h
        cases h
        exact ⟨Nat.lt_succ_self _, hp⟩
      · simp only [hp] at h
        cases h
theorem fnd_s {p : Nat → Bool} {k n : Nat} (hk : k < n) (h1 : fnd p k = none) (h2 : p k = true) : fnd p n = some k := by
  induction n with
  | zero => omega
  | succ n ih =>
    simp only [fnd]
    rcases Nat.lt_or_ge k n with q | q
    · rw [ih q]
    · have : k = n := by omega
      subst this
      rw [h1]
      simp [h2]
theorem fnd_n {p : Nat → Bool} {k : Nat} (h1 : fnd p k = none) (h2 : p k = false) : fnd p (k + 1) = none := by simp [fnd, h1, h2]
theorem sumN_le {f : Nat → Nat} {b : Nat} (h : ∀ k, f k ≤ b) (n : Nat) : sumN f n ≤ n * b := by
  induction n with
  | zero => simp [sumN]
  | succ n ih =>
    simp only [sumN, Nat.succ_mul]
    have := h n
    omega
