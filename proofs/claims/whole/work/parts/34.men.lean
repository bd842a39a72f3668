/-! MANY STEPS of the model -/
def meN (n pl nw ns : Nat) : Nat → P2 → P2
  | 0, x => x
  | k + 1, x => (ms5 n pl nw ns (meN n pl nw ns k x).1 (meN n pl nw ns k x).2, me5 n pl nw ns (meN n pl nw ns k x).1 (meN n pl nw ns k x).2)
def LZ (nw ns : Nat) (η : Sg) : Prop := ∀ i, ¬ (i / 6 < nw ∧ i % 6 < ns) → η 0 i = 0
theorem me5_0 {n pl nw ns : Nat} {σ η : Sg} : me5 n pl nw ns σ η 0 = lnR (ms1 nw σ η) nw ns nw 0 (η 0) := by
  unfold me5 tuE thE me3 wnE thE me2 lnE me1 lgE va_up
  simp
theorem me5_LZ {n pl nw ns : Nat} {σ η : Sg} (h : LZ nw ns η) : LZ nw ns (me5 n pl nw ns σ η) := by
  intro i hi
  rw [me5_0]
  unfold lnR
  rw [if_neg (fun z => z.elim hi (fun y => absurd y.2 (Nat.not_lt_zero _)))]
  exact h i hi
theorem INV_ms5 {n pl nw ns t : Nat} {σ η κ : Sg} (hI : INV n pl nw ns t σ) (hL : LZ nw ns η) : ms5 n pl nw ns σ η = (tsF n pl nw ns (σ, κ)).1 := by
  obtain ⟨hB, hok, hwz, hRF, hPB, hL1, hSV, hKZ, hOZ⟩ := hI
  exact ms5_eq hok.1 hwz hPB hSV hB.2.1 hB.2.2.1 hB.2.2.2 hL
theorem meN_inv {n pl nw ns t : Nat} {x : P2} (κ : Sg) (hn : 0 < n) (hI : INV n pl nw ns t x.1) (hL : LZ nw ns x.2) : ∀ k, INV n pl nw ns (t + k) (meN n pl nw ns k x).1 ∧ LZ nw ns (meN n pl nw ns k x).2 ∧ (meN n pl nw ns k x).1 = (tsN n pl nw ns k (x.1, κ)).1
  | 0 => ⟨hI, hL, rfl⟩
  | k + 1 => by
    obtain ⟨h1, h2, h3⟩ := meN_inv κ hn hI hL k
    have e : ms5 n pl nw ns (meN n pl nw ns k x).1 (meN n pl nw ns k x).2 = (tsF n pl nw ns (tsN n pl nw ns k (x.1, κ))).1 := by
      rw [INV_ms5 (κ := (tsN n pl nw ns k (x.1, κ)).2) h1 h2, h3]
    refine ⟨?_, me5_LZ h2, e⟩
    show INV n pl nw ns (t + k + 1) (ms5 n pl nw ns (meN n pl nw ns k x).1 (meN n pl nw ns k x).2)
    rw [e]
    exact INV_step hn (by rw [← h3]; exact h1)
def sPass (n pl nw ns : Nat) (x : P2) (p0 : Int32) : P2 := if kPass n p0 = 0 then meN n pl nw ns (nN p0) x else x
def vPass (n pl nw ns : Nat) (x : P2) (p0 : Int32) : Int32 := ifk (kPass n p0) (nI (hm (meN n pl nw ns (nN p0) x).1 nw (nI 2)) - nI (hm x.1 nw (nI 2)))
theorem sub_sub_add (a b c : Int32) : a - b + (c - a) = c - b := by
  apply Int32.toBitVec_inj.mp
  simp only [Int32.toBitVec_add, Int32.toBitVec_sub]
  generalize a.toBitVec = x
  generalize b.toBitVec = y
  generalize c.toBitVec = z
  rw [BitVec.sub_eq_add_neg, BitVec.sub_eq_add_neg, BitVec.sub_eq_add_neg, BitVec.add_comm x (-y), BitVec.add_assoc, BitVec.add_comm z (-x), ← BitVec.add_assoc x, BitVec.add_right_neg, BitVec.zero_add, BitVec.add_comm]
