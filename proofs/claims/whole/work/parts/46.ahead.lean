/-! LOOKING AHEAD, in pure words; the calls' form of the model (notes of no worth) -/
def trj (n pl nw ns : Nat) (σ : Sg) (k : Nat) : Sg := (tsN n pl nw ns k (σ, fun _ _ => 0)).1
theorem trj_any {n pl nw ns t : Nat} {σ κ : Sg} (hn : 0 < n) (hI : INV n pl nw ns t σ) (k : Nat) : (tsN n pl nw ns k (σ, κ)).1 = trj n pl nw ns σ k := by
  have h1 := (meN_inv (x := (σ, fun _ _ => 0)) κ hn hI (fun _ _ => rfl) k).2.2
  have h2 := (meN_inv (x := (σ, fun _ _ => 0)) (fun _ _ => 0) hn hI (fun _ _ => rfl) k).2.2
  exact h1.symm.trans h2
theorem trj_me {n pl nw ns t : Nat} {σ η : Sg} (hn : 0 < n) (hI : INV n pl nw ns t σ) (hL : LZ nw ns η) (k : Nat) : (meN n pl nw ns k (σ, η)).1 = trj n pl nw ns σ k := (meN_inv (x := (σ, η)) (fun _ _ => 0) hn hI hL k).2.2
theorem trj_row {n pl nw ns : Nat} {σ : Sg} {j : Nat} (h : j < 8) (k : Nat) : trj n pl nw ns σ k j = σ j := tsN_row h k
theorem meN_row {n pl nw ns t : Nat} {σ η : Sg} (hn : 0 < n) (hI : INV n pl nw ns t σ) (hL : LZ nw ns η) {j : Nat} (h : j < 8) (k : Nat) : (meN n pl nw ns k (σ, η)).1 j = σ j := by
  rw [trj_me hn hI hL k]
  exact trj_row h k
theorem INV_r {n pl nw ns t : Nat} {σ τ : Sg} (h : INV n pl nw ns t σ) (e : ∀ r, r ≠ 3 → r ≠ 6 → r ≠ 7 → τ r = σ r) : INV n pl nw ns t τ := by
  have e0 := e 0 (by omega) (by omega) (by omega)
  have e1 := e 1 (by omega) (by omega) (by omega)
  have e2 := e 2 (by omega) (by omega) (by omega)
  have e4 := e 4 (by omega) (by omega) (by omega)
  have e5 := e 5 (by omega) (by omega) (by omega)
  have e8 := e 8 (by omega) (by omega) (by omega)
  have e9 := e 9 (by omega) (by omega) (by omega)
  have e10 := e 10 (by omega) (by omega) (by omega)
  have e11 := e 11 (by omega) (by omega) (by omega)
  have e12 := e 12 (by omega) (by omega) (by omega)
  have e13 := e 13 (by omega) (by omega) (by omega)
  have e14 := e 14 (by omega) (by omega) (by omega)
  have e15 := e 15 (by omega) (by omega) (by omega)
  have e16 := e 16 (by omega) (by omega) (by omega)
  have e17 := e 17 (by omega) (by omega) (by omega)
  obtain ⟨hB, hok, hwz, hRF, hPB, hL1, hSV, hKZ, hOZ⟩ := h
  refine ⟨hB, ⟨bz_row hok.1 e11, ?_, ?_⟩, wz_row hwz e10, RF_rows hRF e0 e2, PB_rows e12 e13 hPB, ?_, ?_, ?_, ?_⟩
  · rw [e4]; exact hok.2.1
  · rw [e17]; exact hok.2.2
  · unfold L1; rw [e1]; exact hL1
  · unfold SV; rw [e16, e5]; exact hSV
  · unfold KZ; rw [e16]; exact hKZ
  · unfold OZ; rw [e8, e9, e12, e13, e14, e15]; exact hOZ
theorem INV_7 {n pl nw ns t : Nat} {σ : Sg} (h : INV n pl nw ns t σ) (i : Nat) (x : Int32) : INV n pl nw ns t (up2 σ 7 i x) := INV_r h (fun r _ _ h7 => up2_row _ _ _ _ h7)
/-- foresee -/
def kFor (n : Nat) (x y : Int32) : Nat := if isI x (nI 1) (nI 150) = true then (if isI y (nI 0) (nI 2) = true then (if n = 0 then 3 else 0) else 2) else 1
def foT (nw ns : Nat) (σ : Sg) : Nat → Int32
  | 0 => nI (hm σ nw (nI 2))
  | 1 => nI (lb σ nw)
  | _ => nI (sumN (kn σ nw) ns)
def vFor (n pl nw ns : Nat) (σ : Sg) (x y : Int32) : Int32 := ifk (kFor n x y) (foT nw ns (trj n pl nw ns σ (nN x)) (nN y))
/-- home -/
def hoS (n pl nw ns : Nat) (σ : Sg) (w k : Nat) : Bool := decide (trj n pl nw ns σ k 12 w = nI 2)
def kHome (nw : Nat) (x : Int32) : Nat := if has nw x = true then 0 else 1
def hoV (n pl nw ns : Nat) (σ : Sg) (w : Nat) : Int32 := if σ 12 w = nI 2 then nI 0 else if n = 0 then -1 else oI (fnd (hoS n pl nw ns σ w) 301)
def vHome (n pl nw ns : Nat) (σ : Sg) (x : Int32) : Int32 := ifk (kHome nw x) (hoV n pl nw ns σ (nN x))
theorem hoV_0 {n pl nw ns w : Nat} {σ : Sg} (h : σ 12 w = nI 2) : hoV n pl nw ns σ w = nI 0 := if_pos h
theorem hoV_1 {n pl nw ns w : Nat} {σ : Sg} (h : ¬ σ 12 w = nI 2) (hn : n = 0) : hoV n pl nw ns σ w = -1 := by unfold hoV; rw [if_neg h, if_pos hn]
theorem hoV_s {n pl nw ns w k : Nat} {σ : Sg} (h : ¬ σ 12 w = nI 2) (hn : 0 < n) (hk : k < 301) (hh : fnd (hoS n pl nw ns σ w) k = none) (he : trj n pl nw ns σ k 12 w = nI 2) : hoV n pl nw ns σ w = nI k := by
  unfold hoV
  rw [if_neg h, if_neg (by omega), fnd_s hk hh (decide_eq_true he)]
  rfl
theorem hoV_n {n pl nw ns w : Nat} {σ : Sg} (h : ¬ σ 12 w = nI 2) (hn : 0 < n) (hh : fnd (hoS n pl nw ns σ w) 301 = none) : hoV n pl nw ns σ w = -1 := by
  unfold hoV
  rw [if_neg h, if_neg (by omega), hh]
  rfl
/-- hears -/
def heS (n pl nw ns : Nat) (σ : Sg) (i k : Nat) : Bool := decide (¬ trj n pl nw ns σ k 16 i = 0)
def heV (n pl nw ns : Nat) (σ : Sg) (i : Nat) : Int32 := if ¬ σ 16 i = 0 then nI 0 else if n = 0 then -1 else oI (fnd (heS n pl nw ns σ i) 151)
def vHears (n pl nw ns : Nat) (σ : Sg) (x y : Int32) : Int32 := ifk (kKnow nw ns x y) (heV n pl nw ns σ (6 * nN x + nN y))
theorem heV_0 {n pl nw ns i : Nat} {σ : Sg} (h : ¬ σ 16 i = 0) : heV n pl nw ns σ i = nI 0 := if_pos h
theorem heV_1 {n pl nw ns i : Nat} {σ : Sg} (h : σ 16 i = 0) (hn : n = 0) : heV n pl nw ns σ i = -1 := by unfold heV; rw [if_neg (fun z => z h), if_pos hn]
theorem heV_s {n pl nw ns i k : Nat} {σ : Sg} (h : σ 16 i = 0) (hn : 0 < n) (hk : k < 151) (hh : fnd (heS n pl nw ns σ i) k = none) (he : ¬ trj n pl nw ns σ k 16 i = 0) : heV n pl nw ns σ i = nI k := by
  unfold heV
  rw [if_neg (fun z => z h), if_neg (by omega), fnd_s hk hh (decide_eq_true he)]
  rfl
theorem heV_n {n pl nw ns i : Nat} {σ : Sg} (h : σ 16 i = 0) (hn : 0 < n) (hh : fnd (heS n pl nw ns σ i) 151 = none) : heV n pl nw ns σ i = -1 := by
  unfold heV
  rw [if_neg (fun z => z h), if_neg (by omega), hh]
  rfl
theorem le0_z {nw i : Nat} {σ : Sg} (h : SV nw σ) (hx : σ 16 i ≤ 0) : σ 16 i = 0 := Int32.le_antisymm hx (h.1 i)
theorem le0_n {x : Int32} (hx : ¬ x ≤ 0) : ¬ x = 0 := fun z => hx (by rw [z]; exact Int32.le_refl _)
/-- advise -/
def kAdv (n : Nat) (x y : Int32) : Nat := if isI x (nI 0) (nI 1) = true then (if isI y (nI 1) (nI 100) = true then (if n = 0 then 3 else 0) else 2) else 1
def sI : Nat → Int32
  | 0 => -1
  | k + 1 => nI k
theorem sI_s : ∀ k, sI k + Int32.ofInt (1 : Int) = sI (k + 1)
  | 0 => by decide
  | k + 1 => nI_inc k 1
theorem sI_ge {n k : Nat} (hn : n < 2 ^ 31) (hk : k < 2 ^ 31) (h : nI n ≤ sI k) : n < k := by
  cases k with
  | zero => exact absurd (Int32.lt_of_lt_of_le (m1_lt hn) h) (by decide)
  | succ k =>
    have := (nI_leI (by omega) (by omega)).mp h
    omega
theorem sI_lt {n k : Nat} (hn : n < 2 ^ 31) (hk : k < 2 ^ 31) (h : ¬ nI n ≤ sI k) : k ≤ n := by
  cases k with
  | zero => exact Nat.zero_le _
  | succ k =>
    have : ¬ n ≤ k := fun z => h ((nI_leI (by omega) (by omega)).mpr z)
    omega
def adI (n pl nw ns : Nat) (σ : Sg) (st m k : Nat) : Int32 := nI (hm (trj n pl nw ns (up2 σ 7 st (sI k)) m) nw (nI 2))
def adv (n pl nw ns : Nat) (σ : Sg) (st m : Nat) : Nat → Int32 × Int32
  | 0 => (-1, -1)
  | k + 1 => if (adv n pl nw ns σ st m k).2 < adI n pl nw ns σ st m k then (sI k, adI n pl nw ns σ st m k) else adv n pl nw ns σ st m k
theorem adv_a {n pl nw ns st m k : Nat} {σ : Sg} (h : (adv n pl nw ns σ st m k).2 < adI n pl nw ns σ st m k) : adv n pl nw ns σ st m (k + 1) = (sI k, adI n pl nw ns σ st m k) := if_pos h
theorem adv_b {n pl nw ns st m k : Nat} {σ : Sg} (h : ¬ (adv n pl nw ns σ st m k).2 < adI n pl nw ns σ st m k) : adv n pl nw ns σ st m (k + 1) = adv n pl nw ns σ st m k := if_neg h
def vAdv (n pl nw ns : Nat) (σ : Sg) (x y : Int32) : Int32 := ifk (kAdv n x y) (adv n pl nw ns σ (nN x) (nN y) (n + 1)).1
/-! a call of the model that leaves the rows, and notes of no worth -/
def me_Q (D : va_G) (v : Int32) (cI cZ : ClassId) (a : Nat → Nat) (th : Int32) (n nw ns : Nat) (σ : Sg) (A : Nat → Prop) : Array Value → State → Outcome → State → Prop :=
  va_Qi (fun (r : Int32) (e : Sg) => r = v ∧ LZ nw ns e) (fun e t => va_P D vwCl (wM cI cZ a th n nw ns σ e) t.heap) A
theorem me_of {l : Launch} {y : MethodName} {ws ws' : List Cond} {rm : Room} {cc : ByteArray} {maxL mc ms : Nat} {ty : FieldType} {av : List Value} {D : va_G} {tys : List (ClassId × FieldType)} {w : va_W} {H : Heap} {v : Int32} {A : Nat → Prop} {cI cZ : ClassId} {a : Nat → Nat} {th : Int32} {n nw ns : Nat} {σ : Sg} (hy : plainName y.cls = true) (hw : ws = Cond.code y cc maxL (some ty) :: ws') (hlen : (lg_sl av).length ≤ maxL) (hn : narrow ty (.int v) = .int v)
    (body : ∀ (p : Program) (e : Env) (s : State) (m : MethodId) (args : Array Value) (below : List Frame) (meth : Method) (c : Code) (Q : State → Prop) (ls : Array Slot) (locs : List Loc),
      p.tables.exec = Jvm.exec → c.code = cc → c.maxLocals = maxL → s.vm.findClass y.cls = some m.cls → (∀ w ∈ ws, w.before args s = true) → va_K D vwCl tys s → lwE s → va_P D vwCl w H → lv_has ls maxL (lv_args 0 av) → va_S A H H locs →
      (∀ (pc : Nat) (ls : Array Slot) (H1 : Heap) (locs : List Loc) (k k2 : Nat) (e9 : Sg), k ≤ mc → k2 ≤ ms → decode cc pc = .ok (.ireturn, 1) → LZ nw ns e9 → va_P D vwCl (wM cI cZ a th n nw ns σ e9) H1 → va_S A H H1 locs → W p l e rm s m args below meth c H1 locs k k2 Q (F0 m pc ls [.int v])) →
      W p l e rm s m args below meth c H locs 0 0 Q (F0 m 0 ls [])) : Met l y ws rm (ro_P D tys w H av) (me_Q D v cI cZ a th n nw ns σ A) mc ms A := by
  refine Met.ofW (cc := cc) (maxL := maxL) (ret := some ty) hy hw ?_
  intro p e s m args below meth c s₁ B hml hv
  obtain ⟨rfl, rfl, hP, hK, hE⟩ := hv
  have hx := B.exec
  have hb := B.bytes
  have hr := B.returns
  have hts := atoms_spec (ws := ws) B.pre
  have hown : s.vm.findClass y.cls = some m.cls := findClass_of_methodNamed B.named
  have hlocks := B.notSynchronized
  have hl := lv_entry av (n := maxL) hlen
  rw [lg_entry_eq]
  generalize (lg_sl av ++ List.replicate (maxL - (lg_sl av).length) Slot.unset).toArray = ls at hl ⊢
  exact body p e s m _ below meth c _ ls [] hx hb hml hown hts hK hE hP hl va_S.rf (fun pc ls H1 locs k k2 e9 hk hn2 hd hL hP1 hS => w_wide hk hn2 (W.zret (v := v) hx hb hr hn (fun t ht hW => ⟨⟨v, e9, rfl, ⟨rfl, hL⟩, by show va_P D vwCl _ t.heap; rw [ht]; exact hP1⟩, hS.F ht⟩) hS.2.2 hd hlocks))
theorem AN_AN {A : Nat → Prop} {H G : Heap} (h : H.size ≤ G.size) : ∀ q, AN (AN A H) G q → AN A H q := fun q z => z.elim id (fun y => Or.inr (Nat.le_trans h y))
theorem stK_7 {cI cZ cO : ClassId} {b : Nat → Nat} {th : Int32} {n nw ns : Nat} {σ' σ η : Sg} {i : Nat} {x : Int32} : (wMK cI cZ cO b th n nw ns σ' σ η).set 2 (b 2, .inl (cI, 2, .inl (upd (σ' 7) i x))) = wMK cI cZ cO b th n nw ns (up2 σ' 7 i x) σ η := by
  unfold wMK
  rw [← stM_7]
  rfl
