/-! ROWS OF ROWS: what is kept and brought back -/
def kRef (b : Nat → Nat) : Nat → Option Nat := va_up (va_up (va_up (va_up (va_up (fun _ => none) 0 (some (b 14))) 1 (some (b 15))) 2 (some (b 16))) 3 (some (b 17))) 4 (some (b 18))
def kW (cI cO : ClassId) (b : Nat → Nat) (nw : Nat) (σ : Sg) : va_W :=
  [(b 13, .inl (cO, 5, .inr (.inr (.inr (.inr (kRef b)))))), (b 14, .inl (cI, 50, .inl (encR σ))), (b 15, .inl (cI, 2, .inl (σ 7))), (b 16, .inl (cI, 160, .inl (encP nw σ))), (b 17, .inl (cI, 120, .inl (σ 16))), (b 18, .inl (cI, 1, .inl (σ 17)))]
/-- the model's world at σ', with the rows σ kept -/
def wMK (cI cZ cO : ClassId) (b : Nat → Nat) (th : Int32) (n nw ns : Nat) (σ' σ η : Sg) : va_W := wM cI cZ b th n nw ns σ' η ++ kW cI cO b nw σ
section LKP
variable {p : Program} {l : Launch} {e : Env} {R : Room} {s : State} {m : MethodId} {args : Array Value} {below : List Frame} {meth : Method} {c : Code} {H H1 : Heap} {locs : List Loc} {cells slots : Nat} {Q : State → Prop}
variable {cc : ByteArray} {pc : Nat} {ls : Array Slot} {rest st0 : List Value} {D : va_G} {w w' : va_W} {A A0 A1 : Nat → Prop} {H0 : Heap} {cI cZ cL cO : ClassId} {a b : Nat → Nat} {th : Int32} {n nw ns : Nat} {σ σ' σ'' η η' : Sg}
theorem kW_adr : ∀ (k : Nat) (q : Nat × va_E), (kW cI cO b nw σ)[k]? = some q → k < 6 ∧ q.1 = b (13 + k)
  | 0, q, h => by cases h; exact ⟨by decide, rfl⟩
  | 1, q, h => by cases h; exact ⟨by decide, rfl⟩
  | 2, q, h => by cases h; exact ⟨by decide, rfl⟩
  | 3, q, h => by cases h; exact ⟨by decide, rfl⟩
  | 4, q, h => by cases h; exact ⟨by decide, rfl⟩
  | 5, q, h => by cases h; exact ⟨by decide, rfl⟩
  | k + 6, q, h => by exact absurd (List.getElem?_eq_some_iff.mp h).1 (by show ¬ k + 6 < 6; omega)
theorem wMK_adr (k : Nat) (q : Nat × va_E) (h : (wMK cI cZ cO b th n nw ns σ' σ η)[k]? = some q) : k < 19 ∧ q.1 = b k := by
  unfold wMK at h
  have hw : (wM cI cZ b th n nw ns σ' η).length = 13 := rfl
  by_cases h1 : k < 13
  · rw [List.getElem?_append_left (by rw [hw]; exact h1)] at h
    exact ⟨by omega, (wM_adr k q h).2⟩
  · rw [List.getElem?_append_right (by rw [hw]; omega), hw] at h
    obtain ⟨h2, h3⟩ := kW_adr _ q h
    exact ⟨by omega, by rw [h3]; congr 1; omega⟩
theorem okP.DK (h : okP A b 19) : va_D A (wMK cI cZ cO b th n nw ns σ' σ η) := by
  refine ⟨fun i j p q hi hj hpq => ?_, fun k q hk => ?_⟩
  · obtain ⟨h1, h2⟩ := wMK_adr i p hi
    obtain ⟨h3, h4⟩ := wMK_adr j q hj
    exact h.1 i j h1 h3 (by rw [← h2, ← h4]; exact hpq)
  · obtain ⟨h1, h2⟩ := wMK_adr k q hk
    rw [h2]
    exact h.2 k h1
theorem okP.ofK (hD : va_D A (wMK cI cZ cO b th n nw ns σ' σ η)) : okP A b 19 := by
  have hl : (wMK cI cZ cO b th n nw ns σ' σ η).length = 19 := rfl
  have ex : ∀ k, k < 19 → ∃ p, (wMK cI cZ cO b th n nw ns σ' σ η)[k]? = some p ∧ p.1 = b k := fun k hk => by
    have h1 := List.getElem?_eq_getElem (l := wMK cI cZ cO b th n nw ns σ' σ η) (by rw [hl]; exact hk)
    exact ⟨_, h1, (wMK_adr k _ h1).2⟩
  refine ⟨fun i j hi hj e => ?_, fun k hk => ?_⟩
  · obtain ⟨p, h1, h2⟩ := ex i hi
    obtain ⟨q, h3, h4⟩ := ex j hj
    exact hD.1 i j p q h1 h3 (by rw [h2, h4]; exact e)
  · obtain ⟨p, h1, h2⟩ := ex k hk
    rw [← h2]
    exact hD.2 k p h1
theorem okP.M {N M : Nat} (h : okP A b N) (hM : M ≤ N) : okP A b M := ⟨fun i j hi hj => h.1 i j (by omega) (by omega), fun k hk => h.2 k (by omega)⟩
/-- the first M addresses -/
def A_ (b : Nat → Nat) (M : Nat) : Nat → Prop := fun q => ∃ k, k < M ∧ q = b k
theorem okP.A_ {N M : Nat} (h : okP A b N) (hM : M ≤ N) : okP (A_ b M) b M := ⟨fun i j hi hj => h.1 i j (by omega) (by omega), fun k hk => ⟨k, hk, rfl⟩⟩
/-- a call on the model alone leaves what is kept -/
theorem mK_join (hA : okP A b 19) (hP : va_P D vwCl (wMK cI cZ cO b th n nw ns σ' σ η) H) {th' : Int32} (hP1 : va_P D vwCl (wM cI cZ b th' n nw ns σ'' η') H1) (hk : ∀ q : Nat, q < H.size → ¬ A_ b 13 q → H1[q]? = H[q]?) : va_P D vwCl (wMK cI cZ cO b th' n nw ns σ'' σ η') H1 := by
  refine va_P.app hP1 (fun k q hq => ?_)
  have hw : (wM cI cZ b th n nw ns σ' η).length = 13 := rfl
  have h0 : (wMK cI cZ cO b th n nw ns σ' σ η)[13 + k]? = some q := by
    unfold wMK
    rw [List.getElem?_append_right (by rw [hw]; omega), hw, show 13 + k - 13 = k by omega]
    exact hq
  obtain ⟨h1, h2⟩ := wMK_adr _ q h0
  refine (hP _ q h0).kept (hk q.1 (hP _ q h0).lt (fun z => ?_))
  obtain ⟨j, hj, e⟩ := z
  have := hA.1 (13 + k) j h1 (by omega) (by rw [← h2]; exact e)
  omega
/-- the class of rows of rows -/
theorem cO_kind (hK : va_K D vwCl (T4 cI cZ cL cO) s) (hO : lwA s) : ∃ k, s.vm.classes[cO]? = some k ∧ k.kind = .array cI (.array .int) ∧ ∃ k', s.vm.classes[cI]? = some k' := by
  obtain ⟨comp, c, k, h1, h2, h3, h4, h5⟩ := arrayOverA_spec (args := #[]) (first := s) (o := none) (idx := []) (t := .int) hO
  have hi : s.vm.findClass "[I" = some cI := va_nm_int (hK.2 0 _ rfl).2
  have h1' : s.vm.findClass "[I" = some comp := h1
  cases hi.symm.trans h1'
  have h6 : s.vm.findClass ("[" ++ (FieldType.array .int).toString) = some cO := (hK.2 3 _ rfl).2
  cases h6.symm.trans h5
  obtain ⟨k', hk', -⟩ := Vm.findClass_spec hi
  exact ⟨k, h3, h4, k', hk'⟩
theorem li_newA (hx : p.tables.exec = Jvm.exec) (hb : c.code = cc) {own : String} {index : Nat} (hown : s.vm.findClass own = some m.cls) (hclink : (Cond.classLink own index "[I").before args s = true) (hO : lwA s) (hK : va_K D vwCl (T4 cI cZ cL cO) s) (hP : va_P D vwCl w H) (hD : va_D A w) (hS : va_S A H0 H locs) (hA : ∀ q, H0.size ≤ q → A q)
    {N : Nat} (hN : N ≤ 200) (hcells : cells + 1 ≤ R.cells) (hslots : slots + N ≤ R.slots) (hdg : decode cc pc = .ok (.anewarray index, 3))
    (kk : ∀ (q : Nat) (G : Heap), va_P D vwCl (w ++ [(q, .inl (cO, N, .inr (.inr (.inr (.inr (fun _ => none))))))]) G → va_D A (w ++ [(q, .inl (cO, N, .inr (.inr (.inr (.inr (fun _ => none))))))]) → va_S A H0 G locs →
      W p l e R s m args below meth c G locs (cells + 1) (slots + N) Q (F0 m (pc + 3) ls (.ref q :: rest))) : W p l e R s m args below meth c H locs cells slots Q (F0 m pc ls (.int (nI N) :: rest)) := by
  have hn : (nI N).toNatClampNeg = N := nI_clamp (by omega)
  refine W.anewA (t := .int) hx hb hown hclink hO rfl hdg rfl (nI_pos (by omega)) (by rw [hn]; omega) hcells (by rw [hn]; exact hslots) fun cA kA comp f1 f2 f3 f4 => ?_
  have f5 : s.vm.findClass ("[" ++ (FieldType.array .int).toString) = some cO := (hK.2 3 _ rfl).2
  cases f5.symm.trans f1
  rw [hn]
  generalize hG : H.push ({ cls := cO, slots := Array.replicate N .null, vm := .none } : Cell) = G
  have z1 : G.size = H.size + 1 := by rw [← hG, Array.size_push]
  have e1 : G[H.size]? = some (arrV cO N (fun _ => .null)) := by rw [← hG, Array.getElem?_push_size, ← arrV_new]
  have o1 : ∀ q : Nat, q < H.size → G[q]? = H[q]? := fun q hq => by rw [← hG, Array.getElem?_push, if_neg (Nat.ne_of_lt hq)]
  refine kk H.size G ((hP.kept (fun k x hx => o1 x.1 ((hP k x hx).lt))).app (fun k x hx => ?_)) (hD.push hP rfl (hA _ hS.1)) ⟨Nat.le_trans hS.1 (by omega), fun x h1 h2 => (o1 x (Nat.lt_of_lt_of_le h1 hS.1)).trans (hS.2.1 x h1 h2), hS.2.2⟩
  have hz : k < 1 := (List.getElem?_eq_some_iff.mp hx).1
  rw [show k = 0 by omega] at hx
  cases hx
  show G[H.size]? = some (vp_cell _ _)
  rw [vp_cell_q]
  exact e1
theorem li_aast (hx : p.tables.exec = Jvm.exec) (hb : c.code = cc) (hO : lwA s) (hK : va_K D vwCl (T4 cI cZ cL cO) s) (hP : va_P D vwCl w H) (hD : va_D A w) (hS : va_S A H0 H locs) (q0 qk : Nat) {N v a0 N1 : Nat} {f : Nat → Option Nat} {g : Nat → Int32} (ha : w[q0]? = some (a0, .inl (cO, N, .inr (.inr (.inr (.inr f)))))) (hv : w[qk]? = some (v, .inl (cI, N1, .inl g))) {i : Nat} (hi : i < N) (hN : N ≤ 200) (hdg : decode cc pc = .ok (.aastore, 1))
    (kk : ∀ (G : Heap) (locs1 : List Loc), va_P D vwCl (w.set q0 (a0, .inl (cO, N, .inr (.inr (.inr (.inr (va_up f i (some v)))))))) G → va_D A (w.set q0 (a0, .inl (cO, N, .inr (.inr (.inr (.inr (va_up f i (some v)))))))) → va_S A H0 G locs1 → W p l e R s m args below meth c G locs1 cells slots Q (F0 m (pc + 1) ls rest)) : W p l e R s m args below meth c H locs cells slots Q (F0 m pc ls (.ref v :: .int (nI i) :: .ref a0 :: rest)) := by
  obtain ⟨k, k1, k2, k', k3⟩ := cO_kind hK hO
  have hc : (nI i).toNatClampNeg = i := nI_clamp (by omega)
  refine W.aast hx hb (hP q0 _ ha) (fun q h => by cases h) (fun h => by cases h) k1 k2 rfl k3 ⟨nI_pos (by omega), by rw [hc]; show i < (arrV _ _ _).slots.size; rw [arrV_size]; exact hi⟩ (hP qk _ hv) (fun q h => by cases h) k3 (va_asg _ _) rfl rfl hdg fun G e z oq => ?_
  rw [hc] at e
  refine kk G _ (hP.set hD ha ?_ oq) (hD.set ha) (hS.put z oq (hD.2 q0 _ ha))
  show G[a0]? = some (vp_cell _ _)
  rw [e]
  rw [vp_cell_q, vp_cell_q, arrV_store]
  congr 2
  funext q
  by_cases hq : q = i
  · subst hq
    simp [updV, va_up, va_rf]
  · simp [updV, va_up, hq]
theorem li_aald (hx : p.tables.exec = Jvm.exec) (hb : c.code = cc) (hK : va_K D vwCl (T4 cI cZ cL cO) s) (hP : va_P D vwCl w H) (q0 : Nat) {N a0 v : Nat} {f : Nat → Option Nat} (ha : w[q0]? = some (a0, .inl (cO, N, .inr (.inr (.inr (.inr f)))))) {i : Nat} (hi : i < N) (hN : N ≤ 200) (hf : f i = some v) (hdg : decode cc pc = .ok (.aaload, 1))
    (kk : W p l e R s m args below meth c H locs cells slots Q (F0 m (pc + 1) ls (.ref v :: rest))) : W p l e R s m args below meth c H locs cells slots Q (F0 m pc ls (.int (nI i) :: .ref a0 :: rest)) := by
  have hc : (nI i).toNatClampNeg = i := nI_clamp (by omega)
  exact W.aald (v := .ref v) (ty := .array .int) hx hb (hP q0 _ ha) ((hK.2 3 _ rfl).1 N (fun j => va_rf (f j))) rfl (fun q => by cases q) (by show ¬ (nI i < 0 ∨ (arrV cO N (fun j => va_rf (f j))).slots.size ≤ (nI i).toNatClampNeg); rw [arrV_size, hc]; exact fun z => z.elim (nI_pos (by omega)) (fun y => by omega)) (by rw [hc]; show (arrV cO N (fun j => va_rf (f j))).slots[i]? = _; rw [arrV_read _ _ hi, hf]; rfl) rfl rfl hdg kk
end LKP
