/-! both are built alike -/
section KTB
variable {D : va_G} {a b : Ka} {G0 H G H1 : Heap} {A : Nat → Prop} {cI cZ cW cO : ClassId} {n nw ns n' nw' ns' cn cpl cnw cns : Nat} {σ η σ' η' cs : Sg} {u : S3} {T : Ke}
theorem kt_mix (hO : kO A [41, 10, n, nw, nw] a) (hP : kP D [41, 10, n, nw, nw] a (eL cI cZ cW cO (xC cI cZ (a 0) cn cpl cnw cns cs u) a n nw ns σ η T) H) (hP1 : kP D (MS n' nw') b (eL cI cZ cW cO (xC cI cZ (a 0) cn cpl cnw cns cs u) b n' nw' ns' σ' η' T) H1) (hO1 : kO (kF (MS n nw) a H.size) (MS n' nw') b)
    (hf : ∀ c i, i < km (MS n' nw') c → (i < km (MS n nw) c ∧ b c i = a c i) ∨ H.size ≤ b c i) (hk : ∀ q : Nat, q < H.size → ¬ kF (MS n nw) a H.size q → H1[q]? = H[q]?) (hA : ∀ q, kF (MS n nw) a H.size q → A q) :
    ∃ a1 : Ka, a1 0 = a 0 ∧ a1 1 0 = b 1 0 ∧ kP D [41, 10, n', nw', nw'] a1 (eL cI cZ cW cO (xC cI cZ (a1 0) cn cpl cnw cns cs u) a1 n' nw' ns' σ' η' T) H1 ∧ kO A [41, 10, n', nw', nw'] a1 := by
  have hx : ∀ i d j, i < 41 → j < km (MS n' nw') d → ¬ a 0 i = b d j := by
    intro i d j hi hj e
    rcases hf d j hj with ⟨h1, h2⟩ | h2
    · rw [h2] at e
      have := (hO.1 0 i d j hi (kLS d j h1) e).1
      subst this
      exact absurd h1 (Nat.not_lt_zero _)
    · have := hP.lt (c := 0) (i := i) hi
      omega
  have hsplit : ∀ c i, i < km [41, 10, n', nw', nw'] (c + 1) → i < km (MS n' nw') (c + 1) := fun c i hi => by
    match c, hi with
    | 0, hi => exact hi
    | 1, hi => exact hi
    | 2, hi => exact hi
    | 3, hi => exact hi
    | c + 4, hi => exact absurd hi (Nat.not_lt_zero _)
  refine ⟨fun c i => match c with | 0 => a 0 i | c + 1 => b (c + 1) i, rfl, rfl, ?_, ?_, ?_⟩
  · intro c i hi
    match c, hi with
    | 0, hi =>
      have h0 := hP 0 i hi
      refine h0.kept (hk _ h0.lt ?_)
      rintro (⟨d, j, hj, e⟩ | h)
      · have := (hO.1 0 i d j hi (kLS d j hj) e).1
        subst this
        exact absurd hj (Nat.not_lt_zero _)
      · have := h0.lt
        have h : H.size ≤ a 0 i := h
        have : a 0 i < H.size := this
        omega
    | 1, hi => exact hP1 1 i (hsplit 0 i hi)
    | 2, hi => exact hP1 2 i (hsplit 1 i hi)
    | 3, hi => exact hP1 3 i (hsplit 2 i hi)
    | 4, hi => exact hP1 4 i (hsplit 3 i hi)
    | c + 5, hi => exact absurd hi (Nat.not_lt_zero _)
  · intro c i d j hi hj e
    match c, d, hi, hj, e with
    | 0, 0, hi, hj, e => exact hO.1 0 i 0 j hi hj e
    | 0, d + 1, hi, hj, e => exact absurd e (hx i (d + 1) j hi (hsplit d j hj))
    | c + 1, 0, hi, hj, e => exact absurd e.symm (hx j (c + 1) i hj (hsplit c i hi))
    | c + 1, d + 1, hi, hj, e => exact hO1.1 (c + 1) i (d + 1) j (hsplit c i hi) (hsplit d j hj) e
  · intro c i hi
    match c, hi with
    | 0, hi => exact hO.2 0 i hi
    | c + 1, hi => exact hA _ (hO1.2 (c + 1) i (hsplit c i hi))
theorem kt_sim {a0 b : Nat → Nat} {u : S3} {q : Nat} {v0 : va_E} (hOk : okP A a0 41) (hP : va_P D vwCl (wX cI cZ a0 0 0 0 0 σ0 u.1 u.2.1 u.2.2) G0) (hv : va_at D vwCl (q, v0) G) (hq : q = G0.size) (hk0 : ∀ x, x < G0.size → G[x]? = G0[x]?)
    (hP1 : va_P D vwCl (wS10 cI cZ cW cO b) H1) (hb0 : b 0 = q) (hD1 : va_D (va_A [(q, v0)] G.size) (wS10 cI cZ cW cO b)) (hk1 : ∀ x : Nat, x < G.size → ¬ va_A [(q, v0)] G.size x → H1[x]? = G[x]?) (hA : ∀ x, G0.size ≤ x → A x) :
    ∃ a : Ka, a 0 = a0 ∧ a 1 0 = b 0 ∧ kP D [41, 10, 0, 0, 0] a (eL cI cZ cW cO (xC cI cZ (a 0) 0 0 0 0 σ0 u) a 0 0 0 σ0 (fun _ _ => 0) T) H1 ∧ kO A [41, 10, 0, 0, 0] a := by
  have hqG : q < G.size := hv.lt
  have hin : ∀ x, va_A [(q, v0)] G.size x → G0.size ≤ x := fun x h => by
    rcases h with ⟨k, e9, h9⟩ | h9
    · cases k with
      | zero => cases h9; omega
      | succ k => cases h9
    · omega
  have hb : ∀ i, i < 10 → (∃ v, (wS10 cI cZ cW cO b)[i]? = some (b i, v)) := fun i hi => by
    rcases (show i = 0 ∨ i = 1 ∨ i = 2 ∨ i = 3 ∨ i = 4 ∨ i = 5 ∨ i = 6 ∨ i = 7 ∨ i = 8 ∨ i = 9 by omega) with rfl | rfl | rfl | rfl | rfl | rfl | rfl | rfl | rfl | rfl <;> exact ⟨_, rfl⟩
  have hbf : ∀ i, i < 10 → G0.size ≤ b i := fun i hi => by
    obtain ⟨v, hv⟩ := hb i hi
    exact hin _ (hD1.2 i _ hv)
  have hlt : ∀ i, i < 41 → a0 i < G0.size := fun i hi => (kX_to hP hi).lt
  refine ⟨fun c i => if c = 0 then a0 i else b i, rfl, rfl, ?_, ?_, ?_⟩
  · intro c i hi
    match c, hi with
    | 0, hi =>
      have h0 := kX_to hP hi
      refine h0.kept ?_
      have hl := hlt i hi
      exact (hk1 _ (by show a0 i < G.size; omega) (fun z => by have := hin _ z; have : G0.size ≤ a0 i := this; omega)).trans (hk0 _ hl)
    | 1, hi =>
      have hi : i < 10 := hi
      rcases (show i = 0 ∨ i = 1 ∨ i = 2 ∨ i = 3 ∨ i = 4 ∨ i = 5 ∨ i = 6 ∨ i = 7 ∨ i = 8 ∨ i = 9 by omega) with rfl | rfl | rfl | rfl | rfl | rfl | rfl | rfl | rfl | rfl
      · exact hP1 0 _ rfl
      · have := hP1 1 _ rfl
        show va_at D vwCl (b 1, .inl (cO, 0, .inr (.inr (.inr (.inr (rfs 0 _)))))) H1
        rw [rfs_0]
        exact this
      · exact hP1 2 _ rfl
      · exact hP1 3 _ rfl
      · have := hP1 4 _ rfl
        show va_at D vwCl (b 4, .inl (cW, 0, .inr (.inr (.inr (.inr (rfs 0 _)))))) H1
        rw [rfs_0]
        exact this
      · exact hP1 5 _ rfl
      · exact hP1 6 _ rfl
      · exact hP1 7 _ rfl
      · exact hP1 8 _ rfl
      · exact hP1 9 _ rfl
    | 2, hi => exact absurd hi (Nat.not_lt_zero _)
    | 3, hi => exact absurd hi (Nat.not_lt_zero _)
    | 4, hi => exact absurd hi (Nat.not_lt_zero _)
    | c + 5, hi => exact absurd hi (Nat.not_lt_zero _)
  · intro c i d j hi hj e
    match c, d, hi, hj, e with
    | 0, 0, hi, hj, e => exact ⟨rfl, hOk.1 i j hi hj e⟩
    | 0, 1, hi, hj, e =>
      have h1 := hlt i hi
      have h2 := hbf j hj
      have e : a0 i = b j := e
      omega
    | 1, 0, hi, hj, e =>
      have h1 := hlt j hj
      have h2 := hbf i hi
      have e : b i = a0 j := e
      omega
    | 1, 1, hi, hj, e =>
      obtain ⟨v1, h1⟩ := hb i hi
      obtain ⟨v2, h2⟩ := hb j hj
      exact ⟨rfl, hD1.1 i j _ _ h1 h2 e⟩
    | 2, _, hi, _, _ => exact absurd hi (Nat.not_lt_zero _)
    | 3, _, hi, _, _ => exact absurd hi (Nat.not_lt_zero _)
    | 4, _, hi, _, _ => exact absurd hi (Nat.not_lt_zero _)
    | c + 5, _, hi, _, _ => exact absurd hi (Nat.not_lt_zero _)
    | _, 2, _, hj, _ => exact absurd hj (Nat.not_lt_zero _)
    | _, 3, _, hj, _ => exact absurd hj (Nat.not_lt_zero _)
    | _, 4, _, hj, _ => exact absurd hj (Nat.not_lt_zero _)
    | _, d + 5, _, hj, _ => exact absurd hj (Nat.not_lt_zero _)
  · intro c i hi
    match c, hi with
    | 0, hi => exact hOk.2 i hi
    | 1, hi => exact hA _ (hbf i hi)
    | 2, hi => exact absurd hi (Nat.not_lt_zero _)
    | 3, hi => exact absurd hi (Nat.not_lt_zero _)
    | 4, hi => exact absurd hi (Nat.not_lt_zero _)
    | c + 5, hi => exact absurd hi (Nat.not_lt_zero _)
/-- the row of songs in its place -/
theorem kt_songs {X : (Nat → Nat) → Nat → va_E} {N : Nat} (hO : kO A [41, 10, n, nw, nw, 1] a) (hz : ∀ i, i < 6 → σ 6 i = 0) (hN : N ≤ 6)
    (hP : kP D [41, 10, n, nw, nw, 1] a (eup (eL cI cZ cW cO (X (a 0)) a n nw 0 σ η (eup T 0 0 (.inl (cI, N, .inl (fun _ => 0))))) 1 0 (.inr (3, [.ref (a 1 1), .ref (a 1 2), .ref (a 1 3), .ref (a 1 4), .ref (a 5 0), .int (σ 17 0), .ref (a 1 6), .ref (a 1 7), .ref (a 1 8), .ref (a 1 9)]))) H) :
    ∃ a1 : Ka, a1 0 = a 0 ∧ a1 1 0 = a 1 0 ∧ kP D [41, 10, n, nw, nw] a1 (eL cI cZ cW cO (X (a1 0)) a1 n nw N σ η T) H ∧ kO A [41, 10, n, nw, nw] a1 := by
  refine ⟨aup a 1 5 (a 5 0), funext (fun i => aup_ne (by omega)), aup_ne (by omega), ?_, ?_⟩
  · rw [show aup a 1 5 (a 5 0) 0 = a 0 from funext (fun i => aup_ne (by omega))]
    intro c i hi
    match c, hi with
    | 0, hi => exact hP 0 i hi
    | 1, hi =>
      by_cases h5 : i = 5
      · subst h5
        have h0 := hP 5 0 (show 0 < 1 by decide)
        have h0 : H[a 5 0]? = some (vp_cell cI (N, .inl (fun _ => 0))) := h0
        show H[a 5 0]? = some (vp_cell cI (N, .inl (σ 6)))
        rw [h0, vp_cell_ext (fun j hj => (hz j (by omega)).symm)]
      · match i, hi, h5 with
        | 0, hi, _ => exact hP 1 0 (show 0 < 10 by decide)
        | i + 1, hi, h5 =>
          have h0 := hP 1 (i + 1) hi
          rw [eup_ne (fun z => by omega)] at h0
          have hi : i + 1 < 10 := hi
          rcases (show i = 0 ∨ i = 1 ∨ i = 2 ∨ i = 3 ∨ i = 5 ∨ i = 6 ∨ i = 7 ∨ i = 8 by omega) with rfl | rfl | rfl | rfl | rfl | rfl | rfl | rfl <;> exact h0
    | 2, hi => exact hP 2 i hi
    | 3, hi => exact hP 3 i hi
    | 4, hi => exact hP 4 i hi
    | c + 5, hi => exact absurd hi (Nat.not_lt_zero _)
  · exact hO.ren (show 0 < 1 by decide) (fun c i hi => by
      match c, hi with
      | 0, hi => exact ⟨hi, by decide⟩
      | 1, hi => exact ⟨hi, by decide⟩
      | 2, hi => exact ⟨hi, by decide⟩
      | 3, hi => exact ⟨hi, by decide⟩
      | 4, hi => exact ⟨hi, by decide⟩
      | c + 5, hi => exact absurd hi (Nat.not_lt_zero _))
end KTB
/-- what build leaves: the class and the simulation alike -/
def bu_Q (D : va_G) (cI cZ cW cO : ClassId) (a0 : Nat → Nat) (T : Ke) (A : Nat → Prop) : Array Value → State → Outcome → State → Prop :=
  va_Qr (fun (z : Ka × (Nat × Nat × Nat × Nat) × Sg × S3) => LV z.2.1.1 z.2.1.2.1 z.2.1.2.2.1 z.2.1.2.2.2 0 z.2.2.1 ∧ 0 < z.2.1.1 ∧ z.2.1.1 ≤ 6 ∧ 2 ≤ z.2.1.2.2.1 ∧ z.2.1.2.2.2 ≤ 4 ∧ z.1 0 = a0 ∧ kO A [41, 10, z.2.1.1, z.2.1.2.2.1, z.2.1.2.2.1] z.1)
    (fun z q t => q = z.1 1 0 ∧ kP D [41, 10, z.2.1.1, z.2.1.2.2.1, z.2.1.2.2.1] z.1 (eL cI cZ cW cO (xC cI cZ (z.1 0) z.2.1.1 z.2.1.2.1 z.2.1.2.2.1 z.2.1.2.2.2 z.2.2.1 z.2.2.2) z.1 z.2.1.1 z.2.1.2.2.1 z.2.1.2.2.2 z.2.2.1 (fun _ _ => 0) T) t.heap) A
theorem bu_of {l : Launch} {y : MethodName} {ws ws' : List Cond} {rm : Room} {cc : ByteArray} {maxL mc ms : Nat} {av : List Value} {D : va_G} {w : va_W} {H : Heap} {A : Nat → Prop} {cI cZ cW cO : ClassId} {a0 : Nat → Nat} {T : Ke} {b L : Nat} {xs : Nat → Int32} {cn : String} (hy : plainName y.cls = true) (hw : ws = Cond.code y cc maxL (some (.object cn)) :: ws') (hlen : (lg_sl av).length ≤ maxL)
    (body : ∀ (p : Program) (e : Env) (s : State) (m : MethodId) (args : Array Value) (below : List Frame) (meth : Method) (c : Code) (Q : State → Prop) (ls : Array Slot) (locs : List Loc),
      p.tables.exec = Jvm.exec → c.code = cc → c.maxLocals = maxL → s.vm.findClass y.cls = some m.cls → (∀ w ∈ ws, w.before args s = true) → va_K D vwCl (T4 cI cZ cW cO) s → lwE s → va_P D vwCl w H → lv_has ls maxL (lv_args 0 av) → va_S A H H locs → va_X b L xs s H →
      (∀ (pc : Nat) (ls : Array Slot) (H1 : Heap) (locs : List Loc) (k j : Nat) (a : Ka) (n pl nw ns : Nat) (σ : Sg) (u : S3), k ≤ mc → j ≤ ms → decode cc pc = .ok (.areturn, 1) → LV n pl nw ns 0 σ → 0 < n → n ≤ 6 → 2 ≤ nw → ns ≤ 4 → a 0 = a0 → kO A [41, 10, n, nw, nw] a → kP D [41, 10, n, nw, nw] a (eL cI cZ cW cO (xC cI cZ (a 0) n pl nw ns σ u) a n nw ns σ (fun _ _ => 0) T) H1 → va_S A H H1 locs → W p l e rm s m args below meth c H1 locs k j Q (F0 m pc ls [.ref (a 1 0)])) →
      W p l e rm s m args below meth c H locs 0 0 Q (F0 m 0 ls [])) : Met l y ws rm (rx_P D (T4 cI cZ cW cO) w H av b L xs) (bu_Q D cI cZ cW cO a0 T A) mc ms A := by
  refine Met.ofW (cc := cc) (maxL := maxL) (ret := some (.object cn)) hy hw ?_
  intro p e s m args below meth c s₁ B hml hv
  obtain ⟨rfl, ⟨rfl, hP, hK, hE⟩, hX⟩ := hv
  have hx := B.exec
  have hb := B.bytes
  have hr := B.returns
  have hts := atoms_spec (ws := ws) B.pre
  have hown : s.vm.findClass y.cls = some m.cls := findClass_of_methodNamed B.named
  have hlocks := B.notSynchronized
  have hl := lv_entry av (n := maxL) hlen
  rw [lg_entry_eq]
  generalize (lg_sl av ++ List.replicate (maxL - (lg_sl av).length) Slot.unset).toArray = ls at hl ⊢
  exact body p e s m _ below meth c _ ls [] hx hb hml hown hts hK hE hP hl va_S.rf hX (fun pc ls H1 locs k j a n pl nw ns σ u hk hj hd h1 h2 h3 h4 h5 h6 h7 hP1 hS => w_wide hk hj (W.aret (v := .ref (a 1 0)) hx hb hr (Or.inl ⟨cn, rfl⟩) (Or.inr ⟨_, rfl⟩) (fun t ht hW => ⟨⟨(a, (n, pl, nw, ns), σ, u), a 1 0, rfl, ⟨h1, h2, h3, h4, h5, h6, h7⟩, rfl, by show kP D [41, 10, n, nw, nw] a (eL cI cZ cW cO (xC cI cZ (a 0) n pl nw ns σ u) a n nw ns σ (fun _ _ => 0) T) t.heap; rw [ht]; exact hP1⟩, hS.F ht⟩) hS.2.2 hd hlocks))
theorem min4 {y : Nat} (h : y ≤ 4) : (if nI y < nI 4 then nI y else nI 4) = nI y := by
  split
  · rfl
  · rename_i q
    rw [nI_ltI (by omega) (by omega)] at q
    rw [show y = 4 by omega]
set_option maxHeartbeats 8000000 in
set_option maxRecDepth 100000 in
theorem c_L_build (l : Launch) (D : va_G) (cI cZ cW cO : ClassId) (a0 : Nat → Nat) (u : S3) (b L : Nat) (xs : Nat → Int32) (T : Ke) (H : Heap) (A : Nat → Prop) (hL : L ≤ 1000) (hOk : okP A a0 41) (hA : ∀ q, H.size ≤ q → A q) (hbA : ¬ A b) : Met l yL_build wsL_build ({ frames := 7, cells := 80, slots := 900, locals := 107 } : Room) (rx_P D (T4 cI cZ cW cO) (wX cI cZ a0 0 0 0 0 σ0 u.1 u.2.1 u.2.2) H [.ref (a0 40), .ref b] b L xs) (bu_Q D cI cZ cW cO a0 T A) 80 900 A := by
  refine bu_of (cc := cL_build) (maxL := 10) (by decide) rfl (Nat.le_of_ble_eq_true rfl) ?_
  intro p e s m args below meth c Q ls locs hx hb hml hown hts hK hE hP hl hS hX hEnd
  have hP : va_P D vwCl (wX cI cZ a0 0 0 0 0 σ0 u.1 u.2.1 u.2.2) H := hP
  have hl : lv_has ls 10 [(0, .ref (a0 40)), (1, .ref b)] := hl
  have hX3 : ∀ w ∈ wsX30, w.before args s = true := fun w h => hts w (List.mem_cons_of_mem _ (List.mem_append_left _ (List.mem_append_left _ (List.mem_append_left _ (List.mem_append_left _ (List.mem_append_left _ (List.mem_append_left _ (List.mem_append_left _ (List.mem_append_right _ (h))))))))))
  have hX4 : ∀ w ∈ wsX40, w.before args s = true := fun w h => hts w (List.mem_cons_of_mem _ (List.mem_append_left _ (List.mem_append_left _ (List.mem_append_left _ (List.mem_append_left _ (List.mem_append_left _ (List.mem_append_left _ (List.mem_append_right _ (h)))))))))
  have g0 : (Cond.classLink RL 9 RX3).before args s = true := hts _ (List.mem_of_getElem? (i := 1) rfl)
  have g1 : (Cond.instantiable RX3 10).before args s = true := hts _ (List.mem_of_getElem? (i := 2) rfl)
  have g2 : (Cond.initialized RX3).before args s = true := hts _ (List.mem_of_getElem? (i := 3) rfl)
  have g3 : (Cond.instanceMethod yX3_init).before args s = true := hts _ (List.mem_of_getElem? (i := 13) rfl)
  have g4 : (Cond.arrayClass .int).before args s = true := hts _ (List.mem_of_getElem? (i := 9) rfl)
  have f50 : (Cond.fieldLink RL 50 "LanternWalkLaw$Sim" "songs" "[I").before args s = true := hts _ (List.mem_of_getElem? (i := 10) rfl)
  have f60 : (Cond.fieldLink RL 60 "LanternWalkLaw$Sim" "walkers" "[LLanternWalkLaw$Walker;").before args s = true := hts _ (List.mem_of_getElem? (i := 11) rfl)
  have f64 : (Cond.fieldLink RL 64 "LanternWalkLaw$Walker" "knows" "[I").before args s = true := hts _ (List.mem_of_getElem? (i := 12) rfl)
  have f36 : (Cond.fieldLink RL 36 "LanternWalkLaw$Sim" "wind" "[I").before args s = true := hts _ (List.mem_of_getElem? (i := 8) rfl)
  have g9 : (Cond.methodLink RL 22 Lib.Math.min.name).before args s = true := hts _ (List.mem_of_getElem? (i := 4) rfl)
  have g10 : (Cond.static Lib.Math.min.name).before args s = true := hts _ (List.mem_of_getElem? (i := 5) rfl)
  have g11 : (Cond.initialized "java/lang/Math").before args s = true := hts _ (List.mem_of_getElem? (i := 6) rfl)
  have g12 : (Cond.code Lib.Math.min.name Lib.Math.min.code 2 (some .int)).before args s = true := hts _ (List.mem_of_getElem? (i := 7) rfl)
  have hbl : b < H.size := (Array.getElem?_eq_some_iff.mp hX.choose_spec.1).1
  have hLV0 := LV_0
  refine lk_new3 hx hb hX3 hown g0 g1 g2 hK hS (Nat.le_of_ble_eq_true rfl) (Nat.le_of_ble_eq_true rfl) dL_build_0 (fun q G hq hv hk hS => ?_)
  have hG2 := hv.lt
  refine lv_dup hx hb dL_build_3 rfl ?_
  have hPc := kt_one hv
  have hFc : ∀ x, va_A [(q, .inr (3, [.null, .null, .null, .null, .null, .int 0, .null, .null, .null, .null]))] G.size x → A x := fun x h => by
    rcases h with ⟨k9, e9, h9⟩ | h9
    · cases k9 with
      | zero => cases h9; exact hA _ (by omega)
      | succ k9 => cases h9
    · exact hA _ (by omega)
  refine va_callv (va_runIN (As := []) (rest := [.ref q]) ⟨hx, hb, hml, hown, hts⟩ (c_X3_init l D cI cZ cW cO q G (va_A [(q, .inr (3, [.null, .null, .null, .null, .null, .int 0, .null, .null, .null, .null]))] G.size) (Or.inl ⟨0, _, rfl⟩) (fun _ h => Or.inr h)) ⟨va_cnB 0 hts gL_build_X3_init_n11 rfl rfl rfl hE.2.2.1 g2 (by decide +kernel) ⟨Nat.le_of_ble_eq_true rfl, Nat.le_of_ble_eq_true rfl⟩, rfl, g3⟩ ⟨ro_blind, fun U hU hW => ⟨rfl, hU, hPc, va_K.moved hW.alike hK, lwE.warm hW hE⟩⟩ rfl rfl hl.1 rfl (lv_room (Nat.le_of_ble_eq_true rfl)) dL_build_4 ⟨Nat.le_of_ble_eq_true rfl, Nat.le_of_ble_eq_true rfl⟩) hS (fun q _ h => hFc q h) hFc (fun bb t H1 locs ht hvm hpx hB hz9 hk1 hS => ?_)
  have hP1 : va_P D vwCl (wS10 cI cZ cW cO bb) H1 := by rw [← ht]; exact hB
  obtain ⟨a, ha0, ha1, hP, hO⟩ := kt_sim (T := T) hOk hP hv hq hk hP1 hpx.1 hpx.2 hk1 hA
  have hP : kP D [41, 10, 0, 0, 0] a (eL cI cZ cW cO (xC cI cZ (a 0) 0 0 0 0 σ0 u) a 0 0 0 σ0 (fun _ _ => 0) T) H1 := hP
  have hl : lv_has ls 10 [(0, .ref (a 0 40)), (1, .ref b)] := by rw [congrFun ha0 40]; exact hl
  rw [← hpx.1, ← ha1]
  refine w_wide (k := 10) (n := 192) (by omega) (by omega) ?_
  refine lv_astore_n (lv' := [(2, .ref (a 1 0)), (0, .ref (a 0 40)), (1, .ref b)]) hx hb dL_build_7 rfl hl (by decide) rfl (fun ls hl => ?_)
  refine lv_iconst (v := nI 1) hx hb dL_build_8 rfl ?_
  refine lv_aload_n hx hb dL_build_9 rfl (lv_at hl 2 rfl) ?_
  refine lv_iconst (v := nI 0) hx hb dL_build_10 rfl ?_
  refine cyS (As := [.ref b, .int (nI 0)]) hx hb hml hown hts (c_L_cell l D cI cZ cW cO H1 b L xs 0 hL (by omega)) (va_cwS 2 hts gL_build_L_cell rfl rfl rfl (by decide +kernel) ⟨by decide, by decide⟩) hK hE (hX.kept (hS.2.1 b hbl hbA)) rfl hl.1 rfl (Nat.le_of_ble_eq_true rfl) hS dL_build_11 ⟨show 10 ≤ 80 by omega, show 192 ≤ 900 by omega⟩ (fun v1 locs hS => ?_)
  refine lv_bipush (v := nI 6) hx hb dL_build_14 rfl ?_
  refine roS0 (As := [.int v1, .int (nI 6)]) hx hb hml hown hts (c_L_below l D cI cZ cW cO H1 v1 6 (by omega) (by omega)) (va_cwS 2 hts gL_build_L_below rfl rfl rfl (by decide +kernel) ⟨by decide, by decide⟩) hK hE rfl hl.1 rfl (Nat.le_of_ble_eq_true rfl) hS dL_build_16 ⟨show 10 ≤ 80 by omega, show 192 ≤ 900 by omega⟩ (fun locs hS => ?_)
  have hb2 := bl_lt (v := v1) (N := 6) (by omega)
  refine lv_iadd hx hb dL_build_19 ?_
  refine li_topi (nI_add _ _) ?_
  obtain ⟨N1, hN1⟩ : ∃ z, z = 1 + (bl v1 6) := ⟨_, rfl⟩
  rw [← hN1]
  refine lv_istore_n (lv' := [(3, .int (nI N1)), (2, .ref (a 1 0)), (0, .ref (a 0 40)), (1, .ref b)]) hx hb dL_build_20 rfl hl (by decide) rfl (fun ls hl => ?_)
  refine lv_iconst (v := nI 0) hx hb dL_build_21 rfl ?_
  refine lv_istore (lv' := [(4, .int (nI 0)), (3, .int (nI N1)), (2, .ref (a 1 0)), (0, .ref (a 0 40)), (1, .ref b)]) hx hb dL_build_22 hl (by decide) rfl (fun ls hl => ?_)
  have L24_3 : ∀ (fuel : Nat) (k : Nat) (pl : Nat) (a : Ka) (u : S3) (σ : Sg), (N1 - k) < fuel → (k ≤ N1) → (LV k pl 0 0 0 σ) → (∀ i, σ 3 i = 0 ∧ σ 6 i = 0) → (kO A [41, 10, k, 0, 0] a) → (a 0 = a0) → ∀ (G : Heap) (locs : List Loc), kP D [41, 10, k, 0, 0] a (eL cI cZ cW cO (xC cI cZ (a 0) k pl 0 0 σ u) a k 0 0 σ (fun _ _ => 0) T) G → va_S A H G locs → ∀ (ls : Array Slot), lv_has ls 10 [(4, .int (nI k)), (3, .int (nI N1)), (2, .ref (a 1 0)), (0, .ref (a 0 40)), (1, .ref b)] → W p l e ({ frames := 7, cells := 80, slots := 900, locals := 107 } : Room) s m args below meth c G locs (10 + 2 * k) (192 + 16 * k) Q (F0 m 24 ls []) := by
    intro fuel
    induction fuel with
    | zero =>
      intro k pl a u σ hfuel
      exact absurd hfuel (Nat.not_lt_zero _)
    | succ fuel ih24 =>
      intro k pl a u σ hfuel24 hk hLV hz6 hO ha0 G locs hP hS ls hl
      refine lv_iload hx hb dL_build_24 (lv_at hl 0 rfl) ?_
      refine lv_iload_n hx hb dL_build_26 rfl (lv_at hl 1 rfl) ?_
      refine li_ge (tgt := 133) hx hb dL_build_27 (by decide) (by omega) (by omega) (fun c4 => ?_) (fun c4 => ?_)
      · skip
        have hk0 : k = N1 := by omega
        rw [hk0] at hP hl hO hLV
        refine lv_iconst (v := nI 0) hx hb dL_build_133 rfl ?_
        refine lv_istore (lv' := [(4, .int (nI 0)), (3, .int (nI N1)), (2, .ref (a 1 0)), (0, .ref (a 0 40)), (1, .ref b)]) hx hb dL_build_134 hl (by decide) rfl (fun ls hl => ?_)
        have L136_5 : ∀ (fuel : Nat) (k : Nat) (a : Ka) (u : S3) (σ : Sg), (10 - k) < fuel → (k ≤ 10) → (LV N1 pl 0 0 0 σ) → ((∀ i, k ≤ i → σ 3 i = 0) ∧ ∀ i, σ 6 i = 0) → (kO A [41, 10, N1, 0, 0] a) → (a 0 = a0) → ∀ (G : Heap) (locs : List Loc), kP D [41, 10, N1, 0, 0] a (eL cI cZ cW cO (xC cI cZ (a 0) N1 pl 0 0 σ u) a N1 0 0 σ (fun _ _ => 0) T) G → va_S A H G locs → ∀ (ls : Array Slot), lv_has ls 10 [(4, .int (nI k)), (3, .int (nI N1)), (2, .ref (a 1 0)), (0, .ref (a 0 40)), (1, .ref b)] → W p l e ({ frames := 7, cells := 80, slots := 900, locals := 107 } : Room) s m args below meth c G locs 22 288 Q (F0 m 136 ls []) := by
          intro fuel
          induction fuel with
          | zero =>
            intro k a u σ hfuel
            exact absurd hfuel (Nat.not_lt_zero _)
          | succ fuel ih136 =>
            intro k a u σ hfuel136 hk hLV hz6 hO ha0 G locs hP hS ls hl
            refine lv_iload hx hb dL_build_136 (lv_at hl 0 rfl) ?_
            refine lv_bipush (v := nI 10) hx hb dL_build_138 rfl ?_
            refine li_ge (tgt := 189) hx hb dL_build_140 (by decide) (by omega) (by omega) (fun c6 => ?_) (fun c6 => ?_)
            · skip
              refine lv_iconst (v := nI 2) hx hb dL_build_189 rfl ?_
              refine lv_aload_n hx hb dL_build_190 rfl (lv_at hl 4 rfl) ?_
              refine lv_iconst (v := nI 4) hx hb dL_build_191 rfl ?_
              refine cyS (As := [.ref b, .int (nI 4)]) hx hb hml hown hts (c_L_cell l D cI cZ cW cO G b L xs 4 hL (by omega)) (va_cwS 2 hts gL_build_L_cell rfl rfl rfl (by decide +kernel) ⟨by decide, by decide⟩) hK hE (hX.kept (hS.2.1 b hbl hbA)) rfl hl.1 rfl (Nat.le_of_ble_eq_true rfl) hS dL_build_192 ⟨show 22 ≤ 80 by omega, show 288 ≤ 900 by omega⟩ (fun v7 locs hS => ?_)
              refine lv_bipush (v := nI 14) hx hb dL_build_195 rfl ?_
              refine roS0 (As := [.int v7, .int (nI 14)]) hx hb hml hown hts (c_L_below l D cI cZ cW cO G v7 14 (by omega) (by omega)) (va_cwS 2 hts gL_build_L_below rfl rfl rfl (by decide +kernel) ⟨by decide, by decide⟩) hK hE rfl hl.1 rfl (Nat.le_of_ble_eq_true rfl) hS dL_build_197 ⟨show 22 ≤ 80 by omega, show 288 ≤ 900 by omega⟩ (fun locs hS => ?_)
              have hb8 := bl_lt (v := v7) (N := 14) (by omega)
              refine lv_iadd hx hb dL_build_200 ?_
              refine li_topi (nI_add _ _) ?_
              obtain ⟨N2, hN2⟩ : ∃ z, z = 2 + (bl v7 14) := ⟨_, rfl⟩
              rw [← hN2]
              refine lv_istore (lv' := [(4, .int (nI N2)), (3, .int (nI N1)), (2, .ref (a 1 0)), (0, .ref (a 0 40)), (1, .ref b)]) hx hb dL_build_201 hl (by decide) rfl (fun ls hl => ?_)
              refine lv_iconst (v := nI 0) hx hb dL_build_203 rfl ?_
              refine lv_istore (lv' := [(5, .int (nI 0)), (4, .int (nI N2)), (3, .int (nI N1)), (2, .ref (a 1 0)), (0, .ref (a 0 40)), (1, .ref b)]) hx hb dL_build_204 hl (by decide) rfl (fun ls hl => ?_)
              have L206_9 : ∀ (fuel : Nat) (k : Nat) (a : Ka) (u : S3) (σ : Sg), (N2 - k) < fuel → (k ≤ N2) → (LV N1 pl k 0 0 σ) → (∀ i, σ 6 i = 0) → (kO A [41, 10, N1, k, k] a) → (a 0 = a0) → ∀ (G : Heap) (locs : List Loc), kP D [41, 10, N1, k, k] a (eL cI cZ cW cO (xC cI cZ (a 0) N1 pl k 0 σ u) a N1 k 0 σ (fun _ _ => 0) T) G → va_S A H G locs → ∀ (ls : Array Slot), lv_has ls 10 [(5, .int (nI k)), (4, .int (nI N2)), (3, .int (nI N1)), (2, .ref (a 1 0)), (0, .ref (a 0 40)), (1, .ref b)] → W p l e ({ frames := 7, cells := 80, slots := 900, locals := 107 } : Room) s m args below meth c G locs (22 + 3 * k) (288 + 35 * k) Q (F0 m 206 ls []) := by
                intro fuel
                induction fuel with
                | zero =>
                  intro k a u σ hfuel
                  exact absurd hfuel (Nat.not_lt_zero _)
                | succ fuel ih206 =>
                  intro k a u σ hfuel206 hk hLV hz6 hO ha0 G locs hP hS ls hl
                  refine lv_iload hx hb dL_build_206 (lv_at hl 0 rfl) ?_
                  refine lv_iload hx hb dL_build_208 (lv_at hl 1 rfl) ?_
                  refine li_ge (tgt := 332) hx hb dL_build_210 (by decide) (by omega) (by omega) (fun c10 => ?_) (fun c10 => ?_)
                  · skip
                    have hk0 : k = N2 := by omega
                    rw [hk0] at hP hl hO hLV
                    refine lv_aload_n hx hb dL_build_332 rfl (lv_at hl 5 rfl) ?_
                    refine lv_bipush (v := nI 8) hx hb dL_build_333 rfl ?_
                    refine cyS (As := [.ref b, .int (nI 8)]) hx hb hml hown hts (c_L_cell l D cI cZ cW cO G b L xs 8 hL (by omega)) (va_cwS 2 hts gL_build_L_cell rfl rfl rfl (by decide +kernel) ⟨by decide, by decide⟩) hK hE (hX.kept (hS.2.1 b hbl hbA)) rfl hl.1 rfl (Nat.le_of_ble_eq_true rfl) hS dL_build_335 ⟨show 22 + 3 * k ≤ 80 by omega, show 288 + 35 * k ≤ 900 by omega⟩ (fun v11 locs hS => ?_)
                    refine lv_iconst (v := nI 5) hx hb dL_build_338 rfl ?_
                    refine roS0 (As := [.int v11, .int (nI 5)]) hx hb hml hown hts (c_L_below l D cI cZ cW cO G v11 5 (by omega) (by omega)) (va_cwS 2 hts gL_build_L_below rfl rfl rfl (by decide +kernel) ⟨by decide, by decide⟩) hK hE rfl hl.1 rfl (Nat.le_of_ble_eq_true rfl) hS dL_build_339 ⟨show 22 + 3 * k ≤ 80 by omega, show 288 + 35 * k ≤ 900 by omega⟩ (fun locs hS => ?_)
                    have hb12 := bl_lt (v := v11) (N := 5) (by omega)
                    obtain ⟨N3, hN3⟩ : ∃ z, z = bl v11 5 := ⟨_, rfl⟩
                    rw [← hN3]
                    refine lv_istore (lv' := [(5, .int (nI N3)), (4, .int (nI N2)), (3, .int (nI N1)), (2, .ref (a 1 0)), (0, .ref (a 0 40)), (1, .ref b)]) hx hb dL_build_342 hl (by decide) rfl (fun ls hl => ?_)
                    refine lv_aload_n hx hb dL_build_344 rfl (lv_at hl 3 rfl) ?_
                    refine lv_iload hx hb dL_build_345 (lv_at hl 0 rfl) ?_
                    have hG9 := hS.1
                    refine lk_newI hx hb g4 hK hS (N := N3) (by omega) (show 22 + 3 * k + 1 ≤ 80 by omega) (show 288 + 35 * k + N3 ≤ 900 by omega) dL_build_347 (fun q G hq hv hk hS => ?_)
                    obtain ⟨a8, rfl, ha8, hP, hO⟩ := kt_tmp0 hO hP hv hk hq (hA _ (by omega))
                    have hP : kP D [41, 10, N1, N2, N2, 1] a8 (eL cI cZ cW cO (xC cI cZ (a8 0) N1 pl N2 0 σ u) a8 N1 N2 0 σ (fun _ _ => 0) (eup T 0 0 (.inl (cI, N3, .inl (fun _ => 0 : Nat → Int32))))) G := hP
                    have hl : lv_has ls 10 [(5, .int (nI N3)), (4, .int (nI N2)), (3, .int (nI N1)), (2, .ref (a8 1 0)), (0, .ref (a8 0 40)), (1, .ref b)] := by rw [ha8 1 0 (by omega), ha8 0 40 (by omega)]; exact hl
                    rw [← ha8 1 0 (by omega)]
                    refine lk_pf3 (e' := eup (eL cI cZ cW cO (xC cI cZ (a8 0) N1 pl N2 0 σ u) a8 N1 N2 0 σ (fun _ _ => 0) (eup T 0 0 (.inl (cI, N3, .inl (fun _ => 0 : Nat → Int32))))) 1 0 (.inr (3, [.ref (a8 1 1), .ref (a8 1 2), .ref (a8 1 3), .ref (a8 1 4), .ref (a8 5 0), .int (σ 17 0), .ref (a8 1 6), .ref (a8 1 7), .ref (a8 1 8), .ref (a8 1 9)]))) hx hb hX3 hown hK hP hO hS 1 0 (show 0 < 10 by decide) rfl 4 (by decide) f50 rfl rfl rfl (Nat.le_of_ble_eq_true rfl) rfl dL_build_349 (fun G locs hP hS => ?_)
                    obtain ⟨a9, e0, e1, hP, hO⟩ := kt_songs (X := fun b => xC cI cZ b N1 pl N2 0 σ u) hO (fun i _ => hz6 i) (by omega) hP
                    have hP : kP D [41, 10, N1, N2, N2] a9 (eL cI cZ cW cO (xC cI cZ (a9 0) N1 pl N2 0 σ u) a9 N1 N2 N3 σ (fun _ _ => 0) T) G := hP
                    have hl : lv_has ls 10 [(5, .int (nI N3)), (4, .int (nI N2)), (3, .int (nI N1)), (2, .ref (a9 1 0)), (0, .ref (a9 0 40)), (1, .ref b)] := by rw [e1, congrFun e0 40]; exact hl
                    have ha0 : a9 0 = a0 := (e0.trans (funext (fun i => ha8 0 i (by omega)))).trans ha0
                    refine w_wide (k := 68) (n := 817) (by omega) (by omega) ?_
                    refine lv_iconst (v := nI 0) hx hb dL_build_352 rfl ?_
                    refine lv_istore (lv' := [(6, .int (nI 0)), (5, .int (nI N3)), (4, .int (nI N2)), (3, .int (nI N1)), (2, .ref (a9 1 0)), (0, .ref (a9 0 40)), (1, .ref b)]) hx hb dL_build_353 hl (by decide) rfl (fun ls hl => ?_)
                    have L355_13 : ∀ (fuel : Nat) (k : Nat) (a : Ka) (u : S3) (σ : Sg), (N3 - k) < fuel → (k ≤ N3) → (LV N1 pl N2 k 0 σ) → (kO A [41, 10, N1, N2, N2] a) → (a 0 = a0) → ∀ (G : Heap) (locs : List Loc), kP D [41, 10, N1, N2, N2] a (eL cI cZ cW cO (xC cI cZ (a 0) N1 pl N2 k σ u) a N1 N2 N3 σ (fun _ _ => 0) T) G → va_S A H G locs → ∀ (ls : Array Slot), lv_has ls 10 [(6, .int (nI k)), (5, .int (nI N3)), (4, .int (nI N2)), (3, .int (nI N1)), (2, .ref (a 1 0)), (0, .ref (a 0 40)), (1, .ref b)] → W p l e ({ frames := 7, cells := 80, slots := 900, locals := 107 } : Room) s m args below meth c G locs 68 817 Q (F0 m 355 ls []) := by
                      intro fuel
                      induction fuel with
                      | zero =>
                        intro k a u σ hfuel
                        exact absurd hfuel (Nat.not_lt_zero _)
                      | succ fuel ih355 =>
                        intro k a u σ hfuel355 hk hLV hO ha0 G locs hP hS ls hl
                        refine lv_iload hx hb dL_build_355 (lv_at hl 0 rfl) ?_
                        refine lv_iload hx hb dL_build_357 (lv_at hl 1 rfl) ?_
                        refine li_ge (tgt := 479) hx hb dL_build_359 (by decide) (by omega) (by omega) (fun c14 => ?_) (fun c14 => ?_)
                        · skip
                          have hk0 : k = N3 := by omega
                          rw [hk0] at hP hl hLV
                          refine lv_aload_n hx hb dL_build_479 rfl (lv_at hl 4 rfl) ?_
                          exact hEnd 480 ls G locs _ _ a _ _ _ _ _ _ (show 68 ≤ 80 by omega) (show 817 ≤ 900 by omega) dL_build_480 hLV (by omega) (by omega) (by omega) (by omega) ha0 hO hP hS
                        · skip
                          refine lv_aload_n hx hb dL_build_362 rfl (lv_at hl 4 rfl) ?_
                          refine lk_gf3 hx hb hX3 hown hK hP 1 0 (show 0 < 10 by decide) rfl 4 (by decide) f50 rfl dL_build_363 ?_
                          refine lv_iload hx hb dL_build_366 (lv_at hl 0 rfl) ?_
                          refine lv_iconst (v := nI 1) hx hb dL_build_368 rfl ?_
                          refine lv_aload_n hx hb dL_build_369 rfl (lv_at hl 6 rfl) ?_
                          refine lv_bipush (v := nI 9) hx hb dL_build_370 rfl ?_
                          refine cyS (As := [.ref b, .int (nI 9)]) hx hb hml hown hts (c_L_cell l D cI cZ cW cO G b L xs 9 hL (by omega)) (va_cwS 2 hts gL_build_L_cell rfl rfl rfl (by decide +kernel) ⟨by decide, by decide⟩) hK hE (hX.kept (hS.2.1 b hbl hbA)) rfl hl.1 rfl (Nat.le_of_ble_eq_true rfl) hS dL_build_372 ⟨show 68 ≤ 80 by omega, show 817 ≤ 900 by omega⟩ (fun v15 locs hS => ?_)
                          refine lv_iconst (v := nI 3) hx hb dL_build_375 rfl ?_
                          refine lv_iload hx hb dL_build_376 (lv_at hl 0 rfl) ?_
                          refine lv_imul hx hb dL_build_378 ?_
                          refine li_topi (pk_mul _ _) ?_
                          refine lv_ishr hx hb dL_build_379 ?_
                          refine lv_bipush (v := nI 9) hx hb dL_build_380 rfl ?_
                          refine roS0 (As := [.int (v15 >>> ((nI (3 * k)) &&& 31)), .int (nI 9)]) hx hb hml hown hts (c_L_below l D cI cZ cW cO G (v15 >>> ((nI (3 * k)) &&& 31)) 9 (by omega) (by omega)) (va_cwS 2 hts gL_build_L_below rfl rfl rfl (by decide +kernel) ⟨by decide, by decide⟩) hK hE rfl hl.1 rfl (Nat.le_of_ble_eq_true rfl) hS dL_build_382 ⟨show 68 ≤ 80 by omega, show 817 ≤ 900 by omega⟩ (fun locs hS => ?_)
                          have hb16 := bl_lt (v := v15 >>> ((nI (3 * k)) &&& 31)) (N := 9) (by omega)
                          refine lv_iadd hx hb dL_build_385 ?_
                          refine li_topi (nI_add _ _) ?_
                          refine lk_ist hx hb hK hP hO hS 1 5 (show 5 < 10 by decide) rfl (by omega) (by omega) stS_6 dL_build_386 (fun G locs hP hS => ?_)
                          refine lv_aload_n hx hb dL_build_387 rfl (lv_at hl 5 rfl) ?_
                          refine lv_aload_n hx hb dL_build_388 rfl (lv_at hl 4 rfl) ?_
                          refine lk_gf3 hx hb hX3 hown hK hP 1 0 (show 0 < 10 by decide) rfl 4 (by decide) f50 rfl dL_build_389 ?_
                          refine lv_iload hx hb dL_build_392 (lv_at hl 0 rfl) ?_
                          refine lk_ild hx hb hK hP 1 5 (show 5 < 10 by decide) rfl (by omega) (by omega) dL_build_394 ?_
                          refine li_topi (show (up2 σ 6 k (nI (1 + (bl (v15 >>> ((nI (3 * k)) &&& 31)) 9)))) 6 k = nI (1 + (bl (v15 >>> ((nI (3 * k)) &&& 31)) 9)) from by exact up2_in') ?_
                          have hk9 : kSong k (nI (1 + (bl (v15 >>> ((nI (3 * k)) &&& 31)) 9))) = 0 := kSong_0 (by omega) (by omega) (by omega)
                          refine ayK (As := [.int (nI (1 + (bl (v15 >>> ((nI (3 * k)) &&& 31)) 9)))]) hx hb hml hown hts (c_X2_addSong l D cI cZ cW cO (a 0) N1 pl N2 k σ u.1 u.2.1 u.2.2 G (nI (1 + (bl (v15 >>> ((nI (3 * k)) &&& 31)) 9))) (kA [41] a) (okP_k hO rfl) (by have := hLV.inv.1; omega) hk9) (cwV 1 hts gL_build_X2_addSong rfl rfl rfl (by decide +kernel) ⟨by decide, by decide⟩) hK hE hO rfl hP rfl hl.1 rfl (Nat.le_of_ble_eq_true rfl) hS dL_build_395 ⟨show 68 ≤ 80 by omega, show 817 ≤ 900 by omega⟩ (fun u17 G locs hP hS => ?_)
                          rw [show nSong k (nI (1 + (bl (v15 >>> ((nI (3 * k)) &&& 31)) 9))) = k + 1 from if_pos hk9, show sSong k σ (nI (1 + (bl (v15 >>> ((nI (3 * k)) &&& 31)) 9))) = up2 σ 6 k (nI (1 + (bl (v15 >>> ((nI (3 * k)) &&& 31)) 9))) from if_pos hk9] at hP
                          have hP : kP D [41, 10, N1, N2, N2] a (eL cI cZ cW cO (xC cI cZ (a 0) N1 pl N2 (k + 1) (up2 σ 6 k (nI (1 + (bl (v15 >>> ((nI (3 * k)) &&& 31)) 9)))) u17) a N1 N2 N3 (up2 σ 6 k (nI (1 + (bl (v15 >>> ((nI (3 * k)) &&& 31)) 9)))) (fun _ _ => 0) T) G := hP
                          refine li_topi (x' := nI k) (if_pos hk9) ?_
                          refine lv_iload hx hb dL_build_398 (lv_at hl 0 rfl) ?_
                          refine li_eq (tgt := 405) hx hb dL_build_400 (by decide) (by omega) (by omega) (fun c18 => ?_) (fun c18 => ?_)
                          · skip
                            refine lv_aload_n hx hb dL_build_405 rfl (lv_at hl 6 rfl) ?_
                            refine lv_bipush (v := nI 10) hx hb dL_build_406 rfl ?_
                            refine cyS (As := [.ref b, .int (nI 10)]) hx hb hml hown hts (c_L_cell l D cI cZ cW cO G b L xs 10 hL (by omega)) (va_cwS 2 hts gL_build_L_cell rfl rfl rfl (by decide +kernel) ⟨by decide, by decide⟩) hK hE (hX.kept (hS.2.1 b hbl hbA)) rfl hl.1 rfl (Nat.le_of_ble_eq_true rfl) hS dL_build_408 ⟨show 68 ≤ 80 by omega, show 817 ≤ 900 by omega⟩ (fun v19 locs hS => ?_)
                            refine lv_iconst (v := nI 3) hx hb dL_build_411 rfl ?_
                            refine lv_iload hx hb dL_build_412 (lv_at hl 0 rfl) ?_
                            refine lv_imul hx hb dL_build_414 ?_
                            refine li_topi (pk_mul _ _) ?_
                            refine lv_ishr hx hb dL_build_415 ?_
                            refine lv_iload hx hb dL_build_416 (lv_at hl 2 rfl) ?_
                            refine roS0 (As := [.int (v19 >>> ((nI (3 * k)) &&& 31)), .int (nI N2)]) hx hb hml hown hts (c_L_below l D cI cZ cW cO G (v19 >>> ((nI (3 * k)) &&& 31)) N2 (by omega) (by omega)) (va_cwS 2 hts gL_build_L_below rfl rfl rfl (by decide +kernel) ⟨by decide, by decide⟩) hK hE rfl hl.1 rfl (Nat.le_of_ble_eq_true rfl) hS dL_build_418 ⟨show 68 ≤ 80 by omega, show 817 ≤ 900 by omega⟩ (fun locs hS => ?_)
                            have hb20 := bl_lt (v := v19 >>> ((nI (3 * k)) &&& 31)) (N := N2) (by omega)
                            refine lv_istore (lv' := [(7, .int (nI (bl (v19 >>> ((nI (3 * k)) &&& 31)) N2))), (6, .int (nI k)), (5, .int (nI N3)), (4, .int (nI N2)), (3, .int (nI N1)), (2, .ref (a 1 0)), (0, .ref (a 0 40)), (1, .ref b)]) hx hb dL_build_421 hl (by decide) rfl (fun ls hl => ?_)
                            refine lv_iconst (v := nI 1) hx hb dL_build_423 rfl ?_
                            refine lv_aload_n hx hb dL_build_424 rfl (lv_at hl 7 rfl) ?_
                            refine lv_bipush (v := nI 11) hx hb dL_build_425 rfl ?_
                            refine cyS (As := [.ref b, .int (nI 11)]) hx hb hml hown hts (c_L_cell l D cI cZ cW cO G b L xs 11 hL (by omega)) (va_cwS 2 hts gL_build_L_cell rfl rfl rfl (by decide +kernel) ⟨by decide, by decide⟩) hK hE (hX.kept (hS.2.1 b hbl hbA)) rfl hl.1 rfl (Nat.le_of_ble_eq_true rfl) hS dL_build_427 ⟨show 68 ≤ 80 by omega, show 817 ≤ 900 by omega⟩ (fun v21 locs hS => ?_)
                            refine lv_iconst (v := nI 4) hx hb dL_build_430 rfl ?_
                            refine lv_iload hx hb dL_build_431 (lv_at hl 1 rfl) ?_
                            refine lv_imul hx hb dL_build_433 ?_
                            refine li_topi (pk_mul _ _) ?_
                            refine lv_ishr hx hb dL_build_434 ?_
                            refine lv_bipush (v := nI 99) hx hb dL_build_435 rfl ?_
                            refine roS0 (As := [.int (v21 >>> ((nI (4 * k)) &&& 31)), .int (nI 99)]) hx hb hml hown hts (c_L_below l D cI cZ cW cO G (v21 >>> ((nI (4 * k)) &&& 31)) 99 (by omega) (by omega)) (va_cwS 2 hts gL_build_L_below rfl rfl rfl (by decide +kernel) ⟨by decide, by decide⟩) hK hE rfl hl.1 rfl (Nat.le_of_ble_eq_true rfl) hS dL_build_437 ⟨show 68 ≤ 80 by omega, show 817 ≤ 900 by omega⟩ (fun locs hS => ?_)
                            have hb22 := bl_lt (v := v21 >>> ((nI (4 * k)) &&& 31)) (N := 99) (by omega)
                            refine lv_iadd hx hb dL_build_440 ?_
                            refine li_topi (nI_add _ _) ?_
                            refine lv_istore (lv' := [(8, .int (nI (1 + (bl (v21 >>> ((nI (4 * k)) &&& 31)) 99)))), (7, .int (nI (bl (v19 >>> ((nI (3 * k)) &&& 31)) N2))), (6, .int (nI k)), (5, .int (nI N3)), (4, .int (nI N2)), (3, .int (nI N1)), (2, .ref (a 1 0)), (0, .ref (a 0 40)), (1, .ref b)]) hx hb dL_build_441 hl (by decide) rfl (fun ls hl => ?_)
                            refine lv_aload_n hx hb dL_build_443 rfl (lv_at hl 7 rfl) ?_
                            refine lv_iload hx hb dL_build_444 (lv_at hl 1 rfl) ?_
                            refine lv_iload hx hb dL_build_446 (lv_at hl 2 rfl) ?_
                            refine lv_iload hx hb dL_build_448 (lv_at hl 0 rfl) ?_
                            have hk9 : kTeach N2 (k + 1) (nI (bl (v19 >>> ((nI (3 * k)) &&& 31)) N2)) (nI k) (nI (1 + (bl (v21 >>> ((nI (4 * k)) &&& 31)) 99))) = 0 := kTeach_0 (by omega) (by omega) (by omega) (by omega) (by omega)
                            refine ayK (As := [.int (nI (bl (v19 >>> ((nI (3 * k)) &&& 31)) N2)), .int (nI k), .int (nI (1 + (bl (v21 >>> ((nI (4 * k)) &&& 31)) 99)))]) hx hb hml hown hts (c_X2_teach l D cI cZ cW cO (a 0) N1 pl N2 (k + 1) (up2 σ 6 k (nI (1 + (bl (v15 >>> ((nI (3 * k)) &&& 31)) 9)))) u17.1 u17.2.1 u17.2.2 G (nI (bl (v19 >>> ((nI (3 * k)) &&& 31)) N2)) (nI k) (nI (1 + (bl (v21 >>> ((nI (4 * k)) &&& 31)) 99))) (kA [41] a) (okP_k hO rfl) (by have := hLV.inv.1; omega) hk9) (cwV 3 hts gL_build_X2_teach rfl rfl rfl (by decide +kernel) ⟨by decide, by decide⟩) hK hE hO rfl hP rfl hl.1 rfl (Nat.le_of_ble_eq_true rfl) hS dL_build_450 ⟨show 68 ≤ 80 by omega, show 817 ≤ 900 by omega⟩ (fun u23 G locs hP hS => ?_)
                            rw [show sTeach N2 (k + 1) (up2 σ 6 k (nI (1 + (bl (v15 >>> ((nI (3 * k)) &&& 31)) 9)))) (nI (bl (v19 >>> ((nI (3 * k)) &&& 31)) N2)) (nI k) (nI (1 + (bl (v21 >>> ((nI (4 * k)) &&& 31)) 99))) = up2 (up2 σ 6 k (nI (1 + (bl (v15 >>> ((nI (3 * k)) &&& 31)) 9)))) 16 (6 * (bl (v19 >>> ((nI (3 * k)) &&& 31)) N2) + k) (nI (1 + (bl (v21 >>> ((nI (4 * k)) &&& 31)) 99))) from by unfold sTeach; rw [if_pos hk9, nN_nI (by omega), nN_nI (by omega)]] at hP
                            have hP : kP D [41, 10, N1, N2, N2] a (eL cI cZ cW cO (xC cI cZ (a 0) N1 pl N2 (k + 1) (up2 (up2 σ 6 k (nI (1 + (bl (v15 >>> ((nI (3 * k)) &&& 31)) 9)))) 16 (6 * (bl (v19 >>> ((nI (3 * k)) &&& 31)) N2) + k) (nI (1 + (bl (v21 >>> ((nI (4 * k)) &&& 31)) 99)))) u23) a N1 N2 N3 (up2 σ 6 k (nI (1 + (bl (v15 >>> ((nI (3 * k)) &&& 31)) 9)))) (fun _ _ => 0) T) G := hP
                            refine li_topi (x' := (up2 σ 6 k (nI (1 + (bl (v15 >>> ((nI (3 * k)) &&& 31)) 9)))) 16 (6 * (bl (v19 >>> ((nI (3 * k)) &&& 31)) N2) + k)) (by unfold vTeach; rw [if_pos hk9, nN_nI (by omega), nN_nI (by omega)]) ?_
                            refine li_topi (show (up2 σ 6 k (nI (1 + (bl (v15 >>> ((nI (3 * k)) &&& 31)) 9)))) 16 (6 * (bl (v19 >>> ((nI (3 * k)) &&& 31)) N2) + k) = nI 0 from by rw [up2_r (by decide)]; exact hLV.inv.2.2.2.2.2.2.2.1 _ (by omega)) ?_
                            refine li_eq0 (tgt := 458) hx hb dL_build_453 (by decide) (by omega) (fun c24 => ?_) (fun c24 => ?_)
                            · skip
                              refine lv_aload_n hx hb dL_build_458 rfl (lv_at hl 6 rfl) ?_
                              refine lk_gf3 hx hb hX3 hown hK hP 1 0 (show 0 < 10 by decide) rfl 3 (by decide) f60 rfl dL_build_459 ?_
                              refine lv_iload hx hb dL_build_462 (lv_at hl 1 rfl) ?_
                              refine lk_aldW hx hb hK hP 1 4 (show 4 < 10 by decide) rfl (by omega) (by omega) (rfs_at (by omega)) dL_build_464 ?_
                              refine lk_gf4 hx hb hX4 hown hK hP 3 (bl (v19 >>> ((nI (3 * k)) &&& 31)) N2) (show bl (v19 >>> ((nI (3 * k)) &&& 31)) N2 < N2 by omega) rfl 8 (by decide) f64 rfl dL_build_465 ?_
                              refine lv_iload hx hb dL_build_468 (lv_at hl 2 rfl) ?_
                              refine lv_iload hx hb dL_build_470 (lv_at hl 0 rfl) ?_
                              refine lk_ist hx hb hK hP hO hS 4 (bl (v19 >>> ((nI (3 * k)) &&& 31)) N2) (show bl (v19 >>> ((nI (3 * k)) &&& 31)) N2 < N2 by omega) rfl (by omega) (by decide) (stS_16 (by omega)) dL_build_472 (fun G locs hP hS => ?_)
                              refine lv_iinc (v := nI (k + 1)) (lv' := [(6, .int (nI (k + 1))), (8, .int (nI (1 + (bl (v21 >>> ((nI (4 * k)) &&& 31)) 99)))), (7, .int (nI (bl (v19 >>> ((nI (3 * k)) &&& 31)) N2))), (5, .int (nI N3)), (4, .int (nI N2)), (3, .int (nI N1)), (2, .ref (a 1 0)), (0, .ref (a 0 40)), (1, .ref b)]) hx hb dL_build_473 hl (k := 2) rfl (nI_inc _ _) (by decide) rfl (fun ls hl => ?_)
                              refine lv_goto (tgt := 355) hx hb dL_build_476 (by decide) ?_
                              refine w_wide (k := 68) (n := 817) (by omega) (by omega) ?_
                              have hl9 : lv_has ls 10 [(6, .int (nI (k + 1))), (5, .int (nI N3)), (4, .int (nI N2)), (3, .int (nI N1)), (2, .ref (a 1 0)), (0, .ref (a 0 40)), (1, .ref b)] := lv_sub hl [0, 3, 4, 5, 6, 7, 8] rfl
                              exact ih355 (k + 1) a u23 (up2 (up2 σ 6 k (nI (1 + (bl (v15 >>> ((nI (3 * k)) &&& 31)) 9)))) 16 (6 * (bl (v19 >>> ((nI (3 * k)) &&& 31)) N2) + k) (nI (1 + (bl (v21 >>> ((nI (4 * k)) &&& 31)) 99)))) (by omega) (by omega) (LV_teach (LV_song hLV (by omega) (by omega) (by omega)) (by omega) (by omega) (by omega)) (hO) (ha0) G locs hP hS ls hl9
                            · exact absurd c24 (by decide)
                          · exact absurd rfl c18
                    refine w_wide (k := 68) (n := 817) (by omega) (by omega) ?_
                    have hl9 : lv_has ls 10 [(6, .int (nI 0)), (5, .int (nI N3)), (4, .int (nI N2)), (3, .int (nI N1)), (2, .ref (a9 1 0)), (0, .ref (a9 0 40)), (1, .ref b)] := lv_sub hl [0, 1, 2, 3, 4, 5, 6] rfl
                    exact L355_13 ((N3 - 0) + 1) 0 a9 u σ (Nat.lt_succ_self _) (by omega) (hLV) (hO) (ha0) G locs hP hS ls hl9
                  · skip
                    refine lv_aload_n hx hb dL_build_213 rfl (lv_at hl 5 rfl) ?_
                    refine lv_iconst (v := nI 5) hx hb dL_build_214 rfl ?_
                    refine lv_iload hx hb dL_build_215 (lv_at hl 0 rfl) ?_
                    refine lv_iconst (v := nI 3) hx hb dL_build_217 rfl ?_
                    refine lv_irem hx hb dL_build_218 (by decide) ?_
                    refine li_topi (show (nI k) - (nI k) / (nI 3) * (nI 3) = nI (k % 3) from pk_rem (by omega) (by decide) (by decide)) ?_
                    refine lv_iadd hx hb dL_build_219 ?_
                    refine li_topi (nI_add _ _) ?_
                    refine cyS (As := [.ref b, .int (nI (5 + (k % 3)))]) hx hb hml hown hts (c_L_cell l D cI cZ cW cO G b L xs (5 + (k % 3)) hL (by omega)) (va_cwS 2 hts gL_build_L_cell rfl rfl rfl (by decide +kernel) ⟨by decide, by decide⟩) hK hE (hX.kept (hS.2.1 b hbl hbA)) rfl hl.1 rfl (Nat.le_of_ble_eq_true rfl) hS dL_build_220 ⟨show 22 + 3 * k ≤ 80 by omega, show 288 + 35 * k ≤ 900 by omega⟩ (fun v25 locs hS => ?_)
                    refine lv_iload hx hb dL_build_223 (lv_at hl 0 rfl) ?_
                    refine lv_ishr hx hb dL_build_225 ?_
                    refine lv_bipush (v := nI 19) hx hb dL_build_226 rfl ?_
                    refine lv_iload hx hb dL_build_228 (lv_at hl 0 rfl) ?_
                    refine lv_imul hx hb dL_build_230 ?_
                    refine li_topi (pk_mul _ _) ?_
                    refine lv_iadd hx hb dL_build_231 ?_
                    refine lv_istore (lv' := [(6, .int ((v25 >>> ((nI k) &&& 31)) + (nI (19 * k)))), (5, .int (nI k)), (4, .int (nI N2)), (3, .int (nI N1)), (2, .ref (a 1 0)), (0, .ref (a 0 40)), (1, .ref b)]) hx hb dL_build_232 hl (by decide) rfl (fun ls hl => ?_)
                    refine lv_iconst (v := nI 1) hx hb dL_build_234 rfl ?_
                    refine lv_iload hx hb dL_build_235 (lv_at hl 0 rfl) ?_
                    refine lv_iconst (v := nI 3) hx hb dL_build_237 rfl ?_
                    refine roS0 (As := [.int ((v25 >>> ((nI k) &&& 31)) + (nI (19 * k))), .int (nI 3)]) hx hb hml hown hts (c_L_below l D cI cZ cW cO G ((v25 >>> ((nI k) &&& 31)) + (nI (19 * k))) 3 (by omega) (by omega)) (va_cwS 2 hts gL_build_L_below rfl rfl rfl (by decide +kernel) ⟨by decide, by decide⟩) hK hE rfl hl.1 rfl (Nat.le_of_ble_eq_true rfl) hS dL_build_238 ⟨show 22 + 3 * k ≤ 80 by omega, show 288 + 35 * k ≤ 900 by omega⟩ (fun locs hS => ?_)
                    have hb26 := bl_lt (v := (v25 >>> ((nI k) &&& 31)) + (nI (19 * k))) (N := 3) (by omega)
                    refine lv_iadd hx hb dL_build_241 ?_
                    refine li_topi (nI_add _ _) ?_
                    refine lv_istore (lv' := [(7, .int (nI (1 + (bl ((v25 >>> ((nI k) &&& 31)) + (nI (19 * k))) 3)))), (6, .int ((v25 >>> ((nI k) &&& 31)) + (nI (19 * k)))), (5, .int (nI k)), (4, .int (nI N2)), (3, .int (nI N1)), (2, .ref (a 1 0)), (0, .ref (a 0 40)), (1, .ref b)]) hx hb dL_build_242 hl (by decide) rfl (fun ls hl => ?_)
                    refine lv_iload hx hb dL_build_244 (lv_at hl 1 rfl) ?_
                    refine lv_iconst (v := nI 2) hx hb dL_build_246 rfl ?_
                    refine lv_ishr hx hb dL_build_247 ?_
                    refine lv_iconst (v := nI 5) hx hb dL_build_248 rfl ?_
                    refine roS0 (As := [.int (((v25 >>> ((nI k) &&& 31)) + (nI (19 * k))) >>> ((nI 2) &&& 31)), .int (nI 5)]) hx hb hml hown hts (c_L_below l D cI cZ cW cO G (((v25 >>> ((nI k) &&& 31)) + (nI (19 * k))) >>> ((nI 2) &&& 31)) 5 (by omega) (by omega)) (va_cwS 2 hts gL_build_L_below rfl rfl rfl (by decide +kernel) ⟨by decide, by decide⟩) hK hE rfl hl.1 rfl (Nat.le_of_ble_eq_true rfl) hS dL_build_249 ⟨show 22 + 3 * k ≤ 80 by omega, show 288 + 35 * k ≤ 900 by omega⟩ (fun locs hS => ?_)
                    have hb27 := bl_lt (v := ((v25 >>> ((nI k) &&& 31)) + (nI (19 * k))) >>> ((nI 2) &&& 31)) (N := 5) (by omega)
                    refine li_ne0 (tgt := 259) hx hb dL_build_252 (by decide) (by omega) (fun c28 => ?_) (fun c28 => ?_)
                    · skip
                      refine lv_iload hx hb dL_build_259 (lv_at hl 1 rfl) ?_
                      refine lv_iconst (v := nI 3) hx hb dL_build_261 rfl ?_
                      refine lv_ishr hx hb dL_build_262 ?_
                      refine lv_iload hx hb dL_build_263 (lv_at hl 1 rfl) ?_
                      refine lv_bipush (v := nI 8) hx hb dL_build_265 rfl ?_
                      refine lv_ishr hx hb dL_build_267 ?_
                      refine lv_iconst (v := nI 2) hx hb dL_build_268 rfl ?_
                      refine roS0 (As := [.int (((v25 >>> ((nI k) &&& 31)) + (nI (19 * k))) >>> ((nI 8) &&& 31)), .int (nI 2)]) hx hb hml hown hts (c_L_below l D cI cZ cW cO G (((v25 >>> ((nI k) &&& 31)) + (nI (19 * k))) >>> ((nI 8) &&& 31)) 2 (by omega) (by omega)) (va_cwS 2 hts gL_build_L_below rfl rfl rfl (by decide +kernel) ⟨by decide, by decide⟩) hK hE rfl hl.1 rfl (Nat.le_of_ble_eq_true rfl) hS dL_build_269 ⟨show 22 + 3 * k ≤ 80 by omega, show 288 + 35 * k ≤ 900 by omega⟩ (fun locs hS => ?_)
                      have hb29 := bl_lt (v := ((v25 >>> ((nI k) &&& 31)) + (nI (19 * k))) >>> ((nI 8) &&& 31)) (N := 2) (by omega)
                      refine li_ne0 (tgt := 281) hx hb dL_build_272 (by decide) (by omega) (fun c30 => ?_) (fun c30 => ?_)
                      · skip
                        refine lv_bipush (v := nI 30) hx hb dL_build_281 rfl ?_
                        refine roS0 (As := [.int (((v25 >>> ((nI k) &&& 31)) + (nI (19 * k))) >>> ((nI 3) &&& 31)), .int (nI 30)]) hx hb hml hown hts (c_L_below l D cI cZ cW cO G (((v25 >>> ((nI k) &&& 31)) + (nI (19 * k))) >>> ((nI 3) &&& 31)) 30 (by omega) (by omega)) (va_cwS 2 hts gL_build_L_below rfl rfl rfl (by decide +kernel) ⟨by decide, by decide⟩) hK hE rfl hl.1 rfl (Nat.le_of_ble_eq_true rfl) hS dL_build_283 ⟨show 22 + 3 * k ≤ 80 by omega, show 288 + 35 * k ≤ 900 by omega⟩ (fun locs hS => ?_)
                        have hb31 := bl_lt (v := ((v25 >>> ((nI k) &&& 31)) + (nI (19 * k))) >>> ((nI 3) &&& 31)) (N := 30) (by omega)
                        refine lv_istore (lv' := [(8, .int (nI (bl (((v25 >>> ((nI k) &&& 31)) + (nI (19 * k))) >>> ((nI 3) &&& 31)) 30))), (7, .int (nI (1 + (bl ((v25 >>> ((nI k) &&& 31)) + (nI (19 * k))) 3)))), (6, .int ((v25 >>> ((nI k) &&& 31)) + (nI (19 * k)))), (5, .int (nI k)), (4, .int (nI N2)), (3, .int (nI N1)), (2, .ref (a 1 0)), (0, .ref (a 0 40)), (1, .ref b)]) hx hb dL_build_286 hl (by decide) rfl (fun ls hl => ?_)
                        refine lv_iload hx hb dL_build_288 (lv_at hl 2 rfl) ?_
                        refine lv_iconst (v := nI 5) hx hb dL_build_290 rfl ?_
                        refine lv_ishr hx hb dL_build_291 ?_
                        refine lv_bipush (v := nI 10) hx hb dL_build_292 rfl ?_
                        refine roS0 (As := [.int (((v25 >>> ((nI k) &&& 31)) + (nI (19 * k))) >>> ((nI 5) &&& 31)), .int (nI 10)]) hx hb hml hown hts (c_L_below l D cI cZ cW cO G (((v25 >>> ((nI k) &&& 31)) + (nI (19 * k))) >>> ((nI 5) &&& 31)) 10 (by omega) (by omega)) (va_cwS 2 hts gL_build_L_below rfl rfl rfl (by decide +kernel) ⟨by decide, by decide⟩) hK hE rfl hl.1 rfl (Nat.le_of_ble_eq_true rfl) hS dL_build_294 ⟨show 22 + 3 * k ≤ 80 by omega, show 288 + 35 * k ≤ 900 by omega⟩ (fun locs hS => ?_)
                        have hb32 := bl_lt (v := ((v25 >>> ((nI k) &&& 31)) + (nI (19 * k))) >>> ((nI 5) &&& 31)) (N := 10) (by omega)
                        refine lv_istore (lv' := [(9, .int (nI (bl (((v25 >>> ((nI k) &&& 31)) + (nI (19 * k))) >>> ((nI 5) &&& 31)) 10))), (8, .int (nI (bl (((v25 >>> ((nI k) &&& 31)) + (nI (19 * k))) >>> ((nI 3) &&& 31)) 30))), (7, .int (nI (1 + (bl ((v25 >>> ((nI k) &&& 31)) + (nI (19 * k))) 3)))), (6, .int ((v25 >>> ((nI k) &&& 31)) + (nI (19 * k)))), (5, .int (nI k)), (4, .int (nI N2)), (3, .int (nI N1)), (2, .ref (a 1 0)), (0, .ref (a 0 40)), (1, .ref b)]) hx hb dL_build_297 hl (by decide) rfl (fun ls hl => ?_)
                        refine lv_aload_n hx hb dL_build_299 rfl (lv_at hl 8 rfl) ?_
                        refine lv_iload hx hb dL_build_300 (lv_at hl 2 rfl) ?_
                        refine lv_iload hx hb dL_build_302 (lv_at hl 1 rfl) ?_
                        refine lv_iload hx hb dL_build_304 (lv_at hl 0 rfl) ?_
                        have hk9 : kCome k (nI (1 + (bl ((v25 >>> ((nI k) &&& 31)) + (nI (19 * k))) 3))) (nI (bl (((v25 >>> ((nI k) &&& 31)) + (nI (19 * k))) >>> ((nI 3) &&& 31)) 30)) (nI (bl (((v25 >>> ((nI k) &&& 31)) + (nI (19 * k))) >>> ((nI 5) &&& 31)) 10)) = 0 := kCome_0 (by omega) (by omega) (by omega) (by omega) (by omega)
                        refine ayK (As := [.int (nI (1 + (bl ((v25 >>> ((nI k) &&& 31)) + (nI (19 * k))) 3))), .int (nI (bl (((v25 >>> ((nI k) &&& 31)) + (nI (19 * k))) >>> ((nI 3) &&& 31)) 30)), .int (nI (bl (((v25 >>> ((nI k) &&& 31)) + (nI (19 * k))) >>> ((nI 5) &&& 31)) 10))]) hx hb hml hown hts (c_X2_come l D cI cZ cW cO (a 0) N1 pl k 0 σ u.1 u.2.1 u.2.2 G (nI (1 + (bl ((v25 >>> ((nI k) &&& 31)) + (nI (19 * k))) 3))) (nI (bl (((v25 >>> ((nI k) &&& 31)) + (nI (19 * k))) >>> ((nI 3) &&& 31)) 30)) (nI (bl (((v25 >>> ((nI k) &&& 31)) + (nI (19 * k))) >>> ((nI 5) &&& 31)) 10)) (kA [41] a) (okP_k hO rfl) (by have := hLV.inv.1; omega) hk9) (cwV 3 hts gL_build_X2_come rfl rfl rfl (by decide +kernel) ⟨by decide, by decide⟩) hK hE hO rfl hP rfl hl.1 rfl (Nat.le_of_ble_eq_true rfl) hS dL_build_306 ⟨show 22 + 3 * k ≤ 80 by omega, show 288 + 35 * k ≤ 900 by omega⟩ (fun u33 G locs hP hS => ?_)
                        rw [show nCome k (nI (1 + (bl ((v25 >>> ((nI k) &&& 31)) + (nI (19 * k))) 3))) (nI (bl (((v25 >>> ((nI k) &&& 31)) + (nI (19 * k))) >>> ((nI 3) &&& 31)) 30)) (nI (bl (((v25 >>> ((nI k) &&& 31)) + (nI (19 * k))) >>> ((nI 5) &&& 31)) 10)) = k + 1 from if_pos hk9, show sComeK k σ (nI (1 + (bl ((v25 >>> ((nI k) &&& 31)) + (nI (19 * k))) 3))) (nI (bl (((v25 >>> ((nI k) &&& 31)) + (nI (19 * k))) >>> ((nI 3) &&& 31)) 30)) (nI (bl (((v25 >>> ((nI k) &&& 31)) + (nI (19 * k))) >>> ((nI 5) &&& 31)) 10)) = sCome k σ (nI (1 + (bl ((v25 >>> ((nI k) &&& 31)) + (nI (19 * k))) 3))) (nI (bl (((v25 >>> ((nI k) &&& 31)) + (nI (19 * k))) >>> ((nI 3) &&& 31)) 30)) (nI (bl (((v25 >>> ((nI k) &&& 31)) + (nI (19 * k))) >>> ((nI 5) &&& 31)) 10)) from if_pos hk9] at hP
                        have hP : kP D [41, 10, N1, k, k] a (eL cI cZ cW cO (xC cI cZ (a 0) N1 pl (k + 1) 0 (sCome k σ (nI (1 + (bl ((v25 >>> ((nI k) &&& 31)) + (nI (19 * k))) 3))) (nI (bl (((v25 >>> ((nI k) &&& 31)) + (nI (19 * k))) >>> ((nI 3) &&& 31)) 30)) (nI (bl (((v25 >>> ((nI k) &&& 31)) + (nI (19 * k))) >>> ((nI 5) &&& 31)) 10))) u33) a N1 k 0 σ (fun _ _ => 0) T) G := hP
                        refine li_topi (x' := nI k) (if_pos hk9) ?_
                        refine lv_iload hx hb dL_build_309 (lv_at hl 4 rfl) ?_
                        refine li_eq (tgt := 316) hx hb dL_build_311 (by decide) (by omega) (by omega) (fun c34 => ?_) (fun c34 => ?_)
                        · skip
                          refine lv_aload_n hx hb dL_build_316 rfl (lv_at hl 7 rfl) ?_
                          refine lv_iload hx hb dL_build_317 (lv_at hl 2 rfl) ?_
                          refine lv_iload hx hb dL_build_319 (lv_at hl 1 rfl) ?_
                          refine lv_iload hx hb dL_build_321 (lv_at hl 0 rfl) ?_
                          have hO9 := hO.sub (M' := (MS N1 k)) kLS
                          have hF9 : ∀ q, kF (MS N1 k) a G.size q → A q := fun q h => h.elim (kA_of hO9 q) (fun h => hA q (Nat.le_trans hS.1 h))
                          refine knK (As := [.int (nI (1 + (bl ((v25 >>> ((nI k) &&& 31)) + (nI (19 * k))) 3))), .int (nI (bl (((v25 >>> ((nI k) &&& 31)) + (nI (19 * k))) >>> ((nI 3) &&& 31)) 30)), .int (nI (bl (((v25 >>> ((nI k) &&& 31)) + (nI (19 * k))) >>> ((nI 5) &&& 31)) 10))]) hx hb hml hown hts (c_X3_come l D cI cZ cW cO (xC cI cZ (a 0) N1 pl (k + 1) 0 (sCome k σ (nI (1 + (bl ((v25 >>> ((nI k) &&& 31)) + (nI (19 * k))) 3))) (nI (bl (((v25 >>> ((nI k) &&& 31)) + (nI (19 * k))) >>> ((nI 3) &&& 31)) 30)) (nI (bl (((v25 >>> ((nI k) &&& 31)) + (nI (19 * k))) >>> ((nI 5) &&& 31)) 10))) u33) a N1 k 0 σ (fun _ _ => 0) T G (nI (1 + (bl ((v25 >>> ((nI k) &&& 31)) + (nI (19 * k))) 3))) (nI (bl (((v25 >>> ((nI k) &&& 31)) + (nI (19 * k))) >>> ((nI 3) &&& 31)) 30)) (nI (bl (((v25 >>> ((nI k) &&& 31)) + (nI (19 * k))) >>> ((nI 5) &&& 31)) 10)) (kF (MS N1 k) a G.size) (hO9.kA.weak (fun _ h => Or.inl h)) (by omega) (by omega) (LV_CZ hLV) (fun _ h => Or.inr h)) (cwV 3 hts gL_build_X3_come rfl rfl rfl (by decide +kernel) ⟨by decide, by decide⟩) hK hE (hP.sub kLS) (show 0 < 10 by decide) rfl rfl hl.1 rfl (Nat.le_of_ble_eq_true rfl) hS hF9 dL_build_323 ⟨show 22 + 3 * k + 3 ≤ 80 by omega, show 288 + 35 * k + 35 ≤ 900 by omega⟩ (fun b9 G locs hP1 hO1 hf9 h19 hz9 hk8 hS => ?_)
                          obtain ⟨a35, e0, e1, hP, hO⟩ := kt_mix hO hP hP1 hO1 hf9 hk8 hF9
                          rw [h19] at e1
                          have hP : kP D [41, 10, N1, k + 1, k + 1] a35 (eL cI cZ cW cO (xC cI cZ (a35 0) N1 pl (k + 1) 0 (sCome k σ (nI (1 + (bl ((v25 >>> ((nI k) &&& 31)) + (nI (19 * k))) 3))) (nI (bl (((v25 >>> ((nI k) &&& 31)) + (nI (19 * k))) >>> ((nI 3) &&& 31)) 30)) (nI (bl (((v25 >>> ((nI k) &&& 31)) + (nI (19 * k))) >>> ((nI 5) &&& 31)) 10))) u33) a35 N1 (k + 1) 0 (sCome k σ (nI (1 + (bl ((v25 >>> ((nI k) &&& 31)) + (nI (19 * k))) 3))) (nI (bl (((v25 >>> ((nI k) &&& 31)) + (nI (19 * k))) >>> ((nI 3) &&& 31)) 30)) (nI (bl (((v25 >>> ((nI k) &&& 31)) + (nI (19 * k))) >>> ((nI 5) &&& 31)) 10))) (fun _ _ => 0) T) G := hP
                          have ha0 : a35 0 = a0 := e0.trans ha0
                          skip
                          have hl : lv_has ls 10 [(9, .int (nI (bl (((v25 >>> ((nI k) &&& 31)) + (nI (19 * k))) >>> ((nI 5) &&& 31)) 10))), (8, .int (nI (bl (((v25 >>> ((nI k) &&& 31)) + (nI (19 * k))) >>> ((nI 3) &&& 31)) 30))), (7, .int (nI (1 + (bl ((v25 >>> ((nI k) &&& 31)) + (nI (19 * k))) 3)))), (6, .int ((v25 >>> ((nI k) &&& 31)) + (nI (19 * k)))), (5, .int (nI k)), (4, .int (nI N2)), (3, .int (nI N1)), (2, .ref (a35 1 0)), (0, .ref (a35 0 40)), (1, .ref b)] := by rw [e1, congrFun e0 40]; exact hl
                          refine lv_iinc (v := nI (k + 1)) (lv' := [(5, .int (nI (k + 1))), (9, .int (nI (bl (((v25 >>> ((nI k) &&& 31)) + (nI (19 * k))) >>> ((nI 5) &&& 31)) 10))), (8, .int (nI (bl (((v25 >>> ((nI k) &&& 31)) + (nI (19 * k))) >>> ((nI 3) &&& 31)) 30))), (7, .int (nI (1 + (bl ((v25 >>> ((nI k) &&& 31)) + (nI (19 * k))) 3)))), (6, .int ((v25 >>> ((nI k) &&& 31)) + (nI (19 * k)))), (4, .int (nI N2)), (3, .int (nI N1)), (2, .ref (a35 1 0)), (0, .ref (a35 0 40)), (1, .ref b)]) hx hb dL_build_326 hl (k := 4) rfl (nI_inc _ _) (by decide) rfl (fun ls hl => ?_)
                          refine lv_goto (tgt := 206) hx hb dL_build_329 (by decide) ?_
                          refine w_wide (k := 22 + 3 * (k + 1)) (n := 288 + 35 * (k + 1)) (by omega) (by omega) ?_
                          have hl9 : lv_has ls 10 [(5, .int (nI (k + 1))), (4, .int (nI N2)), (3, .int (nI N1)), (2, .ref (a35 1 0)), (0, .ref (a35 0 40)), (1, .ref b)] := lv_sub hl [0, 5, 6, 7, 8, 9] rfl
                          exact ih206 (k + 1) a35 u33 (sCome k σ (nI (1 + (bl ((v25 >>> ((nI k) &&& 31)) + (nI (19 * k))) 3))) (nI (bl (((v25 >>> ((nI k) &&& 31)) + (nI (19 * k))) >>> ((nI 3) &&& 31)) 30)) (nI (bl (((v25 >>> ((nI k) &&& 31)) + (nI (19 * k))) >>> ((nI 5) &&& 31)) 10))) (by omega) (by omega) (LV_come hLV (by omega) (by omega) (by omega) (by omega) (by omega)) (fun i => by unfold sCome; rw [up2_r (by decide), up2_r (by decide), up2_r (by decide), up2_r (by decide)]; exact hz6 i) (hO) (ha0) G locs hP hS ls hl9
                        · exact absurd rfl c34
                      · skip
                        refine lv_sipush (v := nI 201) hx hb dL_build_275 rfl ?_
                        refine lv_goto (tgt := 283) hx hb dL_build_278 (by decide) ?_
                        refine roS0 (As := [.int (((v25 >>> ((nI k) &&& 31)) + (nI (19 * k))) >>> ((nI 3) &&& 31)), .int (nI 201)]) hx hb hml hown hts (c_L_below l D cI cZ cW cO G (((v25 >>> ((nI k) &&& 31)) + (nI (19 * k))) >>> ((nI 3) &&& 31)) 201 (by omega) (by omega)) (va_cwS 2 hts gL_build_L_below rfl rfl rfl (by decide +kernel) ⟨by decide, by decide⟩) hK hE rfl hl.1 rfl (Nat.le_of_ble_eq_true rfl) hS dL_build_283 ⟨show 22 + 3 * k ≤ 80 by omega, show 288 + 35 * k ≤ 900 by omega⟩ (fun locs hS => ?_)
                        have hb36 := bl_lt (v := ((v25 >>> ((nI k) &&& 31)) + (nI (19 * k))) >>> ((nI 3) &&& 31)) (N := 201) (by omega)
                        refine lv_istore (lv' := [(8, .int (nI (bl (((v25 >>> ((nI k) &&& 31)) + (nI (19 * k))) >>> ((nI 3) &&& 31)) 201))), (7, .int (nI (1 + (bl ((v25 >>> ((nI k) &&& 31)) + (nI (19 * k))) 3)))), (6, .int ((v25 >>> ((nI k) &&& 31)) + (nI (19 * k)))), (5, .int (nI k)), (4, .int (nI N2)), (3, .int (nI N1)), (2, .ref (a 1 0)), (0, .ref (a 0 40)), (1, .ref b)]) hx hb dL_build_286 hl (by decide) rfl (fun ls hl => ?_)
                        refine lv_iload hx hb dL_build_288 (lv_at hl 2 rfl) ?_
                        refine lv_iconst (v := nI 5) hx hb dL_build_290 rfl ?_
                        refine lv_ishr hx hb dL_build_291 ?_
                        refine lv_bipush (v := nI 10) hx hb dL_build_292 rfl ?_
                        refine roS0 (As := [.int (((v25 >>> ((nI k) &&& 31)) + (nI (19 * k))) >>> ((nI 5) &&& 31)), .int (nI 10)]) hx hb hml hown hts (c_L_below l D cI cZ cW cO G (((v25 >>> ((nI k) &&& 31)) + (nI (19 * k))) >>> ((nI 5) &&& 31)) 10 (by omega) (by omega)) (va_cwS 2 hts gL_build_L_below rfl rfl rfl (by decide +kernel) ⟨by decide, by decide⟩) hK hE rfl hl.1 rfl (Nat.le_of_ble_eq_true rfl) hS dL_build_294 ⟨show 22 + 3 * k ≤ 80 by omega, show 288 + 35 * k ≤ 900 by omega⟩ (fun locs hS => ?_)
                        have hb37 := bl_lt (v := ((v25 >>> ((nI k) &&& 31)) + (nI (19 * k))) >>> ((nI 5) &&& 31)) (N := 10) (by omega)
                        refine lv_istore (lv' := [(9, .int (nI (bl (((v25 >>> ((nI k) &&& 31)) + (nI (19 * k))) >>> ((nI 5) &&& 31)) 10))), (8, .int (nI (bl (((v25 >>> ((nI k) &&& 31)) + (nI (19 * k))) >>> ((nI 3) &&& 31)) 201))), (7, .int (nI (1 + (bl ((v25 >>> ((nI k) &&& 31)) + (nI (19 * k))) 3)))), (6, .int ((v25 >>> ((nI k) &&& 31)) + (nI (19 * k)))), (5, .int (nI k)), (4, .int (nI N2)), (3, .int (nI N1)), (2, .ref (a 1 0)), (0, .ref (a 0 40)), (1, .ref b)]) hx hb dL_build_297 hl (by decide) rfl (fun ls hl => ?_)
                        refine lv_aload_n hx hb dL_build_299 rfl (lv_at hl 8 rfl) ?_
                        refine lv_iload hx hb dL_build_300 (lv_at hl 2 rfl) ?_
                        refine lv_iload hx hb dL_build_302 (lv_at hl 1 rfl) ?_
                        refine lv_iload hx hb dL_build_304 (lv_at hl 0 rfl) ?_
                        have hk9 : kCome k (nI (1 + (bl ((v25 >>> ((nI k) &&& 31)) + (nI (19 * k))) 3))) (nI (bl (((v25 >>> ((nI k) &&& 31)) + (nI (19 * k))) >>> ((nI 3) &&& 31)) 201)) (nI (bl (((v25 >>> ((nI k) &&& 31)) + (nI (19 * k))) >>> ((nI 5) &&& 31)) 10)) = 0 := kCome_0 (by omega) (by omega) (by omega) (by omega) (by omega)
                        refine ayK (As := [.int (nI (1 + (bl ((v25 >>> ((nI k) &&& 31)) + (nI (19 * k))) 3))), .int (nI (bl (((v25 >>> ((nI k) &&& 31)) + (nI (19 * k))) >>> ((nI 3) &&& 31)) 201)), .int (nI (bl (((v25 >>> ((nI k) &&& 31)) + (nI (19 * k))) >>> ((nI 5) &&& 31)) 10))]) hx hb hml hown hts (c_X2_come l D cI cZ cW cO (a 0) N1 pl k 0 σ u.1 u.2.1 u.2.2 G (nI (1 + (bl ((v25 >>> ((nI k) &&& 31)) + (nI (19 * k))) 3))) (nI (bl (((v25 >>> ((nI k) &&& 31)) + (nI (19 * k))) >>> ((nI 3) &&& 31)) 201)) (nI (bl (((v25 >>> ((nI k) &&& 31)) + (nI (19 * k))) >>> ((nI 5) &&& 31)) 10)) (kA [41] a) (okP_k hO rfl) (by have := hLV.inv.1; omega) hk9) (cwV 3 hts gL_build_X2_come rfl rfl rfl (by decide +kernel) ⟨by decide, by decide⟩) hK hE hO rfl hP rfl hl.1 rfl (Nat.le_of_ble_eq_true rfl) hS dL_build_306 ⟨show 22 + 3 * k ≤ 80 by omega, show 288 + 35 * k ≤ 900 by omega⟩ (fun u38 G locs hP hS => ?_)
                        rw [show nCome k (nI (1 + (bl ((v25 >>> ((nI k) &&& 31)) + (nI (19 * k))) 3))) (nI (bl (((v25 >>> ((nI k) &&& 31)) + (nI (19 * k))) >>> ((nI 3) &&& 31)) 201)) (nI (bl (((v25 >>> ((nI k) &&& 31)) + (nI (19 * k))) >>> ((nI 5) &&& 31)) 10)) = k + 1 from if_pos hk9, show sComeK k σ (nI (1 + (bl ((v25 >>> ((nI k) &&& 31)) + (nI (19 * k))) 3))) (nI (bl (((v25 >>> ((nI k) &&& 31)) + (nI (19 * k))) >>> ((nI 3) &&& 31)) 201)) (nI (bl (((v25 >>> ((nI k) &&& 31)) + (nI (19 * k))) >>> ((nI 5) &&& 31)) 10)) = sCome k σ (nI (1 + (bl ((v25 >>> ((nI k) &&& 31)) + (nI (19 * k))) 3))) (nI (bl (((v25 >>> ((nI k) &&& 31)) + (nI (19 * k))) >>> ((nI 3) &&& 31)) 201)) (nI (bl (((v25 >>> ((nI k) &&& 31)) + (nI (19 * k))) >>> ((nI 5) &&& 31)) 10)) from if_pos hk9] at hP
                        have hP : kP D [41, 10, N1, k, k] a (eL cI cZ cW cO (xC cI cZ (a 0) N1 pl (k + 1) 0 (sCome k σ (nI (1 + (bl ((v25 >>> ((nI k) &&& 31)) + (nI (19 * k))) 3))) (nI (bl (((v25 >>> ((nI k) &&& 31)) + (nI (19 * k))) >>> ((nI 3) &&& 31)) 201)) (nI (bl (((v25 >>> ((nI k) &&& 31)) + (nI (19 * k))) >>> ((nI 5) &&& 31)) 10))) u38) a N1 k 0 σ (fun _ _ => 0) T) G := hP
                        refine li_topi (x' := nI k) (if_pos hk9) ?_
                        refine lv_iload hx hb dL_build_309 (lv_at hl 4 rfl) ?_
                        refine li_eq (tgt := 316) hx hb dL_build_311 (by decide) (by omega) (by omega) (fun c39 => ?_) (fun c39 => ?_)
                        · skip
                          refine lv_aload_n hx hb dL_build_316 rfl (lv_at hl 7 rfl) ?_
                          refine lv_iload hx hb dL_build_317 (lv_at hl 2 rfl) ?_
                          refine lv_iload hx hb dL_build_319 (lv_at hl 1 rfl) ?_
                          refine lv_iload hx hb dL_build_321 (lv_at hl 0 rfl) ?_
                          have hO9 := hO.sub (M' := (MS N1 k)) kLS
                          have hF9 : ∀ q, kF (MS N1 k) a G.size q → A q := fun q h => h.elim (kA_of hO9 q) (fun h => hA q (Nat.le_trans hS.1 h))
                          refine knK (As := [.int (nI (1 + (bl ((v25 >>> ((nI k) &&& 31)) + (nI (19 * k))) 3))), .int (nI (bl (((v25 >>> ((nI k) &&& 31)) + (nI (19 * k))) >>> ((nI 3) &&& 31)) 201)), .int (nI (bl (((v25 >>> ((nI k) &&& 31)) + (nI (19 * k))) >>> ((nI 5) &&& 31)) 10))]) hx hb hml hown hts (c_X3_come l D cI cZ cW cO (xC cI cZ (a 0) N1 pl (k + 1) 0 (sCome k σ (nI (1 + (bl ((v25 >>> ((nI k) &&& 31)) + (nI (19 * k))) 3))) (nI (bl (((v25 >>> ((nI k) &&& 31)) + (nI (19 * k))) >>> ((nI 3) &&& 31)) 201)) (nI (bl (((v25 >>> ((nI k) &&& 31)) + (nI (19 * k))) >>> ((nI 5) &&& 31)) 10))) u38) a N1 k 0 σ (fun _ _ => 0) T G (nI (1 + (bl ((v25 >>> ((nI k) &&& 31)) + (nI (19 * k))) 3))) (nI (bl (((v25 >>> ((nI k) &&& 31)) + (nI (19 * k))) >>> ((nI 3) &&& 31)) 201)) (nI (bl (((v25 >>> ((nI k) &&& 31)) + (nI (19 * k))) >>> ((nI 5) &&& 31)) 10)) (kF (MS N1 k) a G.size) (hO9.kA.weak (fun _ h => Or.inl h)) (by omega) (by omega) (LV_CZ hLV) (fun _ h => Or.inr h)) (cwV 3 hts gL_build_X3_come rfl rfl rfl (by decide +kernel) ⟨by decide, by decide⟩) hK hE (hP.sub kLS) (show 0 < 10 by decide) rfl rfl hl.1 rfl (Nat.le_of_ble_eq_true rfl) hS hF9 dL_build_323 ⟨show 22 + 3 * k + 3 ≤ 80 by omega, show 288 + 35 * k + 35 ≤ 900 by omega⟩ (fun b9 G locs hP1 hO1 hf9 h19 hz9 hk8 hS => ?_)
                          obtain ⟨a40, e0, e1, hP, hO⟩ := kt_mix hO hP hP1 hO1 hf9 hk8 hF9
                          rw [h19] at e1
                          have hP : kP D [41, 10, N1, k + 1, k + 1] a40 (eL cI cZ cW cO (xC cI cZ (a40 0) N1 pl (k + 1) 0 (sCome k σ (nI (1 + (bl ((v25 >>> ((nI k) &&& 31)) + (nI (19 * k))) 3))) (nI (bl (((v25 >>> ((nI k) &&& 31)) + (nI (19 * k))) >>> ((nI 3) &&& 31)) 201)) (nI (bl (((v25 >>> ((nI k) &&& 31)) + (nI (19 * k))) >>> ((nI 5) &&& 31)) 10))) u38) a40 N1 (k + 1) 0 (sCome k σ (nI (1 + (bl ((v25 >>> ((nI k) &&& 31)) + (nI (19 * k))) 3))) (nI (bl (((v25 >>> ((nI k) &&& 31)) + (nI (19 * k))) >>> ((nI 3) &&& 31)) 201)) (nI (bl (((v25 >>> ((nI k) &&& 31)) + (nI (19 * k))) >>> ((nI 5) &&& 31)) 10))) (fun _ _ => 0) T) G := hP
                          have ha0 : a40 0 = a0 := e0.trans ha0
                          skip
                          have hl : lv_has ls 10 [(9, .int (nI (bl (((v25 >>> ((nI k) &&& 31)) + (nI (19 * k))) >>> ((nI 5) &&& 31)) 10))), (8, .int (nI (bl (((v25 >>> ((nI k) &&& 31)) + (nI (19 * k))) >>> ((nI 3) &&& 31)) 201))), (7, .int (nI (1 + (bl ((v25 >>> ((nI k) &&& 31)) + (nI (19 * k))) 3)))), (6, .int ((v25 >>> ((nI k) &&& 31)) + (nI (19 * k)))), (5, .int (nI k)), (4, .int (nI N2)), (3, .int (nI N1)), (2, .ref (a40 1 0)), (0, .ref (a40 0 40)), (1, .ref b)] := by rw [e1, congrFun e0 40]; exact hl
                          refine lv_iinc (v := nI (k + 1)) (lv' := [(5, .int (nI (k + 1))), (9, .int (nI (bl (((v25 >>> ((nI k) &&& 31)) + (nI (19 * k))) >>> ((nI 5) &&& 31)) 10))), (8, .int (nI (bl (((v25 >>> ((nI k) &&& 31)) + (nI (19 * k))) >>> ((nI 3) &&& 31)) 201))), (7, .int (nI (1 + (bl ((v25 >>> ((nI k) &&& 31)) + (nI (19 * k))) 3)))), (6, .int ((v25 >>> ((nI k) &&& 31)) + (nI (19 * k)))), (4, .int (nI N2)), (3, .int (nI N1)), (2, .ref (a40 1 0)), (0, .ref (a40 0 40)), (1, .ref b)]) hx hb dL_build_326 hl (k := 4) rfl (nI_inc _ _) (by decide) rfl (fun ls hl => ?_)
                          refine lv_goto (tgt := 206) hx hb dL_build_329 (by decide) ?_
                          refine w_wide (k := 22 + 3 * (k + 1)) (n := 288 + 35 * (k + 1)) (by omega) (by omega) ?_
                          have hl9 : lv_has ls 10 [(5, .int (nI (k + 1))), (4, .int (nI N2)), (3, .int (nI N1)), (2, .ref (a40 1 0)), (0, .ref (a40 0 40)), (1, .ref b)] := lv_sub hl [0, 5, 6, 7, 8, 9] rfl
                          exact ih206 (k + 1) a40 u38 (sCome k σ (nI (1 + (bl ((v25 >>> ((nI k) &&& 31)) + (nI (19 * k))) 3))) (nI (bl (((v25 >>> ((nI k) &&& 31)) + (nI (19 * k))) >>> ((nI 3) &&& 31)) 201)) (nI (bl (((v25 >>> ((nI k) &&& 31)) + (nI (19 * k))) >>> ((nI 5) &&& 31)) 10))) (by omega) (by omega) (LV_come hLV (by omega) (by omega) (by omega) (by omega) (by omega)) (fun i => by unfold sCome; rw [up2_r (by decide), up2_r (by decide), up2_r (by decide), up2_r (by decide)]; exact hz6 i) (hO) (ha0) G locs hP hS ls hl9
                        · exact absurd rfl c39
                    · skip
                      refine lv_iconst (v := nI 0) hx hb dL_build_255 rfl ?_
                      refine lv_goto (tgt := 286) hx hb dL_build_256 (by decide) ?_
                      refine lv_istore (lv' := [(8, .int (nI 0)), (7, .int (nI (1 + (bl ((v25 >>> ((nI k) &&& 31)) + (nI (19 * k))) 3)))), (6, .int ((v25 >>> ((nI k) &&& 31)) + (nI (19 * k)))), (5, .int (nI k)), (4, .int (nI N2)), (3, .int (nI N1)), (2, .ref (a 1 0)), (0, .ref (a 0 40)), (1, .ref b)]) hx hb dL_build_286 hl (by decide) rfl (fun ls hl => ?_)
                      refine lv_iload hx hb dL_build_288 (lv_at hl 2 rfl) ?_
                      refine lv_iconst (v := nI 5) hx hb dL_build_290 rfl ?_
                      refine lv_ishr hx hb dL_build_291 ?_
                      refine lv_bipush (v := nI 10) hx hb dL_build_292 rfl ?_
                      refine roS0 (As := [.int (((v25 >>> ((nI k) &&& 31)) + (nI (19 * k))) >>> ((nI 5) &&& 31)), .int (nI 10)]) hx hb hml hown hts (c_L_below l D cI cZ cW cO G (((v25 >>> ((nI k) &&& 31)) + (nI (19 * k))) >>> ((nI 5) &&& 31)) 10 (by omega) (by omega)) (va_cwS 2 hts gL_build_L_below rfl rfl rfl (by decide +kernel) ⟨by decide, by decide⟩) hK hE rfl hl.1 rfl (Nat.le_of_ble_eq_true rfl) hS dL_build_294 ⟨show 22 + 3 * k ≤ 80 by omega, show 288 + 35 * k ≤ 900 by omega⟩ (fun locs hS => ?_)
                      have hb41 := bl_lt (v := ((v25 >>> ((nI k) &&& 31)) + (nI (19 * k))) >>> ((nI 5) &&& 31)) (N := 10) (by omega)
                      refine lv_istore (lv' := [(9, .int (nI (bl (((v25 >>> ((nI k) &&& 31)) + (nI (19 * k))) >>> ((nI 5) &&& 31)) 10))), (8, .int (nI 0)), (7, .int (nI (1 + (bl ((v25 >>> ((nI k) &&& 31)) + (nI (19 * k))) 3)))), (6, .int ((v25 >>> ((nI k) &&& 31)) + (nI (19 * k)))), (5, .int (nI k)), (4, .int (nI N2)), (3, .int (nI N1)), (2, .ref (a 1 0)), (0, .ref (a 0 40)), (1, .ref b)]) hx hb dL_build_297 hl (by decide) rfl (fun ls hl => ?_)
                      refine lv_aload_n hx hb dL_build_299 rfl (lv_at hl 8 rfl) ?_
                      refine lv_iload hx hb dL_build_300 (lv_at hl 2 rfl) ?_
                      refine lv_iload hx hb dL_build_302 (lv_at hl 1 rfl) ?_
                      refine lv_iload hx hb dL_build_304 (lv_at hl 0 rfl) ?_
                      have hk9 : kCome k (nI (1 + (bl ((v25 >>> ((nI k) &&& 31)) + (nI (19 * k))) 3))) (nI 0) (nI (bl (((v25 >>> ((nI k) &&& 31)) + (nI (19 * k))) >>> ((nI 5) &&& 31)) 10)) = 0 := kCome_0 (by omega) (by omega) (by omega) (by omega) (by omega)
                      refine ayK (As := [.int (nI (1 + (bl ((v25 >>> ((nI k) &&& 31)) + (nI (19 * k))) 3))), .int (nI 0), .int (nI (bl (((v25 >>> ((nI k) &&& 31)) + (nI (19 * k))) >>> ((nI 5) &&& 31)) 10))]) hx hb hml hown hts (c_X2_come l D cI cZ cW cO (a 0) N1 pl k 0 σ u.1 u.2.1 u.2.2 G (nI (1 + (bl ((v25 >>> ((nI k) &&& 31)) + (nI (19 * k))) 3))) (nI 0) (nI (bl (((v25 >>> ((nI k) &&& 31)) + (nI (19 * k))) >>> ((nI 5) &&& 31)) 10)) (kA [41] a) (okP_k hO rfl) (by have := hLV.inv.1; omega) hk9) (cwV 3 hts gL_build_X2_come rfl rfl rfl (by decide +kernel) ⟨by decide, by decide⟩) hK hE hO rfl hP rfl hl.1 rfl (Nat.le_of_ble_eq_true rfl) hS dL_build_306 ⟨show 22 + 3 * k ≤ 80 by omega, show 288 + 35 * k ≤ 900 by omega⟩ (fun u42 G locs hP hS => ?_)
                      rw [show nCome k (nI (1 + (bl ((v25 >>> ((nI k) &&& 31)) + (nI (19 * k))) 3))) (nI 0) (nI (bl (((v25 >>> ((nI k) &&& 31)) + (nI (19 * k))) >>> ((nI 5) &&& 31)) 10)) = k + 1 from if_pos hk9, show sComeK k σ (nI (1 + (bl ((v25 >>> ((nI k) &&& 31)) + (nI (19 * k))) 3))) (nI 0) (nI (bl (((v25 >>> ((nI k) &&& 31)) + (nI (19 * k))) >>> ((nI 5) &&& 31)) 10)) = sCome k σ (nI (1 + (bl ((v25 >>> ((nI k) &&& 31)) + (nI (19 * k))) 3))) (nI 0) (nI (bl (((v25 >>> ((nI k) &&& 31)) + (nI (19 * k))) >>> ((nI 5) &&& 31)) 10)) from if_pos hk9] at hP
                      have hP : kP D [41, 10, N1, k, k] a (eL cI cZ cW cO (xC cI cZ (a 0) N1 pl (k + 1) 0 (sCome k σ (nI (1 + (bl ((v25 >>> ((nI k) &&& 31)) + (nI (19 * k))) 3))) (nI 0) (nI (bl (((v25 >>> ((nI k) &&& 31)) + (nI (19 * k))) >>> ((nI 5) &&& 31)) 10))) u42) a N1 k 0 σ (fun _ _ => 0) T) G := hP
                      refine li_topi (x' := nI k) (if_pos hk9) ?_
                      refine lv_iload hx hb dL_build_309 (lv_at hl 4 rfl) ?_
                      refine li_eq (tgt := 316) hx hb dL_build_311 (by decide) (by omega) (by omega) (fun c43 => ?_) (fun c43 => ?_)
                      · skip
                        refine lv_aload_n hx hb dL_build_316 rfl (lv_at hl 7 rfl) ?_
                        refine lv_iload hx hb dL_build_317 (lv_at hl 2 rfl) ?_
                        refine lv_iload hx hb dL_build_319 (lv_at hl 1 rfl) ?_
                        refine lv_iload hx hb dL_build_321 (lv_at hl 0 rfl) ?_
                        have hO9 := hO.sub (M' := (MS N1 k)) kLS
                        have hF9 : ∀ q, kF (MS N1 k) a G.size q → A q := fun q h => h.elim (kA_of hO9 q) (fun h => hA q (Nat.le_trans hS.1 h))
                        refine knK (As := [.int (nI (1 + (bl ((v25 >>> ((nI k) &&& 31)) + (nI (19 * k))) 3))), .int (nI 0), .int (nI (bl (((v25 >>> ((nI k) &&& 31)) + (nI (19 * k))) >>> ((nI 5) &&& 31)) 10))]) hx hb hml hown hts (c_X3_come l D cI cZ cW cO (xC cI cZ (a 0) N1 pl (k + 1) 0 (sCome k σ (nI (1 + (bl ((v25 >>> ((nI k) &&& 31)) + (nI (19 * k))) 3))) (nI 0) (nI (bl (((v25 >>> ((nI k) &&& 31)) + (nI (19 * k))) >>> ((nI 5) &&& 31)) 10))) u42) a N1 k 0 σ (fun _ _ => 0) T G (nI (1 + (bl ((v25 >>> ((nI k) &&& 31)) + (nI (19 * k))) 3))) (nI 0) (nI (bl (((v25 >>> ((nI k) &&& 31)) + (nI (19 * k))) >>> ((nI 5) &&& 31)) 10)) (kF (MS N1 k) a G.size) (hO9.kA.weak (fun _ h => Or.inl h)) (by omega) (by omega) (LV_CZ hLV) (fun _ h => Or.inr h)) (cwV 3 hts gL_build_X3_come rfl rfl rfl (by decide +kernel) ⟨by decide, by decide⟩) hK hE (hP.sub kLS) (show 0 < 10 by decide) rfl rfl hl.1 rfl (Nat.le_of_ble_eq_true rfl) hS hF9 dL_build_323 ⟨show 22 + 3 * k + 3 ≤ 80 by omega, show 288 + 35 * k + 35 ≤ 900 by omega⟩ (fun b9 G locs hP1 hO1 hf9 h19 hz9 hk8 hS => ?_)
                        obtain ⟨a44, e0, e1, hP, hO⟩ := kt_mix hO hP hP1 hO1 hf9 hk8 hF9
                        rw [h19] at e1
                        have hP : kP D [41, 10, N1, k + 1, k + 1] a44 (eL cI cZ cW cO (xC cI cZ (a44 0) N1 pl (k + 1) 0 (sCome k σ (nI (1 + (bl ((v25 >>> ((nI k) &&& 31)) + (nI (19 * k))) 3))) (nI 0) (nI (bl (((v25 >>> ((nI k) &&& 31)) + (nI (19 * k))) >>> ((nI 5) &&& 31)) 10))) u42) a44 N1 (k + 1) 0 (sCome k σ (nI (1 + (bl ((v25 >>> ((nI k) &&& 31)) + (nI (19 * k))) 3))) (nI 0) (nI (bl (((v25 >>> ((nI k) &&& 31)) + (nI (19 * k))) >>> ((nI 5) &&& 31)) 10))) (fun _ _ => 0) T) G := hP
                        have ha0 : a44 0 = a0 := e0.trans ha0
                        skip
                        have hl : lv_has ls 10 [(9, .int (nI (bl (((v25 >>> ((nI k) &&& 31)) + (nI (19 * k))) >>> ((nI 5) &&& 31)) 10))), (8, .int (nI 0)), (7, .int (nI (1 + (bl ((v25 >>> ((nI k) &&& 31)) + (nI (19 * k))) 3)))), (6, .int ((v25 >>> ((nI k) &&& 31)) + (nI (19 * k)))), (5, .int (nI k)), (4, .int (nI N2)), (3, .int (nI N1)), (2, .ref (a44 1 0)), (0, .ref (a44 0 40)), (1, .ref b)] := by rw [e1, congrFun e0 40]; exact hl
                        refine lv_iinc (v := nI (k + 1)) (lv' := [(5, .int (nI (k + 1))), (9, .int (nI (bl (((v25 >>> ((nI k) &&& 31)) + (nI (19 * k))) >>> ((nI 5) &&& 31)) 10))), (8, .int (nI 0)), (7, .int (nI (1 + (bl ((v25 >>> ((nI k) &&& 31)) + (nI (19 * k))) 3)))), (6, .int ((v25 >>> ((nI k) &&& 31)) + (nI (19 * k)))), (4, .int (nI N2)), (3, .int (nI N1)), (2, .ref (a44 1 0)), (0, .ref (a44 0 40)), (1, .ref b)]) hx hb dL_build_326 hl (k := 4) rfl (nI_inc _ _) (by decide) rfl (fun ls hl => ?_)
                        refine lv_goto (tgt := 206) hx hb dL_build_329 (by decide) ?_
                        refine w_wide (k := 22 + 3 * (k + 1)) (n := 288 + 35 * (k + 1)) (by omega) (by omega) ?_
                        have hl9 : lv_has ls 10 [(5, .int (nI (k + 1))), (4, .int (nI N2)), (3, .int (nI N1)), (2, .ref (a44 1 0)), (0, .ref (a44 0 40)), (1, .ref b)] := lv_sub hl [0, 5, 6, 7, 8, 9] rfl
                        exact ih206 (k + 1) a44 u42 (sCome k σ (nI (1 + (bl ((v25 >>> ((nI k) &&& 31)) + (nI (19 * k))) 3))) (nI 0) (nI (bl (((v25 >>> ((nI k) &&& 31)) + (nI (19 * k))) >>> ((nI 5) &&& 31)) 10))) (by omega) (by omega) (LV_come hLV (by omega) (by omega) (by omega) (by omega) (by omega)) (fun i => by unfold sCome; rw [up2_r (by decide), up2_r (by decide), up2_r (by decide), up2_r (by decide)]; exact hz6 i) (hO) (ha0) G locs hP hS ls hl9
                      · exact absurd rfl c43
              refine w_wide (k := 22 + 3 * 0) (n := 288 + 35 * 0) (by omega) (by omega) ?_
              have hl9 : lv_has ls 10 [(5, .int (nI 0)), (4, .int (nI N2)), (3, .int (nI N1)), (2, .ref (a 1 0)), (0, .ref (a 0 40)), (1, .ref b)] := lv_sub hl [0, 1, 2, 3, 4, 5] rfl
              exact L206_9 ((N2 - 0) + 1) 0 a u σ (Nat.lt_succ_self _) (by omega) (hLV) (hz6.2) (hO) (ha0) G locs hP hS ls hl9
            · skip
              refine lv_aload_n hx hb dL_build_143 rfl (lv_at hl 2 rfl) ?_
              refine lk_gf3 hx hb hX3 hown hK hP 1 0 (show 0 < 10 by decide) rfl 2 (by decide) f36 rfl dL_build_144 ?_
              refine lv_iload hx hb dL_build_147 (lv_at hl 0 rfl) ?_
              refine lv_aload_n hx hb dL_build_149 rfl (lv_at hl 4 rfl) ?_
              refine lv_iconst (v := nI 3) hx hb dL_build_150 rfl ?_
              refine cyS (As := [.ref b, .int (nI 3)]) hx hb hml hown hts (c_L_cell l D cI cZ cW cO G b L xs 3 hL (by omega)) (va_cwS 2 hts gL_build_L_cell rfl rfl rfl (by decide +kernel) ⟨by decide, by decide⟩) hK hE (hX.kept (hS.2.1 b hbl hbA)) rfl hl.1 rfl (Nat.le_of_ble_eq_true rfl) hS dL_build_151 ⟨show 22 ≤ 80 by omega, show 288 ≤ 900 by omega⟩ (fun v45 locs hS => ?_)
              refine lv_iconst (v := nI 2) hx hb dL_build_154 rfl ?_
              refine lv_iload hx hb dL_build_155 (lv_at hl 0 rfl) ?_
              refine lv_imul hx hb dL_build_157 ?_
              refine li_topi (pk_mul _ _) ?_
              refine lv_ishr hx hb dL_build_158 ?_
              refine lv_bipush (v := nI 10) hx hb dL_build_159 rfl ?_
              refine roS0 (As := [.int (v45 >>> ((nI (2 * k)) &&& 31)), .int (nI 10)]) hx hb hml hown hts (c_L_below l D cI cZ cW cO G (v45 >>> ((nI (2 * k)) &&& 31)) 10 (by omega) (by omega)) (va_cwS 2 hts gL_build_L_below rfl rfl rfl (by decide +kernel) ⟨by decide, by decide⟩) hK hE rfl hl.1 rfl (Nat.le_of_ble_eq_true rfl) hS dL_build_161 ⟨show 22 ≤ 80 by omega, show 288 ≤ 900 by omega⟩ (fun locs hS => ?_)
              have hb46 := bl_lt (v := v45 >>> ((nI (2 * k)) &&& 31)) (N := 10) (by omega)
              refine lk_ist hx hb hK hP hO hS 1 3 (show 3 < 10 by decide) rfl (by omega) (by decide) stS_3 dL_build_164 (fun G locs hP hS => ?_)
              refine lv_aload_n hx hb dL_build_165 rfl (lv_at hl 3 rfl) ?_
              refine lv_iload hx hb dL_build_166 (lv_at hl 0 rfl) ?_
              refine lv_aload_n hx hb dL_build_168 rfl (lv_at hl 2 rfl) ?_
              refine lk_gf3 hx hb hX3 hown hK hP 1 0 (show 0 < 10 by decide) rfl 2 (by decide) f36 rfl dL_build_169 ?_
              refine lv_iload hx hb dL_build_172 (lv_at hl 0 rfl) ?_
              refine lk_ild hx hb hK hP 1 3 (show 3 < 10 by decide) rfl (by omega) (by decide) dL_build_174 ?_
              refine li_topi (show (up2 σ 3 k (nI (bl (v45 >>> ((nI (2 * k)) &&& 31)) 10))) 3 k = nI (bl (v45 >>> ((nI (2 * k)) &&& 31)) 10) from by exact up2_in') ?_
              have hk9 : kWind (nI k) (nI (bl (v45 >>> ((nI (2 * k)) &&& 31)) 10)) = 0 := kWind_0 (by omega) (by omega)
              refine ayK (As := [.int (nI k), .int (nI (bl (v45 >>> ((nI (2 * k)) &&& 31)) 10))]) hx hb hml hown hts (c_X2_setWind l D cI cZ cW cO (a 0) N1 pl 0 0 σ u.1 u.2.1 u.2.2 G (nI k) (nI (bl (v45 >>> ((nI (2 * k)) &&& 31)) 10)) (kA [41] a) (okP_k hO rfl) (by have := hLV.inv.1; omega) hk9) (cwV 2 hts gL_build_X2_setWind rfl rfl rfl (by decide +kernel) ⟨by decide, by decide⟩) hK hE hO rfl hP rfl hl.1 rfl (Nat.le_of_ble_eq_true rfl) hS dL_build_175 ⟨show 22 ≤ 80 by omega, show 288 ≤ 900 by omega⟩ (fun u47 G locs hP hS => ?_)
              rw [show sWind σ (nI k) (nI (bl (v45 >>> ((nI (2 * k)) &&& 31)) 10)) = up2 σ 3 k (nI (bl (v45 >>> ((nI (2 * k)) &&& 31)) 10)) from by unfold sWind; rw [if_pos hk9, nN_nI (by omega)]] at hP
              have hP : kP D [41, 10, N1, 0, 0] a (eL cI cZ cW cO (xC cI cZ (a 0) N1 pl 0 0 (up2 σ 3 k (nI (bl (v45 >>> ((nI (2 * k)) &&& 31)) 10))) u47) a N1 0 0 (up2 σ 3 k (nI (bl (v45 >>> ((nI (2 * k)) &&& 31)) 10))) (fun _ _ => 0) T) G := hP
              refine li_topi (x' := σ 3 k) (by unfold vWind; rw [if_pos hk9, nN_nI (by omega)]) ?_
              refine li_topi (show σ 3 k = nI 0 from hz6.1 k (by omega)) ?_
              refine li_eq0 (tgt := 183) hx hb dL_build_178 (by decide) (by omega) (fun c48 => ?_) (fun c48 => ?_)
              · skip
                refine lv_iinc (v := nI (k + 1)) (lv' := [(4, .int (nI (k + 1))), (3, .int (nI N1)), (2, .ref (a 1 0)), (0, .ref (a 0 40)), (1, .ref b)]) hx hb dL_build_183 hl (k := 0) rfl (nI_inc _ _) (by decide) rfl (fun ls hl => ?_)
                refine lv_goto (tgt := 136) hx hb dL_build_186 (by decide) ?_
                refine w_wide (k := 22) (n := 288) (by omega) (by omega) ?_
                have hl9 : lv_has ls 10 [(4, .int (nI (k + 1))), (3, .int (nI N1)), (2, .ref (a 1 0)), (0, .ref (a 0 40)), (1, .ref b)] := lv_sub hl [0, 1, 2, 3, 4] rfl
                exact ih136 (k + 1) a u47 (up2 σ 3 k (nI (bl (v45 >>> ((nI (2 * k)) &&& 31)) 10))) (by omega) (by omega) (LV_wind hLV (by omega) (by omega)) (⟨fun i hi => by rw [up2_o (by omega)]; exact hz6.1 i (by omega), fun i => by rw [up2_r (by decide)]; exact hz6.2 i⟩) (hO) (ha0) G locs hP hS ls hl9
              · exact absurd c48 (by decide)
        refine w_wide (k := 22) (n := 288) (by omega) (by omega) ?_
        have hl9 : lv_has ls 10 [(4, .int (nI 0)), (3, .int (nI N1)), (2, .ref (a 1 0)), (0, .ref (a 0 40)), (1, .ref b)] := lv_sub hl [0, 1, 2, 3, 4] rfl
        exact L136_5 ((10 - 0) + 1) 0 a u σ (Nat.lt_succ_self _) (by omega) (hLV) (⟨fun i _ => (hz6 i).1, fun i => (hz6 i).2⟩) (hO) (ha0) G locs hP hS ls hl9
      · skip
        refine lv_iconst (v := nI 1) hx hb dL_build_30 rfl ?_
        refine lv_aload_n hx hb dL_build_31 rfl (lv_at hl 4 rfl) ?_
        refine lv_iconst (v := nI 1) hx hb dL_build_32 rfl ?_
        refine cyS (As := [.ref b, .int (nI 1)]) hx hb hml hown hts (c_L_cell l D cI cZ cW cO G b L xs 1 hL (by omega)) (va_cwS 2 hts gL_build_L_cell rfl rfl rfl (by decide +kernel) ⟨by decide, by decide⟩) hK hE (hX.kept (hS.2.1 b hbl hbA)) rfl hl.1 rfl (Nat.le_of_ble_eq_true rfl) hS dL_build_33 ⟨show 10 + 2 * k ≤ 80 by omega, show 192 + 16 * k ≤ 900 by omega⟩ (fun v49 locs hS => ?_)
        refine lv_iconst (v := nI 2) hx hb dL_build_36 rfl ?_
        refine lv_iload hx hb dL_build_37 (lv_at hl 0 rfl) ?_
        refine lv_imul hx hb dL_build_39 ?_
        refine li_topi (pk_mul _ _) ?_
        refine lv_ishr hx hb dL_build_40 ?_
        refine lv_aload_n hx hb dL_build_41 rfl (lv_at hl 4 rfl) ?_
        refine lv_iconst (v := nI 1) hx hb dL_build_42 rfl ?_
        refine cyS (As := [.ref b, .int (nI 1)]) hx hb hml hown hts (c_L_cell l D cI cZ cW cO G b L xs 1 hL (by omega)) (va_cwS 2 hts gL_build_L_cell rfl rfl rfl (by decide +kernel) ⟨by decide, by decide⟩) hK hE (hX.kept (hS.2.1 b hbl hbA)) rfl hl.1 rfl (Nat.le_of_ble_eq_true rfl) hS dL_build_43 ⟨show 10 + 2 * k ≤ 80 by omega, show 192 + 16 * k ≤ 900 by omega⟩ (fun v50 locs hS => ?_)
        refine lv_iconst (v := nI 2) hx hb dL_build_46 rfl ?_
        refine roS0 (As := [.int v50, .int (nI 2)]) hx hb hml hown hts (c_L_below l D cI cZ cW cO G v50 2 (by omega) (by omega)) (va_cwS 2 hts gL_build_L_below rfl rfl rfl (by decide +kernel) ⟨by decide, by decide⟩) hK hE rfl hl.1 rfl (Nat.le_of_ble_eq_true rfl) hS dL_build_47 ⟨show 10 + 2 * k ≤ 80 by omega, show 192 + 16 * k ≤ 900 by omega⟩ (fun locs hS => ?_)
        have hb51 := bl_lt (v := v50) (N := 2) (by omega)
        refine li_ne0 (tgt := 58) hx hb dL_build_50 (by decide) (by omega) (fun c52 => ?_) (fun c52 => ?_)
        · skip
          refine lv_iconst (v := nI 5) hx hb dL_build_58 rfl ?_
          refine roS0 (As := [.int (v49 >>> ((nI (2 * k)) &&& 31)), .int (nI 5)]) hx hb hml hown hts (c_L_below l D cI cZ cW cO G (v49 >>> ((nI (2 * k)) &&& 31)) 5 (by omega) (by omega)) (va_cwS 2 hts gL_build_L_below rfl rfl rfl (by decide +kernel) ⟨by decide, by decide⟩) hK hE rfl hl.1 rfl (Nat.le_of_ble_eq_true rfl) hS dL_build_59 ⟨show 10 + 2 * k ≤ 80 by omega, show 192 + 16 * k ≤ 900 by omega⟩ (fun locs hS => ?_)
          have hb53 := bl_lt (v := v49 >>> ((nI (2 * k)) &&& 31)) (N := 5) (by omega)
          refine lv_iadd hx hb dL_build_62 ?_
          refine li_topi (nI_add _ _) ?_
          refine lv_istore (lv' := [(5, .int (nI (1 + (bl (v49 >>> ((nI (2 * k)) &&& 31)) 5)))), (4, .int (nI k)), (3, .int (nI N1)), (2, .ref (a 1 0)), (0, .ref (a 0 40)), (1, .ref b)]) hx hb dL_build_63 hl (by decide) rfl (fun ls hl => ?_)
          refine lv_iconst (v := nI 1) hx hb dL_build_65 rfl ?_
          refine lv_aload_n hx hb dL_build_66 rfl (lv_at hl 5 rfl) ?_
          refine lv_iconst (v := nI 2) hx hb dL_build_67 rfl ?_
          refine cyS (As := [.ref b, .int (nI 2)]) hx hb hml hown hts (c_L_cell l D cI cZ cW cO G b L xs 2 hL (by omega)) (va_cwS 2 hts gL_build_L_cell rfl rfl rfl (by decide +kernel) ⟨by decide, by decide⟩) hK hE (hX.kept (hS.2.1 b hbl hbA)) rfl hl.1 rfl (Nat.le_of_ble_eq_true rfl) hS dL_build_68 ⟨show 10 + 2 * k ≤ 80 by omega, show 192 + 16 * k ≤ 900 by omega⟩ (fun v54 locs hS => ?_)
          refine lv_iload hx hb dL_build_71 (lv_at hl 1 rfl) ?_
          refine lv_ishr hx hb dL_build_73 ?_
          refine lv_iconst (v := nI 4) hx hb dL_build_74 rfl ?_
          refine roS0 (As := [.int (v54 >>> ((nI k) &&& 31)), .int (nI 4)]) hx hb hml hown hts (c_L_below l D cI cZ cW cO G (v54 >>> ((nI k) &&& 31)) 4 (by omega) (by omega)) (va_cwS 2 hts gL_build_L_below rfl rfl rfl (by decide +kernel) ⟨by decide, by decide⟩) hK hE rfl hl.1 rfl (Nat.le_of_ble_eq_true rfl) hS dL_build_75 ⟨show 10 + 2 * k ≤ 80 by omega, show 192 + 16 * k ≤ 900 by omega⟩ (fun locs hS => ?_)
          have hb55 := bl_lt (v := v54 >>> ((nI k) &&& 31)) (N := 4) (by omega)
          refine lv_aload_n hx hb dL_build_78 rfl (lv_at hl 5 rfl) ?_
          refine lv_iconst (v := nI 2) hx hb dL_build_79 rfl ?_
          refine cyS (As := [.ref b, .int (nI 2)]) hx hb hml hown hts (c_L_cell l D cI cZ cW cO G b L xs 2 hL (by omega)) (va_cwS 2 hts gL_build_L_cell rfl rfl rfl (by decide +kernel) ⟨by decide, by decide⟩) hK hE (hX.kept (hS.2.1 b hbl hbA)) rfl hl.1 rfl (Nat.le_of_ble_eq_true rfl) hS dL_build_80 ⟨show 10 + 2 * k ≤ 80 by omega, show 192 + 16 * k ≤ 900 by omega⟩ (fun v56 locs hS => ?_)
          refine lv_iload hx hb dL_build_83 (lv_at hl 1 rfl) ?_
          refine lv_iconst (v := nI 3) hx hb dL_build_85 rfl ?_
          refine lv_iadd hx hb dL_build_86 ?_
          refine li_topi (nI_add _ _) ?_
          refine lv_ishr hx hb dL_build_87 ?_
          refine lv_iconst (v := nI 2) hx hb dL_build_88 rfl ?_
          refine roS0 (As := [.int (v56 >>> ((nI (k + 3)) &&& 31)), .int (nI 2)]) hx hb hml hown hts (c_L_below l D cI cZ cW cO G (v56 >>> ((nI (k + 3)) &&& 31)) 2 (by omega) (by omega)) (va_cwS 2 hts gL_build_L_below rfl rfl rfl (by decide +kernel) ⟨by decide, by decide⟩) hK hE rfl hl.1 rfl (Nat.le_of_ble_eq_true rfl) hS dL_build_89 ⟨show 10 + 2 * k ≤ 80 by omega, show 192 + 16 * k ≤ 900 by omega⟩ (fun locs hS => ?_)
          have hb57 := bl_lt (v := v56 >>> ((nI (k + 3)) &&& 31)) (N := 2) (by omega)
          refine lv_imul hx hb dL_build_92 ?_
          refine li_topi (pk_mul _ _) ?_
          have hm9 := Nat.mul_le_mul (show (bl (v54 >>> ((nI k) &&& 31)) 4) ≤ 3 by omega) (show (bl (v56 >>> ((nI (k + 3)) &&& 31)) 2) ≤ 1 by omega)
          refine lv_iadd hx hb dL_build_93 ?_
          refine li_topi (nI_add _ _) ?_
          obtain ⟨y0, hy0⟩ : ∃ z, z = 1 + ((bl (v54 >>> ((nI k) &&& 31)) 4) * (bl (v56 >>> ((nI (k + 3)) &&& 31)) 2)) := ⟨_, rfl⟩
          rw [← hy0]
          have hy4 : y0 ≤ 4 := by omega
          have hy1 : 1 ≤ y0 := by omega
          refine lv_istore (lv' := [(6, .int (nI y0)), (5, .int (nI (1 + (bl (v49 >>> ((nI (2 * k)) &&& 31)) 5)))), (4, .int (nI k)), (3, .int (nI N1)), (2, .ref (a 1 0)), (0, .ref (a 0 40)), (1, .ref b)]) hx hb dL_build_94 hl (by decide) rfl (fun ls hl => ?_)
          refine lv_aload_n hx hb dL_build_96 rfl (lv_at hl 5 rfl) ?_
          refine lv_iload hx hb dL_build_97 (lv_at hl 1 rfl) ?_
          refine lv_iconst (v := nI 4) hx hb dL_build_99 rfl ?_
          refine lv_iload hx hb dL_build_100 (lv_at hl 0 rfl) ?_
          refine va_mmin hx hb (hml.trans hl.1.symm) hown g9 g10 g11 g12 (by decide) (Nat.le_of_ble_eq_true rfl) (show 10 + 2 * k ≤ 80 by omega) (show 192 + 16 * k ≤ 900 by omega) dL_build_102 ?_
          refine li_topi (show _ = nI y0 from min4 hy4) ?_
          have hk9 : kAdd k σ (nI (1 + (bl (v49 >>> ((nI (2 * k)) &&& 31)) 5))) (nI y0) = 0 := kAdd_0 hLV (by omega) (by omega) (by omega) (by omega) (by omega)
          refine ayK (As := [.int (nI (1 + (bl (v49 >>> ((nI (2 * k)) &&& 31)) 5))), .int (nI y0)]) hx hb hml hown hts (c_X2_addStretch l D cI cZ cW cO (a 0) k pl 0 0 σ u.1 u.2.1 u.2.2 G (nI (1 + (bl (v49 >>> ((nI (2 * k)) &&& 31)) 5))) (nI y0) (kA [41] a) (okP_k hO rfl) (by have := hLV.inv.1; omega) hk9) (cwV 2 hts gL_build_X2_addStretch rfl rfl rfl (by decide +kernel) ⟨by decide, by decide⟩) hK hE hO rfl hP rfl hl.1 rfl (Nat.le_of_ble_eq_true rfl) hS dL_build_105 ⟨show 10 + 2 * k ≤ 80 by omega, show 192 + 16 * k ≤ 900 by omega⟩ (fun u58 G locs hP hS => ?_)
          rw [show nAdd k σ (nI (1 + (bl (v49 >>> ((nI (2 * k)) &&& 31)) 5))) (nI y0) = k + 1 from if_pos hk9, show plAdd k pl σ (nI (1 + (bl (v49 >>> ((nI (2 * k)) &&& 31)) 5))) (nI y0) = pl + (1 + (bl (v49 >>> ((nI (2 * k)) &&& 31)) 5)) from by unfold plAdd; rw [if_pos hk9, nN_nI (by omega)], show sAddK k pl σ (nI (1 + (bl (v49 >>> ((nI (2 * k)) &&& 31)) 5))) (nI y0) = sAdd k pl σ (nI (1 + (bl (v49 >>> ((nI (2 * k)) &&& 31)) 5))) (nI y0) from if_pos hk9] at hP
          have hP : kP D [41, 10, k, 0, 0] a (eL cI cZ cW cO (xC cI cZ (a 0) (k + 1) (pl + (1 + (bl (v49 >>> ((nI (2 * k)) &&& 31)) 5))) 0 0 (sAdd k pl σ (nI (1 + (bl (v49 >>> ((nI (2 * k)) &&& 31)) 5))) (nI y0)) u58) a k 0 0 σ (fun _ _ => 0) T) G := hP
          refine li_topi (x' := nI k) (if_pos hk9) ?_
          refine lv_iload hx hb dL_build_108 (lv_at hl 2 rfl) ?_
          refine li_eq (tgt := 115) hx hb dL_build_110 (by decide) (by omega) (by omega) (fun c59 => ?_) (fun c59 => ?_)
          · skip
            refine lv_aload_n hx hb dL_build_115 rfl (lv_at hl 4 rfl) ?_
            refine lv_iload hx hb dL_build_116 (lv_at hl 1 rfl) ?_
            refine lv_iconst (v := nI 4) hx hb dL_build_118 rfl ?_
            refine lv_iload hx hb dL_build_119 (lv_at hl 0 rfl) ?_
            refine va_mmin hx hb (hml.trans hl.1.symm) hown g9 g10 g11 g12 (by decide) (Nat.le_of_ble_eq_true rfl) (show 10 + 2 * k ≤ 80 by omega) (show 192 + 16 * k ≤ 900 by omega) dL_build_121 ?_
            refine li_topi (show _ = nI y0 from min4 hy4) ?_
            have hO9 := hO.sub (M' := (MS k 0)) kLS
            have hF9 : ∀ q, kF (MS k 0) a G.size q → A q := fun q h => h.elim (kA_of hO9 q) (fun h => hA q (Nat.le_trans hS.1 h))
            refine knK (As := [.int (nI (1 + (bl (v49 >>> ((nI (2 * k)) &&& 31)) 5))), .int (nI y0)]) hx hb hml hown hts (c_X3_stretch l D cI cZ cW cO (xC cI cZ (a 0) (k + 1) (pl + (1 + (bl (v49 >>> ((nI (2 * k)) &&& 31)) 5))) 0 0 (sAdd k pl σ (nI (1 + (bl (v49 >>> ((nI (2 * k)) &&& 31)) 5))) (nI y0)) u58) a k 0 0 σ (fun _ _ => 0) T G (nI (1 + (bl (v49 >>> ((nI (2 * k)) &&& 31)) 5))) (nI y0) (kF (MS k 0) a G.size) (hO9.kA.weak (fun _ h => Or.inl h)) (by omega) (by omega) (hLV.inv.2.2.2.2.2.2.2.2.2 _ (Nat.le_refl _)) (fun _ h => Or.inr h)) (cwV 2 hts gL_build_X3_stretch rfl rfl rfl (by decide +kernel) ⟨by decide, by decide⟩) hK hE (hP.sub kLS) (show 0 < 10 by decide) rfl rfl hl.1 rfl (Nat.le_of_ble_eq_true rfl) hS hF9 dL_build_124 ⟨show 10 + 2 * k + 2 ≤ 80 by omega, show 192 + 16 * k + 16 ≤ 900 by omega⟩ (fun b9 G locs hP1 hO1 hf9 h19 hz9 hk8 hS => ?_)
            obtain ⟨a60, e0, e1, hP, hO⟩ := kt_mix hO hP hP1 hO1 hf9 hk8 hF9
            rw [h19] at e1
            rw [plS_eq hLV.inv.2.2.2.1] at hP
            have hP : kP D [41, 10, k + 1, 0, 0] a60 (eL cI cZ cW cO (xC cI cZ (a60 0) (k + 1) (pl + (1 + (bl (v49 >>> ((nI (2 * k)) &&& 31)) 5))) 0 0 (sAdd k pl σ (nI (1 + (bl (v49 >>> ((nI (2 * k)) &&& 31)) 5))) (nI y0)) u58) a60 (k + 1) 0 0 (sAdd k pl σ (nI (1 + (bl (v49 >>> ((nI (2 * k)) &&& 31)) 5))) (nI y0)) (fun _ _ => 0) T) G := hP
            have ha0 : a60 0 = a0 := e0.trans ha0
            skip
            have hl : lv_has ls 10 [(6, .int (nI y0)), (5, .int (nI (1 + (bl (v49 >>> ((nI (2 * k)) &&& 31)) 5)))), (4, .int (nI k)), (3, .int (nI N1)), (2, .ref (a60 1 0)), (0, .ref (a60 0 40)), (1, .ref b)] := by rw [e1, congrFun e0 40]; exact hl
            refine lv_iinc (v := nI (k + 1)) (lv' := [(4, .int (nI (k + 1))), (6, .int (nI y0)), (5, .int (nI (1 + (bl (v49 >>> ((nI (2 * k)) &&& 31)) 5)))), (3, .int (nI N1)), (2, .ref (a60 1 0)), (0, .ref (a60 0 40)), (1, .ref b)]) hx hb dL_build_127 hl (k := 2) rfl (nI_inc _ _) (by decide) rfl (fun ls hl => ?_)
            refine lv_goto (tgt := 24) hx hb dL_build_130 (by decide) ?_
            refine w_wide (k := 10 + 2 * (k + 1)) (n := 192 + 16 * (k + 1)) (by omega) (by omega) ?_
            have hl9 : lv_has ls 10 [(4, .int (nI (k + 1))), (3, .int (nI N1)), (2, .ref (a60 1 0)), (0, .ref (a60 0 40)), (1, .ref b)] := lv_sub hl [0, 3, 4, 5, 6] rfl
            exact ih24 (k + 1) (pl + (1 + (bl (v49 >>> ((nI (2 * k)) &&& 31)) 5))) a60 u58 (sAdd k pl σ (nI (1 + (bl (v49 >>> ((nI (2 * k)) &&& 31)) 5))) (nI y0)) (by omega) (by omega) (LV_add hLV (by omega) (by omega) (by omega) (by omega) (by omega)) (fun i => by unfold sAdd; rw [up2_r (by decide), up2_r (by decide), up2_r (by decide), up2_r (by decide), up2_r (by decide), up2_r (by decide)]; exact hz6 i) (hO) (ha0) G locs hP hS ls hl9
          · exact absurd rfl c59
        · skip
          refine lv_bipush (v := nI 20) hx hb dL_build_53 rfl ?_
          refine lv_goto (tgt := 59) hx hb dL_build_55 (by decide) ?_
          refine roS0 (As := [.int (v49 >>> ((nI (2 * k)) &&& 31)), .int (nI 20)]) hx hb hml hown hts (c_L_below l D cI cZ cW cO G (v49 >>> ((nI (2 * k)) &&& 31)) 20 (by omega) (by omega)) (va_cwS 2 hts gL_build_L_below rfl rfl rfl (by decide +kernel) ⟨by decide, by decide⟩) hK hE rfl hl.1 rfl (Nat.le_of_ble_eq_true rfl) hS dL_build_59 ⟨show 10 + 2 * k ≤ 80 by omega, show 192 + 16 * k ≤ 900 by omega⟩ (fun locs hS => ?_)
          have hb61 := bl_lt (v := v49 >>> ((nI (2 * k)) &&& 31)) (N := 20) (by omega)
          refine lv_iadd hx hb dL_build_62 ?_
          refine li_topi (nI_add _ _) ?_
          refine lv_istore (lv' := [(5, .int (nI (1 + (bl (v49 >>> ((nI (2 * k)) &&& 31)) 20)))), (4, .int (nI k)), (3, .int (nI N1)), (2, .ref (a 1 0)), (0, .ref (a 0 40)), (1, .ref b)]) hx hb dL_build_63 hl (by decide) rfl (fun ls hl => ?_)
          refine lv_iconst (v := nI 1) hx hb dL_build_65 rfl ?_
          refine lv_aload_n hx hb dL_build_66 rfl (lv_at hl 5 rfl) ?_
          refine lv_iconst (v := nI 2) hx hb dL_build_67 rfl ?_
          refine cyS (As := [.ref b, .int (nI 2)]) hx hb hml hown hts (c_L_cell l D cI cZ cW cO G b L xs 2 hL (by omega)) (va_cwS 2 hts gL_build_L_cell rfl rfl rfl (by decide +kernel) ⟨by decide, by decide⟩) hK hE (hX.kept (hS.2.1 b hbl hbA)) rfl hl.1 rfl (Nat.le_of_ble_eq_true rfl) hS dL_build_68 ⟨show 10 + 2 * k ≤ 80 by omega, show 192 + 16 * k ≤ 900 by omega⟩ (fun v62 locs hS => ?_)
          refine lv_iload hx hb dL_build_71 (lv_at hl 1 rfl) ?_
          refine lv_ishr hx hb dL_build_73 ?_
          refine lv_iconst (v := nI 4) hx hb dL_build_74 rfl ?_
          refine roS0 (As := [.int (v62 >>> ((nI k) &&& 31)), .int (nI 4)]) hx hb hml hown hts (c_L_below l D cI cZ cW cO G (v62 >>> ((nI k) &&& 31)) 4 (by omega) (by omega)) (va_cwS 2 hts gL_build_L_below rfl rfl rfl (by decide +kernel) ⟨by decide, by decide⟩) hK hE rfl hl.1 rfl (Nat.le_of_ble_eq_true rfl) hS dL_build_75 ⟨show 10 + 2 * k ≤ 80 by omega, show 192 + 16 * k ≤ 900 by omega⟩ (fun locs hS => ?_)
          have hb63 := bl_lt (v := v62 >>> ((nI k) &&& 31)) (N := 4) (by omega)
          refine lv_aload_n hx hb dL_build_78 rfl (lv_at hl 5 rfl) ?_
          refine lv_iconst (v := nI 2) hx hb dL_build_79 rfl ?_
          refine cyS (As := [.ref b, .int (nI 2)]) hx hb hml hown hts (c_L_cell l D cI cZ cW cO G b L xs 2 hL (by omega)) (va_cwS 2 hts gL_build_L_cell rfl rfl rfl (by decide +kernel) ⟨by decide, by decide⟩) hK hE (hX.kept (hS.2.1 b hbl hbA)) rfl hl.1 rfl (Nat.le_of_ble_eq_true rfl) hS dL_build_80 ⟨show 10 + 2 * k ≤ 80 by omega, show 192 + 16 * k ≤ 900 by omega⟩ (fun v64 locs hS => ?_)
          refine lv_iload hx hb dL_build_83 (lv_at hl 1 rfl) ?_
          refine lv_iconst (v := nI 3) hx hb dL_build_85 rfl ?_
          refine lv_iadd hx hb dL_build_86 ?_
          refine li_topi (nI_add _ _) ?_
          refine lv_ishr hx hb dL_build_87 ?_
          refine lv_iconst (v := nI 2) hx hb dL_build_88 rfl ?_
          refine roS0 (As := [.int (v64 >>> ((nI (k + 3)) &&& 31)), .int (nI 2)]) hx hb hml hown hts (c_L_below l D cI cZ cW cO G (v64 >>> ((nI (k + 3)) &&& 31)) 2 (by omega) (by omega)) (va_cwS 2 hts gL_build_L_below rfl rfl rfl (by decide +kernel) ⟨by decide, by decide⟩) hK hE rfl hl.1 rfl (Nat.le_of_ble_eq_true rfl) hS dL_build_89 ⟨show 10 + 2 * k ≤ 80 by omega, show 192 + 16 * k ≤ 900 by omega⟩ (fun locs hS => ?_)
          have hb65 := bl_lt (v := v64 >>> ((nI (k + 3)) &&& 31)) (N := 2) (by omega)
          refine lv_imul hx hb dL_build_92 ?_
          refine li_topi (pk_mul _ _) ?_
          have hm9 := Nat.mul_le_mul (show (bl (v62 >>> ((nI k) &&& 31)) 4) ≤ 3 by omega) (show (bl (v64 >>> ((nI (k + 3)) &&& 31)) 2) ≤ 1 by omega)
          refine lv_iadd hx hb dL_build_93 ?_
          refine li_topi (nI_add _ _) ?_
          obtain ⟨y0, hy0⟩ : ∃ z, z = 1 + ((bl (v62 >>> ((nI k) &&& 31)) 4) * (bl (v64 >>> ((nI (k + 3)) &&& 31)) 2)) := ⟨_, rfl⟩
          rw [← hy0]
          have hy4 : y0 ≤ 4 := by omega
          have hy1 : 1 ≤ y0 := by omega
          refine lv_istore (lv' := [(6, .int (nI y0)), (5, .int (nI (1 + (bl (v49 >>> ((nI (2 * k)) &&& 31)) 20)))), (4, .int (nI k)), (3, .int (nI N1)), (2, .ref (a 1 0)), (0, .ref (a 0 40)), (1, .ref b)]) hx hb dL_build_94 hl (by decide) rfl (fun ls hl => ?_)
          refine lv_aload_n hx hb dL_build_96 rfl (lv_at hl 5 rfl) ?_
          refine lv_iload hx hb dL_build_97 (lv_at hl 1 rfl) ?_
          refine lv_iconst (v := nI 4) hx hb dL_build_99 rfl ?_
          refine lv_iload hx hb dL_build_100 (lv_at hl 0 rfl) ?_
          refine va_mmin hx hb (hml.trans hl.1.symm) hown g9 g10 g11 g12 (by decide) (Nat.le_of_ble_eq_true rfl) (show 10 + 2 * k ≤ 80 by omega) (show 192 + 16 * k ≤ 900 by omega) dL_build_102 ?_
          refine li_topi (show _ = nI y0 from min4 hy4) ?_
          have hk9 : kAdd k σ (nI (1 + (bl (v49 >>> ((nI (2 * k)) &&& 31)) 20))) (nI y0) = 0 := kAdd_0 hLV (by omega) (by omega) (by omega) (by omega) (by omega)
          refine ayK (As := [.int (nI (1 + (bl (v49 >>> ((nI (2 * k)) &&& 31)) 20))), .int (nI y0)]) hx hb hml hown hts (c_X2_addStretch l D cI cZ cW cO (a 0) k pl 0 0 σ u.1 u.2.1 u.2.2 G (nI (1 + (bl (v49 >>> ((nI (2 * k)) &&& 31)) 20))) (nI y0) (kA [41] a) (okP_k hO rfl) (by have := hLV.inv.1; omega) hk9) (cwV 2 hts gL_build_X2_addStretch rfl rfl rfl (by decide +kernel) ⟨by decide, by decide⟩) hK hE hO rfl hP rfl hl.1 rfl (Nat.le_of_ble_eq_true rfl) hS dL_build_105 ⟨show 10 + 2 * k ≤ 80 by omega, show 192 + 16 * k ≤ 900 by omega⟩ (fun u66 G locs hP hS => ?_)
          rw [show nAdd k σ (nI (1 + (bl (v49 >>> ((nI (2 * k)) &&& 31)) 20))) (nI y0) = k + 1 from if_pos hk9, show plAdd k pl σ (nI (1 + (bl (v49 >>> ((nI (2 * k)) &&& 31)) 20))) (nI y0) = pl + (1 + (bl (v49 >>> ((nI (2 * k)) &&& 31)) 20)) from by unfold plAdd; rw [if_pos hk9, nN_nI (by omega)], show sAddK k pl σ (nI (1 + (bl (v49 >>> ((nI (2 * k)) &&& 31)) 20))) (nI y0) = sAdd k pl σ (nI (1 + (bl (v49 >>> ((nI (2 * k)) &&& 31)) 20))) (nI y0) from if_pos hk9] at hP
          have hP : kP D [41, 10, k, 0, 0] a (eL cI cZ cW cO (xC cI cZ (a 0) (k + 1) (pl + (1 + (bl (v49 >>> ((nI (2 * k)) &&& 31)) 20))) 0 0 (sAdd k pl σ (nI (1 + (bl (v49 >>> ((nI (2 * k)) &&& 31)) 20))) (nI y0)) u66) a k 0 0 σ (fun _ _ => 0) T) G := hP
          refine li_topi (x' := nI k) (if_pos hk9) ?_
          refine lv_iload hx hb dL_build_108 (lv_at hl 2 rfl) ?_
          refine li_eq (tgt := 115) hx hb dL_build_110 (by decide) (by omega) (by omega) (fun c67 => ?_) (fun c67 => ?_)
          · skip
            refine lv_aload_n hx hb dL_build_115 rfl (lv_at hl 4 rfl) ?_
            refine lv_iload hx hb dL_build_116 (lv_at hl 1 rfl) ?_
            refine lv_iconst (v := nI 4) hx hb dL_build_118 rfl ?_
            refine lv_iload hx hb dL_build_119 (lv_at hl 0 rfl) ?_
            refine va_mmin hx hb (hml.trans hl.1.symm) hown g9 g10 g11 g12 (by decide) (Nat.le_of_ble_eq_true rfl) (show 10 + 2 * k ≤ 80 by omega) (show 192 + 16 * k ≤ 900 by omega) dL_build_121 ?_
            refine li_topi (show _ = nI y0 from min4 hy4) ?_
            have hO9 := hO.sub (M' := (MS k 0)) kLS
            have hF9 : ∀ q, kF (MS k 0) a G.size q → A q := fun q h => h.elim (kA_of hO9 q) (fun h => hA q (Nat.le_trans hS.1 h))
            refine knK (As := [.int (nI (1 + (bl (v49 >>> ((nI (2 * k)) &&& 31)) 20))), .int (nI y0)]) hx hb hml hown hts (c_X3_stretch l D cI cZ cW cO (xC cI cZ (a 0) (k + 1) (pl + (1 + (bl (v49 >>> ((nI (2 * k)) &&& 31)) 20))) 0 0 (sAdd k pl σ (nI (1 + (bl (v49 >>> ((nI (2 * k)) &&& 31)) 20))) (nI y0)) u66) a k 0 0 σ (fun _ _ => 0) T G (nI (1 + (bl (v49 >>> ((nI (2 * k)) &&& 31)) 20))) (nI y0) (kF (MS k 0) a G.size) (hO9.kA.weak (fun _ h => Or.inl h)) (by omega) (by omega) (hLV.inv.2.2.2.2.2.2.2.2.2 _ (Nat.le_refl _)) (fun _ h => Or.inr h)) (cwV 2 hts gL_build_X3_stretch rfl rfl rfl (by decide +kernel) ⟨by decide, by decide⟩) hK hE (hP.sub kLS) (show 0 < 10 by decide) rfl rfl hl.1 rfl (Nat.le_of_ble_eq_true rfl) hS hF9 dL_build_124 ⟨show 10 + 2 * k + 2 ≤ 80 by omega, show 192 + 16 * k + 16 ≤ 900 by omega⟩ (fun b9 G locs hP1 hO1 hf9 h19 hz9 hk8 hS => ?_)
            obtain ⟨a68, e0, e1, hP, hO⟩ := kt_mix hO hP hP1 hO1 hf9 hk8 hF9
            rw [h19] at e1
            rw [plS_eq hLV.inv.2.2.2.1] at hP
            have hP : kP D [41, 10, k + 1, 0, 0] a68 (eL cI cZ cW cO (xC cI cZ (a68 0) (k + 1) (pl + (1 + (bl (v49 >>> ((nI (2 * k)) &&& 31)) 20))) 0 0 (sAdd k pl σ (nI (1 + (bl (v49 >>> ((nI (2 * k)) &&& 31)) 20))) (nI y0)) u66) a68 (k + 1) 0 0 (sAdd k pl σ (nI (1 + (bl (v49 >>> ((nI (2 * k)) &&& 31)) 20))) (nI y0)) (fun _ _ => 0) T) G := hP
            have ha0 : a68 0 = a0 := e0.trans ha0
            skip
            have hl : lv_has ls 10 [(6, .int (nI y0)), (5, .int (nI (1 + (bl (v49 >>> ((nI (2 * k)) &&& 31)) 20)))), (4, .int (nI k)), (3, .int (nI N1)), (2, .ref (a68 1 0)), (0, .ref (a68 0 40)), (1, .ref b)] := by rw [e1, congrFun e0 40]; exact hl
            refine lv_iinc (v := nI (k + 1)) (lv' := [(4, .int (nI (k + 1))), (6, .int (nI y0)), (5, .int (nI (1 + (bl (v49 >>> ((nI (2 * k)) &&& 31)) 20)))), (3, .int (nI N1)), (2, .ref (a68 1 0)), (0, .ref (a68 0 40)), (1, .ref b)]) hx hb dL_build_127 hl (k := 2) rfl (nI_inc _ _) (by decide) rfl (fun ls hl => ?_)
            refine lv_goto (tgt := 24) hx hb dL_build_130 (by decide) ?_
            refine w_wide (k := 10 + 2 * (k + 1)) (n := 192 + 16 * (k + 1)) (by omega) (by omega) ?_
            have hl9 : lv_has ls 10 [(4, .int (nI (k + 1))), (3, .int (nI N1)), (2, .ref (a68 1 0)), (0, .ref (a68 0 40)), (1, .ref b)] := lv_sub hl [0, 3, 4, 5, 6] rfl
            exact ih24 (k + 1) (pl + (1 + (bl (v49 >>> ((nI (2 * k)) &&& 31)) 20))) a68 u66 (sAdd k pl σ (nI (1 + (bl (v49 >>> ((nI (2 * k)) &&& 31)) 20))) (nI y0)) (by omega) (by omega) (LV_add hLV (by omega) (by omega) (by omega) (by omega) (by omega)) (fun i => by unfold sAdd; rw [up2_r (by decide), up2_r (by decide), up2_r (by decide), up2_r (by decide), up2_r (by decide), up2_r (by decide)]; exact hz6 i) (hO) (ha0) G locs hP hS ls hl9
          · exact absurd rfl c67
  refine w_wide (k := 10 + 2 * 0) (n := 192 + 16 * 0) (by omega) (by omega) ?_
  have hl9 : lv_has ls 10 [(4, .int (nI 0)), (3, .int (nI N1)), (2, .ref (a 1 0)), (0, .ref (a 0 40)), (1, .ref b)] := lv_sub hl [0, 1, 2, 3, 4] rfl
  exact L24_3 ((N1 - 0) + 1) 0 0 a u σ0 (Nat.lt_succ_self _) (by omega) (LV_0) (fun _ => ⟨rfl, rfl⟩) (hO) (ha0) H1 locs hP hS ls hl9
