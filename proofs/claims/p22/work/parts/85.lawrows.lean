/-! ROWS OF THE LAW ITSELF: rows of rows, its calls -/
section LWL
variable {p : Program} {l : Launch} {e : Env} {R : Room} {s : State} {m : MethodId} {args : Array Value} {below : List Frame} {meth : Method} {c : Code} {H : Heap} {locs : List Loc} {cells slots : Nat} {Q : State → Prop}
variable {cc : ByteArray} {pc : Nat} {ls : Array Slot} {rest st0 As : List Value} {D : va_G} {A A0 A1 : Nat → Prop} {H0 : Heap} {M M0 M1 : Km} {a : Ka} {e0 : Ke} {cI cZ cW cO : ClassId} {X : Nat → va_E} {T : Ke} {η9 σ9 : Sg} {n9 nw9 ns9 : Nat}
variable {y : MethodName} {ws Ts : List Cond} {rm : Room} {v : Int32} {own : String} {index maxL nL nar mc ms : Nat} {bytes : ByteArray} {ret : Option FieldType}
theorem lk_mna (hx : p.tables.exec = Jvm.exec) (hb : c.code = cc) {own : String} {index : Nat} (hown : s.vm.findClass own = some m.cls) (hclink : (Cond.classLink own index ("[" ++ (FieldType.array .int).toString)).before args s = true) (harr : (Cond.arrayClass .int).before args s = true) (hE : lwE s) (hK : va_K D vwCl (T4 cI cZ cW cO) s) (hP : kP D M a e0 H) (hO : kO A M a) (hS : va_S A H0 H locs) (hA : ∀ q, H0.size ≤ q → A q)
    {N K : Nat} (hN : N ≤ 200) (hK9 : K ≤ 200) (hcells : cells + (1 + N) ≤ R.cells) (hslots : slots + (N + N * K) ≤ R.slots) (hdg : decode cc pc = .ok (.multianewarray index 2, 4))
    (kk : ∀ (q : Nat) (r : Nat → Nat) (G : Heap), A q → (∀ j, j < N → A (r j)) → (∀ c i, i < km M c → ¬ a c i = q) → (∀ c i j, i < km M c → j < N → ¬ a c i = r j) → (∀ j, j < N → ¬ q = r j) → (∀ i j, i < N → j < N → r i = r j → i = j) →
      va_at D vwCl (q, .inl (cO, N, .inr (.inr (.inr (.inr (rfs N r)))))) G → (∀ j, j < N → va_at D vwCl (r j, .inl (cI, K, .inl (fun _ => 0))) G) → kP D M a e0 G → va_S A H0 G locs →
      W p l e R s m args below meth c G locs (cells + 1 + N) (slots + N + N * K) Q (F0 m (pc + 4) ls (.ref q :: rest))) : W p l e R s m args below meth c H locs cells slots Q (F0 m pc ls (.int (nI K) :: .int (nI N) :: rest)) := by
  have hnil : va_pl [] (fun _ => (Sum.inl (cI, 0, .inl (fun _ => 0)) : va_E)) = [] := rfl
  refine va_mna (X := wK M a e0) (L := []) (f := fun _ => .inl (cI, 0, .inl (fun _ => 0))) (ty := .int) (cy := cI) (z := (K, .inl (fun _ => 0))) (N' := N) (K' := K) hx hb hown hclink hE.2.2.2.2.1 harr (va_nm_int (hK.2 0 _ rfl).2) hK (by rw [hnil, List.append_nil]; exact hP.w) (by rw [hnil, List.append_nil]; exact hO.dd) hS hA (nI_pos (by omega)) (nI_pos (by omega)) (nI_clamp (by omega)) (nI_clamp (by omega)) (by omega) (by show K * 4 ≤ 536870912; omega) (by omega) rfl rfl hcells hslots (fun c => by rw [vp_cell_i]; exact arrV_new c K _) hdg (fun q r cA G hinj _ hKx hP1 hD1 hS1 => ?_)
  have f5 : s.vm.findClass ("[" ++ (FieldType.array .int).toString) = some cO := (hK.2 3 _ rfl).2
  have f6 : s.vm.findClass ("[" ++ (FieldType.array .int).toString) = some cA := (hKx.2 4 _ rfl).2
  cases f5.symm.trans f6
  rw [List.nil_append] at hP1 hD1
  generalize hWK : wK M a e0 = WK at hP1 hD1
  have hlen : (WK ++ [(q, (Sum.inl (cO, N, .inr (.inr (.inr (.inr (fun i => if i < N then some (r i) else none))))) : va_E))]).length = WK.length + 1 := by rw [List.length_append]; rfl
  have pw : ∀ c i, i < km M c → ∃ k, k < WK.length ∧ ((WK ++ [(q, (Sum.inl (cO, N, .inr (.inr (.inr (.inr (fun i => if i < N then some (r i) else none))))) : va_E))]) ++ va_pl ((List.range N).map r) (vr_up (fun _ => .inl (cI, 0, .inl (fun _ => 0))) ((List.range N).map r) (.inl (cI, (K, .inl (fun _ => 0))))))[k]? = some (a c i, e0 c i) := fun c i hi => by
    obtain ⟨k, hk, -⟩ := wK_at (a := a) (e := e0) hi
    rw [hWK] at hk
    have hl := (List.getElem?_eq_some_iff.mp hk).1
    exact ⟨k, hl, by rw [List.getElem?_append_left (by rw [hlen]; omega), List.getElem?_append_left hl]; exact hk⟩
  have po : ((WK ++ [(q, (Sum.inl (cO, N, .inr (.inr (.inr (.inr (fun i => if i < N then some (r i) else none))))) : va_E))]) ++ va_pl ((List.range N).map r) (vr_up (fun _ => .inl (cI, 0, .inl (fun _ => 0))) ((List.range N).map r) (.inl (cI, (K, .inl (fun _ => 0))))))[WK.length]? = some (q, .inl (cO, N, .inr (.inr (.inr (.inr (rfs N r)))))) := by
    rw [List.getElem?_append_left (by rw [hlen]; omega), List.getElem?_append_right (Nat.le_refl _), Nat.sub_self]
    rfl
  have pr : ∀ j, j < N → ((WK ++ [(q, (Sum.inl (cO, N, .inr (.inr (.inr (.inr (fun i => if i < N then some (r i) else none))))) : va_E))]) ++ va_pl ((List.range N).map r) (vr_up (fun _ => .inl (cI, 0, .inl (fun _ => 0))) ((List.range N).map r) (.inl (cI, (K, .inl (fun _ => 0))))))[WK.length + 1 + j]? = some (r j, .inl (cI, K, .inl (fun _ => 0))) := fun j hj => by
    rw [List.getElem?_append_right (by rw [hlen]; omega), hlen, show WK.length + 1 + j - (WK.length + 1) = j by omega]
    unfold va_pl
    rw [List.getElem?_map, List.getElem?_map, List.getElem?_range hj]
    show some (r j, vr_up _ _ _ (r j)) = _
    rw [vr_up_in (List.mem_map.mpr ⟨j, List.mem_range.mpr hj, rfl⟩)]
  have hPk : kP D M a e0 G := fun c i hi => by
    obtain ⟨k, -, h⟩ := pw c i hi
    exact hP1 k _ h
  refine kk q r G (hD1.2 _ _ po) (fun j hj => hD1.2 _ _ (pr j hj)) (fun c i hi z => ?_) (fun c i j hi hj z => ?_) (fun j hj z => ?_) hinj (hP1 _ _ po) (fun j hj => hP1 _ _ (pr j hj)) hPk hS1
  · obtain ⟨k, hk, h⟩ := pw c i hi
    have := hD1.1 k _ _ _ h po z
    omega
  · obtain ⟨k, hk, h⟩ := pw c i hi
    have := hD1.1 k _ _ _ h (pr j hj) z
    omega
  · have := hD1.1 _ _ _ _ po (pr j hj) z
    omega
/-- behind it: two kinds more -/
theorem kt_mna {M1 : Km} {N K c1 c2 q : Nat} {r : Nat → Nat} {G : Heap} {e1 : Ke} (hO : kO A M a) (hP : kP D M a e0 G) (hq : A q) (hr : ∀ j, j < N → A (r j)) (h1 : ∀ c i, i < km M c → ¬ a c i = q) (h2 : ∀ c i j, i < km M c → j < N → ¬ a c i = r j) (h3 : ∀ j, j < N → ¬ q = r j) (h4 : ∀ i j, i < N → j < N → r i = r j → i = j)
    (hvq : va_at D vwCl (q, .inl (cO, N, .inr (.inr (.inr (.inr (rfs N r)))))) G) (hvr : ∀ j, j < N → va_at D vwCl (r j, .inl (cI, K, .inl (fun _ => 0))) G) (hc : c1 ≠ c2) (hM : ∀ c i, i < km M1 c → (c = c1 ∧ i = 0) ∨ (c = c2 ∧ i < N) ∨ (c ≠ c1 ∧ c ≠ c2 ∧ i < km M c))
    (he1 : e1 c1 0 = .inl (cO, N, .inr (.inr (.inr (.inr (rfs N r)))))) (he2 : ∀ j, j < N → e1 c2 j = .inl (cI, K, .inl (fun _ => 0))) (he : ∀ c i, c ≠ c1 → c ≠ c2 → i < km M c → e1 c i = e0 c i) :
    kP D M1 (fun c i => if c = c1 then q else if c = c2 then r i else a c i) e1 G ∧ kO A M1 (fun c i => if c = c1 then q else if c = c2 then r i else a c i) := by
  refine ⟨fun c i hi => ?_, fun c i d j hi hj h => ?_, fun c i hi => ?_⟩
  · dsimp only
    rcases hM c i hi with ⟨rfl, rfl⟩ | ⟨rfl, hj⟩ | ⟨g1, g2, g3⟩
    · rw [if_pos rfl, he1]; exact hvq
    · rw [if_neg (Ne.symm hc), if_pos rfl, he2 i hj]; exact hvr i hj
    · rw [if_neg g1, if_neg g2, he c i g1 g2 g3]; exact hP c i g3
  · dsimp only at h
    rcases hM c i hi with ⟨rfl, rfl⟩ | ⟨rfl, hi9⟩ | ⟨g1, g2, g3⟩ <;> rcases hM d j hj with ⟨rfl, rfl⟩ | ⟨rfl, hj9⟩ | ⟨k1, k2, k3⟩
    · exact ⟨rfl, rfl⟩
    · rw [if_pos rfl, if_neg (Ne.symm hc), if_pos rfl] at h
      exact absurd h (h3 j hj9)
    · rw [if_pos rfl, if_neg k1, if_neg k2] at h
      exact absurd h.symm (h1 d j k3)
    · rw [if_pos rfl, if_neg (Ne.symm hc), if_pos rfl] at h
      exact absurd h.symm (h3 i hi9)
    · rw [if_neg (Ne.symm hc), if_pos rfl, if_neg (Ne.symm hc), if_pos rfl] at h
      exact ⟨rfl, h4 i j hi9 hj9 h⟩
    · rw [if_neg (Ne.symm hc), if_pos rfl, if_neg k1, if_neg k2] at h
      exact absurd h.symm (h2 d j i k3 hi9)
    · rw [if_neg g1, if_neg g2, if_pos rfl] at h
      exact absurd h (h1 c i g3)
    · rw [if_neg g1, if_neg g2, if_neg (Ne.symm hc), if_pos rfl] at h
      exact absurd h (h2 c i j g3 hj9)
    · rw [if_neg g1, if_neg g2, if_neg k1, if_neg k2] at h
      exact hO.1 c i d j g3 k3 h
  · dsimp only
    rcases hM c i hi with ⟨rfl, rfl⟩ | ⟨rfl, hj⟩ | ⟨g1, g2, g3⟩
    · rw [if_pos rfl]; exact hq
    · rw [if_neg (Ne.symm hc), if_pos rfl]; exact hr i hj
    · rw [if_neg g1, if_neg g2]; exact hO.2 c i g3
/-- build, act, pass, isSame called -/
theorem buS {a0 : Nat → Nat} {b L : Nat} {xs : Nat → Int32} {w : va_W} (hx : p.tables.exec = Jvm.exec) (hb : c.code = cc) (hml : c.maxLocals = nL) (hown : s.vm.findClass own = some m.cls) (hts : ∀ w ∈ Ts, w.before args s = true) (hM : Met l y ws rm (rx_P D (T4 cI cZ cW cO) w H As b L xs) (bu_Q D cI cZ cW cO a0 T A1) mc ms A1) (cw : CallB R s args own index y bytes maxL ret ws rm mc ms nar ∧ (Cond.static y).before args s = true)
    (hK : va_K D vwCl (T4 cI cZ cW cO) s) (hE : lwE s) (hP : va_P D vwCl w H) (hX : va_X b L xs s H) (hn : As.length = nar) (hsz : ls.size = nL) (hst : st0 = As.reverse ++ rest) (hW : (rest.map fun v => v.category).sum ≤ 8) (hS : va_S A0 H0 H locs) (hA : ∀ q, A1 q → A0 q) (hdg : decode cc pc = .ok (.invokestatic index, 3)) (hf : cells + mc ≤ R.cells ∧ slots + ms ≤ R.slots)
    (kk : ∀ (a : Ka) (n pl nw ns : Nat) (σ : Sg) (u : S3) (H1 : Heap) (locs1 : List Loc), LV n pl nw ns 0 σ → 0 < n → n ≤ 6 → 2 ≤ nw → ns ≤ 4 → a 0 = a0 → kO A1 [41, 10, n, nw, nw] a → kP D [41, 10, n, nw, nw] a (eL cI cZ cW cO (xC cI cZ (a 0) n pl nw ns σ u) a n nw ns σ (fun _ _ => 0) T) H1 → va_S A0 H0 H1 locs1 → W p l e R s m args below meth c H1 locs1 (cells + mc) (slots + ms) Q (F0 m (pc + 3) ls (.ref (a 1 0) :: rest))) : W p l e R s m args below meth c H locs cells slots Q (F0 m pc ls st0) := by
  refine va_callr (va_runS (As := As) (rest := rest) ⟨hx, hb, hml, hown, hts⟩ hM cw ⟨rx_blind, fun U hU hW => ⟨rfl, ⟨hU, hP, va_K.moved hW.alike hK, lwE.warm hW hE⟩, va_X.moved hW.alike hX⟩⟩ rfl hn hsz hst (lv_room hW) hdg hf) hS (fun q _ h => hA q h) hA (fun z ra t H1 locs1 ht hvm hw hB hz1 hk1 hS1 => ?_)
  obtain ⟨a, ⟨n, pl, nw, ns⟩, σ, u⟩ := z
  obtain ⟨g1, g2, g3, g4, g5, g6, g7⟩ := hw
  obtain ⟨f1, f2⟩ := hB
  have f2 : kP D [41, 10, n, nw, nw] a (eL cI cZ cW cO (xC cI cZ (a 0) n pl nw ns σ u) a n nw ns σ (fun _ _ => 0) T) t.heap := f2
  rw [ht] at f2
  have f1 : ra = a 1 0 := f1
  subst f1
  exact kk a n pl nw ns σ u H1 locs1 g1 g2 g3 g4 g5 g6 g7 f2 hS1
theorem acS {n pl nw ns t : Nat} {w : va_W} {η : Sg} (hx : p.tables.exec = Jvm.exec) (hb : c.code = cc) (hml : c.maxLocals = nL) (hown : s.vm.findClass own = some m.cls) (hts : ∀ w ∈ Ts, w.before args s = true) (hM : Met l y ws rm (ro_P D (T4 cI cZ cW cO) w H As) (ac_Q D cI cZ cW cO a n pl nw ns t η T A1) mc ms A1) (cw : CallB R s args own index y bytes maxL ret ws rm mc ms nar ∧ (Cond.static y).before args s = true)
    (hK : va_K D vwCl (T4 cI cZ cW cO) s) (hE : lwE s) (hP : va_P D vwCl w H) (hn : As.length = nar) (hsz : ls.size = nL) (hst : st0 = As.reverse ++ rest) (hW : (rest.map fun v => v.category).sum ≤ 8) (hS : va_S A0 H0 H locs) (hA : ∀ q, A1 q → A0 q) (hdg : decode cc pc = .ok (.invokestatic index, 3)) (hf : cells + mc ≤ R.cells ∧ slots + ms ≤ R.slots)
    (kk : ∀ (a' : Ka) (nw' : Nat) (σ : Sg) (u : S3) (H1 : Heap) (locs1 : List Loc), LV n pl nw' ns t σ → nw ≤ nw' → a' 0 = a 0 → a' 1 0 = a 1 0 → kO A1 [41, 10, n, nw', nw'] a' → kP D [41, 10, n, nw', nw'] a' (eL cI cZ cW cO (xC cI cZ (a' 0) n pl nw' ns σ u) a' n nw' ns σ η T) H1 → va_S A0 H0 H1 locs1 → W p l e R s m args below meth c H1 locs1 (cells + mc) (slots + ms) Q (F0 m (pc + 3) ls (.int (nI 1) :: rest))) : W p l e R s m args below meth c H locs cells slots Q (F0 m pc ls st0) := by
  refine va_calli (va_runS (As := As) (rest := rest) ⟨hx, hb, hml, hown, hts⟩ hM cw ⟨ro_blind, fun U hU hW => ⟨rfl, hU, hP, va_K.moved hW.alike hK, lwE.warm hW hE⟩⟩ rfl hn hsz hst (lv_room hW) hdg hf) hS (fun q _ h => hA q h) hA (fun r z t' H1 locs1 ht hvm hw hB hz1 hk1 hS1 => ?_)
  obtain ⟨a', nw', σ, u⟩ := z
  obtain ⟨g0, g1, g2, g3, g4, g5⟩ := hw
  have f2 : kP D [41, 10, n, nw', nw'] a' (eL cI cZ cW cO (xC cI cZ (a' 0) n pl nw' ns σ u) a' n nw' ns σ η T) t'.heap := hB
  rw [ht] at f2
  subst g0
  exact kk a' nw' σ u H1 locs1 g1 g2 g3 g4 g5 f2 hS1
theorem peK {fs : List Value} {W9 : Sg → Ke} (hx : p.tables.exec = Jvm.exec) (hb : c.code = cc) (hml : c.maxLocals = nL) (hown : s.vm.findClass own = some m.cls) (hts : ∀ w ∈ Ts, w.before args s = true) (hM : Met l y ws rm (ro_P D (T4 cI cZ cW cO) (wK M0 a e0) H (.ref (a 1 0) :: As)) (pe_Q D (fun u => wK M0 a (W9 u)) (kA M0 a)) 0 0 (kA M0 a)) (cw : CallW R s args own RX3 index y bytes maxL ret ws rm 0 0 nar)
    (hK : va_K D vwCl (T4 cI cZ cW cO) s) (hE : lwE s) (hP : kP D M a e0 H) (hO : kO A0 M a) (hsub : ∀ c i, i < km M0 c → i < km M c) (h10 : 0 < km M0 1) (he : e0 1 0 = .inr (3, fs)) (hoth : ∀ u c i, i < km M c → ¬ i < km M0 c → W9 u c i = e0 c i) (hn : As.length = nar) (hsz : ls.size = nL) (hst : st0 = As.reverse ++ .ref (a 1 0) :: rest) (hW : (rest.map fun v => v.category).sum ≤ 8) (hS : va_S A0 H0 H locs) (hdg : decode cc pc = .ok (.invokevirtual index, 3)) (hf : cells ≤ R.cells ∧ slots ≤ R.slots)
    (kk : ∀ (v : Int32) (u : Sg) (H1 : Heap) (locs1 : List Loc), kP D M a (W9 u) H1 → va_S A0 H0 H1 locs1 → W p l e R s m args below meth c H1 locs1 cells slots Q (F0 m (pc + 3) ls (.int v :: rest))) : W p l e R s m args below meth c H locs cells slots Q (F0 m pc ls st0) := by
  obtain ⟨q0, hq0, -⟩ := wK_at (a := a) (e := e0) h10
  rw [he] at hq0
  have hP0 := (hP.sub hsub).w
  have hA := kA_of (hO.sub hsub)
  refine va_calli (va_runV (As := As) (rest := rest) ⟨hx, hb, hml, hown, hts⟩ hM cw ⟨ro_blind, va_recv (q0 := q0) (ci := 3) hK hP0 rfl hq0, fun U hU hW => ⟨rfl, hU, hP0, va_K.moved hW.alike hK, lwE.warm hW hE⟩⟩ rfl hn hsz hst (lv_room hW) hdg hf) hS (fun q _ h => hA q h) hA (fun r u t H1 locs1 ht hvm hw hB hz1 hk1 hS => ?_)
  have h1 : va_P D vwCl (wK M0 a (W9 u)) t.heap := hB
  rw [ht] at h1
  exact kk r u H1 locs1 (kP.join hO hsub hP (kP.of h1) hk1 (hoth u)) hS
theorem s1K {fs : List Value} (hx : p.tables.exec = Jvm.exec) (hb : c.code = cc) (hml : c.maxLocals = nL) (hown : s.vm.findClass own = some m.cls) (hts : ∀ w ∈ Ts, w.before args s = true) (hM : Met l y ws rm (ro_P D (T4 cI cZ cW cO) (wK M a e0) H (.ref (a 1 0) :: As)) (s1_Q A1) mc ms A1) (cw : CallW R s args own RX3 index y bytes maxL ret ws rm mc ms nar)
    (hK : va_K D vwCl (T4 cI cZ cW cO) s) (hE : lwE s) (hP : kP D M a e0 H) (h10 : 0 < km M 1) (he : e0 1 0 = .inr (3, fs)) (hn : As.length = nar) (hsz : ls.size = nL) (hst : st0 = As.reverse ++ .ref (a 1 0) :: rest) (hW : (rest.map fun v => v.category).sum ≤ 8) (hS : va_S A0 H0 H locs) (hA : ∀ q, A1 q → A0 q) (hdg : decode cc pc = .ok (.invokevirtual index, 3)) (hf : cells + mc ≤ R.cells ∧ slots + ms ≤ R.slots)
    (kk : ∀ (H1 : Heap) (locs1 : List Loc), va_S A0 H0 H1 locs1 → W p l e R s m args below meth c H1 locs1 (cells + mc) (slots + ms) Q (F0 m (pc + 3) ls (.int (nI 1) :: rest))) : W p l e R s m args below meth c H locs cells slots Q (F0 m pc ls st0) := by
  obtain ⟨q0, hq0, -⟩ := wK_at (a := a) (e := e0) h10
  rw [he] at hq0
  refine va_calli (va_runV (As := As) (rest := rest) ⟨hx, hb, hml, hown, hts⟩ hM cw ⟨ro_blind, va_recv (q0 := q0) (ci := 3) hK hP.w rfl hq0, fun U hU hW => ⟨rfl, hU, hP.w, va_K.moved hW.alike hK, lwE.warm hW hE⟩⟩ rfl hn hsz hst (lv_room hW) hdg hf) hS (fun q _ h => hA q h) hA (fun r u t H1 locs1 ht hvm hw hB hz1 hk1 hS => ?_)
  have h3 : r = nI 1 := hw
  subst h3
  exact kk H1 locs1 hS
end LWL
