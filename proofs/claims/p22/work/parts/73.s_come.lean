/-- a new walker, made and in its place -/
theorem kMc {n nw : Nat} (d j : Nat) : j < km [0, 10, n, nw + 1, nw + 1, 1] d → ¬ (d = 4 ∧ j = nw) → j < km [0, 10, n, nw + 1, nw, 1] d := by
  intro h h2
  match d, h, h2 with
  | 0, h, _ => exact h
  | 1, h, _ => exact h
  | 2, h, _ => exact h
  | 3, h, _ => exact h
  | 4, h, h2 =>
    have h : j < nw + 1 := h
    show j < nw
    omega
  | 5, h, _ => exact h
  | d + 6, h, _ => exact h
theorem kMb {n nw : Nat} (d j : Nat) : j < km [0, 10, n, nw + 1, nw, 1] d → ¬ (d = 3 ∧ j = nw) → j < km [0, 10, n, nw, nw, 1] d := by
  intro h h2
  match d, h, h2 with
  | 0, h, _ => exact h
  | 1, h, _ => exact h
  | 2, h, _ => exact h
  | 3, h, h2 =>
    have h : j < nw + 1 := h
    show j < nw
    omega
  | 4, h, _ => exact h
  | 5, h, _ => exact h
  | d + 6, h, _ => exact h
theorem kMw {n nw : Nat} (c i : Nat) : i < km (MS n (nw + 1)) c → i < km [0, 10, n, nw + 1, nw + 1, 1] c ∧ c ≠ 5 := by
  intro h
  match c, h with
  | 0, h => exact ⟨h, by decide⟩
  | 1, h => exact ⟨h, by decide⟩
  | 2, h => exact ⟨h, by decide⟩
  | 3, h => exact ⟨h, by decide⟩
  | 4, h => exact ⟨h, by decide⟩
  | c + 5, h => exact absurd h (Nat.not_lt_zero _)
theorem kt_walker {D : va_G} {a : Ka} {e : Ke} {G0 G H1 : Heap} {A : Nat → Prop} {cI : ClassId} {n nw q : Nat} {v0 : va_E} {b : Nat → Nat} (hO : kO A [0, 10, n, nw, nw, 1] a) (hP : kP D [0, 10, n, nw, nw, 1] a e G0) (hv : va_at D vwCl (q, v0) G) (hq : q = G0.size) (hk0 : ∀ x, x < G0.size → G[x]? = G0[x]?)
    (hP1 : va_P D vwCl (wW2 cI b) H1) (hb0 : b 0 = q) (hD1 : va_D (va_A [(q, v0)] G.size) (wW2 cI b)) (hk1 : ∀ x : Nat, x < G.size → ¬ va_A [(q, v0)] G.size x → H1[x]? = G[x]?) (hA : ∀ x, G0.size ≤ x → A x) :
    ∃ a1 : Ka, a1 3 nw = b 0 ∧ a1 4 nw = b 1 ∧ (∀ d j, ¬ (d = 3 ∧ j = nw) → ¬ (d = 4 ∧ j = nw) → a1 d j = a d j) ∧ G0.size ≤ a1 3 nw ∧ G0.size ≤ a1 4 nw ∧
      kP D [0, 10, n, nw + 1, nw + 1, 1] a1 (eup (eup e 3 nw (.inr (4, [.int 0, .int 0, .int 0, .int 0, .int 0, .int (-1), .int 0, .int (-1), .ref (b 1)]))) 4 nw (.inl (cI, 6, .inl (fun _ => 0)))) H1 ∧ kO A [0, 10, n, nw + 1, nw + 1, 1] a1 := by
  have hqG : q < G.size := hv.lt
  have h01 : b 1 ≠ q := fun z => absurd (hD1.1 0 1 _ _ rfl rfl (show b 0 = b 1 by rw [hb0, z])) (by decide)
  have h1G : G.size ≤ b 1 := by
    rcases hD1.2 1 _ rfl with ⟨k, e9, h9⟩ | h9
    · cases k with
      | zero => cases h9; exact absurd rfl h01
      | succ k => cases h9
    · exact h9
  have hk : ∀ x, x < G0.size → H1[x]? = G0[x]? := fun x hx => (hk1 x (by omega) (fun z => by
    rcases z with ⟨k, e9, h9⟩ | h9
    · cases k with
      | zero => cases h9; exact absurd hx (by omega)
      | succ k => cases h9
    · omega)).trans (hk0 x hx)
  refine ⟨aup (aup a 3 nw q) 4 nw (b 1), ?_, aup_in, fun d j h3 h4 => ?_, ?_, ?_, ?_, ?_⟩
  · rw [aup_ne (by omega), aup_in, hb0]
  · rw [aup_ne h4, aup_ne h3]
  · rw [aup_ne (by omega), aup_in, hq]; exact Nat.le_refl _
  · rw [aup_in]; omega
  · refine kP.new (H := H1) (kP.new hP ?_ hk kMb) (hP1 1 _ rfl) (fun _ _ => rfl) kMc
    have := hP1 0 _ rfl
    rwa [show (b 0) = q from hb0] at this
  · exact kO.new (kO.new hO hP (by omega) (hA _ (by omega)) kMb) (kP.new hP hv hk0 kMb) h1G (hA _ (by omega)) kMc
theorem cz_r {σ : Sg} {n r : Nat} (h4 : r ≠ 4) (h10 : r ≠ 10) (h5 : r ≠ 5) (h11 : r ≠ 11) : up2 (up2 (up2 (up2 σ 4 n 0) 10 n 0) 5 n 0) 11 n 0 r = σ r := by
  rw [up2_r h11, up2_r h5, up2_r h10, up2_r h4]
theorem cz_o {σ : Sg} {n r i : Nat} (h : i ≠ n) : up2 (up2 (up2 (up2 σ 4 n 0) 10 n 0) 5 n 0) 11 n 0 r i = σ r i := by
  rw [up2_oo h, up2_oo h, up2_oo h, up2_oo h]
section CZ
variable {σ : Sg} {cI cZ cW cO : ClassId} {X : Nat → va_E} {a : Ka} {n nw ns : Nat} {η : Sg} {T : Ke}
/-- a walker who has just come -/
def CZ (nw : Nat) (σ : Sg) : Prop := σ 12 nw = 0 ∧ σ 13 nw = -1 ∧ σ 14 nw = 0 ∧ σ 15 nw = -1 ∧ ∀ j, j < 6 → σ 16 (6 * nw + j) = 0
theorem cz_3 {b1 : Nat} (h : CZ nw σ) (hb : a 4 nw = b1) : eL cI cZ cW cO X a n nw ns (up2 (up2 (up2 (up2 σ 4 nw 0) 10 nw 0) 5 nw 0) 11 nw 0) η T 3 nw = .inr (4, [.int 0, .int 0, .int 0, .int 0, .int 0, .int (-1), .int 0, .int (-1), .ref b1]) := by
  show eS3 a _ _ _ _ _ _ _ _ nw = _
  unfold eS3
  rw [hb, cz_r (r := 12) (by decide) (by decide) (by decide) (by decide), cz_r (r := 13) (by decide) (by decide) (by decide) (by decide), cz_r (r := 14) (by decide) (by decide) (by decide) (by decide), cz_r (r := 15) (by decide) (by decide) (by decide) (by decide), h.1, h.2.1, h.2.2.1, h.2.2.2.1]
  rw [up2_in', show up2 (up2 (up2 (up2 σ 4 nw 0) 10 nw 0) 5 nw 0) 11 nw 0 5 nw = 0 by rw [up2_r (by decide), up2_in'], show up2 (up2 (up2 (up2 σ 4 nw 0) 10 nw 0) 5 nw 0) 11 nw 0 10 nw = 0 by rw [up2_r (by decide), up2_r (by decide), up2_in'], show up2 (up2 (up2 (up2 σ 4 nw 0) 10 nw 0) 5 nw 0) 11 nw 0 4 nw = 0 by rw [up2_r (by decide), up2_r (by decide), up2_r (by decide), up2_in']]
theorem cz_4 (h : CZ nw σ) : eL cI cZ cW cO X a n nw ns (up2 (up2 (up2 (up2 σ 4 nw 0) 10 nw 0) 5 nw 0) 11 nw 0) η T 4 nw = .inl (cI, 6, .inl (fun _ => 0)) := by
  show (Sum.inl (cI, 6, .inl (kn6 _ nw)) : va_E) = _
  congr 4
  funext j
  unfold kn6
  rw [cz_r (by decide) (by decide) (by decide) (by decide)]
  split
  · exact h.2.2.2.2 j (by assumption)
  · rfl
theorem sCome_eq {x y z v : Int32} (hv : v = if nI 0 < y then nI 1 else nI 0) : up2 (up2 (up2 (up2 (up2 (up2 (up2 (up2 σ 4 nw 0) 10 nw 0) 5 nw 0) 11 nw 0) 4 nw x) 10 nw y) 5 nw z) 11 nw v = sCome nw σ x y z := by
  subst hv
  unfold sCome
  funext r i
  simp only [up2_at]
  by_cases hi : i = nw
  · subst hi
    by_cases h : r = 11
    · subst h; simp
    · by_cases h2 : r = 5
      · subst h2; simp
      · by_cases h1 : r = 10
        · subst h1; simp
        · by_cases h0 : r = 4
          · subst h0; simp
          · simp [*]
  · simp [hi]
end CZ
theorem kP.adr9 {D : va_G} {a a1 : Ka} {H : Heap} {cI cZ cW cO : ClassId} {X : Nat → va_E} {n nw ns : Nat} {σ η : Sg} {T : Ke} (hP : kP D [0, 10, n, nw + 1, nw + 1, 1] a1 (fun c i => if c = 3 ∧ i = nw then eL cI cZ cW cO X a1 n nw ns σ η T c i else eL cI cZ cW cO X a n nw ns σ η T c i) H) (ha : ∀ d j, ¬ (d = 3 ∧ j = nw) → ¬ (d = 4 ∧ j = nw) → a1 d j = a d j) : kP D [0, 10, n, nw + 1, nw + 1, 1] a1 (eL cI cZ cW cO X a1 n nw ns σ η T) H := by
  refine hP.ext (fun c i hi => ?_)
  by_cases h3 : c = 3 ∧ i = nw
  · rw [if_pos h3]
  · rw [if_neg h3]
    match c, hi, h3 with
    | 0, _, _ => rfl
    | 1, _, _ =>
      show eS1 cI cZ cW cO a n nw ns (σ 3) (σ 6) (σ 7) (σ 17 0) η i = eS1 cI cZ cW cO a1 n nw ns (σ 3) (σ 6) (σ 7) (σ 17 0) η i
      unfold eS1
      have h1 : ∀ i, a1 1 i = a 1 i := fun i => ha 1 i (by omega) (by omega)
      rw [h1, h1, h1, h1, h1, h1, h1, h1, h1, rfs_ext (fun i hi => ha 2 i (by omega) (by omega)), rfs_ext (fun i hi => ha 3 i (by omega) (by omega))]
    | 2, _, _ => rfl
    | 3, hi, h3 =>
      have hi : i < nw + 1 := hi
      show eS3 a (σ 4) (σ 10) (σ 5) (σ 11) (σ 12) (σ 13) (σ 14) (σ 15) i = eS3 a1 (σ 4) (σ 10) (σ 5) (σ 11) (σ 12) (σ 13) (σ 14) (σ 15) i
      unfold eS3
      rw [ha 4 i (by omega) (by omega)]
    | 4, _, _ => rfl
    | c + 5, _, _ => rfl
set_option maxHeartbeats 4000000 in
set_option maxRecDepth 100000 in
theorem c_X3_come (l : Launch) (D : va_G) (cI cZ cW cO : ClassId) (X : Nat → va_E) (a : Ka) (n nw ns : Nat) (σ η : Sg) (T : Ke) (H : Heap) (x : Int32) (y : Int32) (z : Int32) (A : Nat → Prop) (hO : kO A (MS n nw) a) (hB : n ≤ 10 ∧ nw ≤ 20 ∧ ns ≤ 6) (hn : nw < 20) (hcz : CZ nw σ) (hA : ∀ q, H.size ≤ q → A q) : Met l yX3_come wsX3_come ({ frames := 2, cells := 3, slots := 35, locals := 33 } : Room) (ro_P D (T4 cI cZ cW cO) (wK (MS n nw) a (eL cI cZ cW cO X a n nw ns σ η T)) H [.ref (a 1 0), .int x, .int y, .int z]) (kn_Q D (MS n nw) (MS n (nw + 1)) a (fun b => eL cI cZ cW cO X b n (nw + 1) ns (sCome nw σ x y z) η T) H.size A) 3 35 A := by
  refine kn_of (cc := cX3_come) (maxL := 6) (by decide) rfl (Nat.le_of_ble_eq_true rfl) ?_
  intro p e s m args below meth c Q ls locs hx hb hml hown hts hK hE hP hl hS hEnd
  have hP : kP D (MS n nw) a (eL cI cZ cW cO X a n nw ns σ η T) H := kP.of hP
  have hl : lv_has ls 6 [(0, .ref (a 1 0)), (1, .int x), (2, .int y), (3, .int z)] := hl
  have hX3 : ∀ w ∈ wsX30, w.before args s = true := fun w h => hts w (List.mem_cons_of_mem _ (List.mem_append_left _ (List.mem_append_right _ (h))))
  have hX4 : ∀ w ∈ wsX40, w.before args s = true := fun w h => hts w (List.mem_cons_of_mem _ (List.mem_append_right _ (h)))
  have f23 : (Cond.fieldLink RX3 23 "LanternWalkLaw$Sim" "walkers" "[LLanternWalkLaw$Walker;").before args s = true := hts _ (List.mem_of_getElem? (i := 1) rfl)
  have g1 : (Cond.classLink RX3 21 RX4).before args s = true := hts _ (List.mem_of_getElem? (i := 2) rfl)
  have g2 : (Cond.instantiable RX4 9).before args s = true := hts _ (List.mem_of_getElem? (i := 3) rfl)
  have g3 : (Cond.initialized RX4).before args s = true := hts _ (List.mem_of_getElem? (i := 4) rfl)
  have g4 : (Cond.instanceMethod yX4_init).before args s = true := hts _ (List.mem_of_getElem? (i := 9) rfl)
  have f57 : (Cond.fieldLink RX3 57 "LanternWalkLaw$Walker" "pace" "I").before args s = true := hts _ (List.mem_of_getElem? (i := 5) rfl)
  have f60 : (Cond.fieldLink RX3 60 "LanternWalkLaw$Walker" "wick" "I").before args s = true := hts _ (List.mem_of_getElem? (i := 6) rfl)
  have f63 : (Cond.fieldLink RX3 63 "LanternWalkLaw$Walker" "voice" "I").before args s = true := hts _ (List.mem_of_getElem? (i := 7) rfl)
  have f66 : (Cond.fieldLink RX3 66 "LanternWalkLaw$Walker" "burns" "Z").before args s = true := hts _ (List.mem_of_getElem? (i := 8) rfl)
  refine lv_aload_n hx hb dX3_come_0 rfl (lv_at hl 0 rfl) ?_
  refine lk_gf3 hx hb hX3 hown hK hP 1 0 (show 0 < 10 by decide) rfl 3 (by decide) f23 rfl dX3_come_1 ?_
  refine lk_alen hx hb hK hP 1 4 (show 4 < 10 by decide) 2 rfl rfl dX3_come_4 ?_
  refine lv_iconst (v := nI 1) hx hb dX3_come_5 rfl ?_
  refine lv_iadd hx hb dX3_come_6 ?_
  refine li_topi (nI_add _ _) ?_
  refine lk_newW hx hb hown g1 hE hK hS (N := nw + 1) (by omega) (Nat.le_of_ble_eq_true rfl) (show 0 + (nw + 1) ≤ 35 by omega) dX3_come_7 (fun q G hq hv hk hS => ?_)
  obtain ⟨a1, rfl, ha1, hP, hO⟩ := kt_new (c := 5) (i := 0) (M' := [0, 10, n, nw, nw, 1]) hO hP hv hk hq (hA _ (by omega)) kM5
  rw [eT_new] at hP
  have hP : kP D ([0, 10, n, nw, nw, 1]) a1 (eL cI cZ cW cO X a1 n nw ns σ η (eup T 0 0 (.inl (cW, nw + 1, .inr (.inr (.inr (.inr (rfs 0 (a1 3))))))))) G := by rw [rfs_0]; exact kP.adr hP (fun i => ha1 1 i (by omega)) (fun i _ => ha1 2 i (by omega)) (fun i _ => ha1 3 i (by omega)) (fun i _ => ha1 4 i (by omega))
  have hz1 : H.size ≤ a1 5 0 := by omega
  have hl : lv_has ls 6 [(0, .ref (a1 1 0)), (1, .int x), (2, .int y), (3, .int z)] := by rw [ha1 1 0 (by omega)]; exact hl
  refine w_wide (k := 1) (n := 20) (by omega) (by omega) ?_
  refine lv_astore (lv' := [(4, .ref (a1 5 0)), (0, .ref (a1 1 0)), (1, .int x), (2, .int y), (3, .int z)]) hx hb dX3_come_10 hl (by decide) rfl (fun ls hl => ?_)
  refine lv_iconst (v := nI 0) hx hb dX3_come_12 rfl ?_
  refine lv_istore (lv' := [(5, .int (nI 0)), (4, .ref (a1 5 0)), (0, .ref (a1 1 0)), (1, .int x), (2, .int y), (3, .int z)]) hx hb dX3_come_13 hl (by decide) rfl (fun ls hl => ?_)
  have L15_1 : ∀ (fuel : Nat) (k : Nat), (nw - k) < fuel → (k ≤ nw) → ∀ (G : Heap) (locs : List Loc), kP D ([0, 10, n, nw, nw, 1]) a1 (eL cI cZ cW cO X a1 n nw ns σ η (eup T 0 0 (.inl (cW, nw + 1, .inr (.inr (.inr (.inr (rfs k (a1 3))))))))) G → va_S A H G locs → ∀ (ls : Array Slot), lv_has ls 6 [(5, .int (nI k)), (4, .ref (a1 5 0)), (0, .ref (a1 1 0)), (1, .int x), (2, .int y), (3, .int z)] → W p l e ({ frames := 2, cells := 3, slots := 35, locals := 33 } : Room) s m args below meth c G locs 1 20 Q (F0 m 15 ls []) := by
    intro fuel
    induction fuel with
    | zero =>
      intro k hfuel
      exact absurd hfuel (Nat.not_lt_zero _)
    | succ fuel ih15 =>
      intro k hfuel15 hk G locs hP hS ls hl
      refine lv_iload hx hb dX3_come_15 (lv_at hl 0 rfl) ?_
      refine lv_aload_n hx hb dX3_come_17 rfl (lv_at hl 2 rfl) ?_
      refine lk_gf3 hx hb hX3 hown hK hP 1 0 (show 0 < 10 by decide) rfl 3 (by decide) f23 rfl dX3_come_18 ?_
      refine lk_alen hx hb hK hP 1 4 (show 4 < 10 by decide) 2 rfl rfl dX3_come_21 ?_
      refine li_ge (tgt := 43) hx hb dX3_come_22 (by decide) (by omega) (by omega) (fun c2 => ?_) (fun c2 => ?_)
      · skip
        have hkn : k = nw := by omega
        rw [hkn] at hP hl
        have hG1 := hS.1
        refine lk_new4 hx hb hX4 hown g1 g2 g3 hK hS (Nat.le_of_ble_eq_true rfl) (Nat.le_of_ble_eq_true rfl) dX3_come_43 (fun q G hq hv hk hS => ?_)
        have hG2 := hv.lt
        refine lv_dup hx hb dX3_come_46 rfl ?_
        have hPc := kt_one hv
        have hFc : ∀ x, va_A [(q, .inr (4, [.int 0, .int 0, .int 0, .int 0, .int 0, .int 0, .int 0, .int 0, .null]))] G.size x → A x := fun x h => by
          rcases h with ⟨k9, e9, h9⟩ | h9
          · cases k9 with
            | zero => cases h9; exact hA _ (by omega)
            | succ k9 => cases h9
          · exact hA _ (by omega)
        refine va_callv (va_runIN (As := []) (rest := [.ref q]) ⟨hx, hb, hml, hown, hts⟩ (c_X4_init l D cI cZ cW cO q G (va_A [(q, .inr (4, [.int 0, .int 0, .int 0, .int 0, .int 0, .int 0, .int 0, .int 0, .null]))] G.size) (Or.inl ⟨0, _, rfl⟩) (fun _ h => Or.inr h)) ⟨va_cnB 0 hts gX3_come_X4_init_n56 rfl rfl rfl hE.2.2.2.1 g3 (by decide +kernel) ⟨Nat.le_of_ble_eq_true rfl, Nat.le_of_ble_eq_true rfl⟩, rfl, g4⟩ ⟨ro_blind, fun U hU hW => ⟨rfl, hU, hPc, va_K.moved hW.alike hK, lwE.warm hW hE⟩⟩ rfl rfl hl.1 rfl (lv_room (Nat.le_of_ble_eq_true rfl)) dX3_come_47 ⟨Nat.le_of_ble_eq_true rfl, Nat.le_of_ble_eq_true rfl⟩) hS (fun q _ h => hFc q h) hFc (fun b t H1 locs ht hvm hpx hB hz9 hk1 hS => ?_)
        have hP1 : va_P D vwCl (wW2 cI b) H1 := by rw [← ht]; exact hB
        have hP := kP.re (M := [0, 10, n, nw, nw, 1]) (σ' := (up2 (up2 (up2 (up2 σ 4 nw 0) 10 nw 0) 5 nw 0) 11 nw 0)) (η' := η) (Nat.le_refl 10) hP (fun i _ => congrFun (cz_r (by decide) (by decide) (by decide) (by decide)) i) (fun i _ => congrFun (cz_r (by decide) (by decide) (by decide) (by decide)) i) (fun i _ => congrFun (cz_r (by decide) (by decide) (by decide) (by decide)) i) (congrFun (cz_r (by decide) (by decide) (by decide) (by decide)) 0) (fun i hi => ⟨congrFun (cz_r (by decide) (by decide) (by decide) (by decide)) i, congrFun (cz_r (by decide) (by decide) (by decide) (by decide)) i, congrFun (cz_r (by decide) (by decide) (by decide) (by decide)) i, congrFun (cz_r (by decide) (by decide) (by decide) (by decide)) i, congrFun (cz_r (by decide) (by decide) (by decide) (by decide)) i⟩) (fun i hi => ⟨cz_o (Nat.ne_of_lt hi), cz_o (Nat.ne_of_lt hi), cz_o (Nat.ne_of_lt hi), cz_o (Nat.ne_of_lt hi), cz_o (Nat.ne_of_lt hi), cz_o (Nat.ne_of_lt hi), cz_o (Nat.ne_of_lt hi), cz_o (Nat.ne_of_lt hi)⟩) (fun k j _ _ => congrFun (cz_r (by decide) (by decide) (by decide) (by decide)) _) (fun _ _ => rfl) (fun _ _ => rfl) (fun _ _ => rfl) (fun _ _ => rfl)
        obtain ⟨a2, ha3, ha4, ha2, hz3, hz4, hP, hO⟩ := kt_walker hO hP hv hq hk hP1 hpx.1 hpx.2 hk1 (fun x hx => hA x (by omega))
        rw [← ha4] at hP
        have hP : kP D [0, 10, n, nw + 1, nw + 1, 1] a2 (fun c i => if c = 3 ∧ i = nw then eL cI cZ cW cO X a2 n nw ns (up2 (up2 (up2 (up2 σ 4 nw 0) 10 nw 0) 5 nw 0) 11 nw 0) η (eup T 0 0 (.inl (cW, nw + 1, .inr (.inr (.inr (.inr (rfs nw (a1 3)))))))) c i else eL cI cZ cW cO X a1 n nw ns (up2 (up2 (up2 (up2 σ 4 nw 0) 10 nw 0) 5 nw 0) 11 nw 0) η (eup T 0 0 (.inl (cW, nw + 1, .inr (.inr (.inr (.inr (rfs nw (a1 3)))))))) c i) H1 := by
          refine hP.ext (fun c i hi => ?_)
          by_cases h4 : c = 4 ∧ i = nw
          · obtain ⟨q1, q2⟩ := h4; subst q1; subst q2; rw [eup_in, if_neg (by omega)]; exact (cz_4 hcz).symm
          · rw [eup_ne h4]
            by_cases h3 : c = 3 ∧ i = nw
            · rw [if_pos h3]; obtain ⟨q1, q2⟩ := h3; subst q1; subst q2; rw [eup_in]; exact (cz_3 hcz rfl).symm
            · rw [eup_ne h3, if_neg h3]
        have hP : kP D ([0, 10, n, nw + 1, nw + 1, 1]) a2 (eL cI cZ cW cO X a2 n nw ns (up2 (up2 (up2 (up2 σ 4 nw 0) 10 nw 0) 5 nw 0) 11 nw 0) η (eup T 0 0 (.inl (cW, nw + 1, .inr (.inr (.inr (.inr (rfs nw (a2 3))))))))) H1 := by rw [rfs_ext (f := a2 3) (g := a1 3) (fun i hi => ha2 3 i (by omega) (by omega))]; exact kP.adr9 hP ha2
        have hz1 : H.size ≤ a2 5 0 := by rw [ha2 5 0 (by omega) (by omega)]; exact hz1
        have hl : lv_has ls 6 [(5, .int (nI nw)), (4, .ref (a2 5 0)), (0, .ref (a2 1 0)), (1, .int x), (2, .int y), (3, .int z)] := by rw [ha2 5 0 (by omega) (by omega), ha2 1 0 (by omega) (by omega)]; exact hl
        rw [← hpx.1, ← ha3]
        refine w_wide (k := 3) (n := 35) (by omega) (by omega) ?_
        refine lv_astore (lv' := [(5, .ref (a2 3 nw)), (4, .ref (a2 5 0)), (0, .ref (a2 1 0)), (1, .int x), (2, .int y), (3, .int z)]) hx hb dX3_come_50 hl (by decide) rfl (fun ls hl => ?_)
        refine lv_aload hx hb dX3_come_52 (lv_at hl 0 rfl) ?_
        refine lv_iload_n hx hb dX3_come_54 rfl (lv_at hl 3 rfl) ?_
        refine lk_pf4 hx hb hX4 hown hK hP hO hS 3 nw (show nw < nw + 1 by omega) rfl 0 (by decide) f57 rfl rfl rfl (Nat.le_of_ble_eq_true rfl) stS_4 dX3_come_55 (fun G locs hP hS => ?_)
        refine lv_aload hx hb dX3_come_58 (lv_at hl 0 rfl) ?_
        refine lv_iload_n hx hb dX3_come_60 rfl (lv_at hl 4 rfl) ?_
        refine lk_pf4 hx hb hX4 hown hK hP hO hS 3 nw (show nw < nw + 1 by omega) rfl 1 (by decide) f60 rfl rfl rfl (Nat.le_of_ble_eq_true rfl) stS_10 dX3_come_61 (fun G locs hP hS => ?_)
        refine lv_aload hx hb dX3_come_64 (lv_at hl 0 rfl) ?_
        refine lv_iload_n hx hb dX3_come_66 rfl (lv_at hl 5 rfl) ?_
        refine lk_pf4 hx hb hX4 hown hK hP hO hS 3 nw (show nw < nw + 1 by omega) rfl 2 (by decide) f63 rfl rfl rfl (Nat.le_of_ble_eq_true rfl) stS_5 dX3_come_67 (fun G locs hP hS => ?_)
        refine lv_aload hx hb dX3_come_70 (lv_at hl 0 rfl) ?_
        refine lv_iload_n hx hb dX3_come_72 rfl (lv_at hl 4 rfl) ?_
        refine lv_if_le (tgt := 80) hx hb dX3_come_73 (by decide) (fun c3 => ?_) (fun c3 => ?_)
        · skip
          refine lv_iconst (v := nI 0) hx hb dX3_come_80 rfl ?_
          refine lk_pf4 hx hb hX4 hown hK hP hO hS 3 nw (show nw < nw + 1 by omega) rfl 3 (by decide) f66 rfl rfl rfl (Nat.le_of_ble_eq_true rfl) stS_11 dX3_come_81 (fun G locs hP hS => ?_)
          refine lv_aload hx hb dX3_come_84 (lv_at hl 1 rfl) ?_
          refine lv_aload_n hx hb dX3_come_86 rfl (lv_at hl 2 rfl) ?_
          refine lk_gf3 hx hb hX3 hown hK hP 1 0 (show 0 < 10 by decide) rfl 3 (by decide) f23 rfl dX3_come_87 ?_
          refine lk_alen hx hb hK hP 1 4 (show 4 < 10 by decide) 2 rfl rfl dX3_come_90 ?_
          refine lv_aload hx hb dX3_come_91 (lv_at hl 0 rfl) ?_
          refine lk_astW (e' := eL cI cZ cW cO X a2 n nw ns (up2 (up2 (up2 (up2 (up2 (up2 (up2 (up2 σ 4 nw 0) 10 nw 0) 5 nw 0) 11 nw 0) 4 nw x) 10 nw y) 5 nw z) 11 nw (nI 0)) η (eup T 0 0 (.inl (cW, nw + 1, .inr (.inr (.inr (.inr (rfs (nw + 1) (a2 3))))))))) hx hb hK hP hO hS 5 0 3 nw (show 0 < 1 by decide) (show nw < nw + 1 by omega) rfl rfl (by omega) (by omega) (by rw [rfs_up]; exact eT_set) dX3_come_93 (fun G locs hP hS => ?_)
          refine lv_aload_n hx hb dX3_come_94 rfl (lv_at hl 2 rfl) ?_
          refine lv_aload hx hb dX3_come_95 (lv_at hl 1 rfl) ?_
          refine lk_pf3 hx hb hX3 hown hK hP hO hS 1 0 (show 0 < 10 by decide) rfl 3 (by decide) f23 rfl rfl rfl (Nat.le_of_ble_eq_true rfl) rfl dX3_come_97 (fun G locs hP hS => ?_)
          refine hEnd 100 ls G locs _ _ _ (Nat.le_refl _) (Nat.le_refl _) dX3_come_100 (kP.reS (kt_walkers hP) (sCome_eq (by first | exact (if_pos (Int32.not_le.mp c3)).symm | exact (if_neg (Int32.not_lt.mpr c3)).symm))) (hO.ren (z := 4) (M' := MS n (nw + 1)) (show 0 < 1 by decide) kMw) (fun c i hi => ?_) ((aup_ne (by omega)).trans ((ha2 1 0 (by omega) (by omega)).trans (ha1 1 0 (by omega)))) hS
          match c, hi with
          | 0, hi => exact absurd hi (Nat.not_lt_zero _)
          | 1, hi =>
            by_cases h1 : i = 4
            · subst h1; exact Or.inr hz1
            · exact Or.inl ⟨hi, (aup_ne (fun z => h1 z.2)).trans ((ha2 1 i (by omega) (by omega)).trans (ha1 1 i (by omega)))⟩
          | 2, hi => exact Or.inl ⟨hi, (aup_ne (by omega)).trans ((ha2 2 i (by omega) (by omega)).trans (ha1 2 i (by omega)))⟩
          | 3, hi =>
            have hi : i < nw + 1 := hi
            by_cases h1 : i = nw
            · subst h1; exact Or.inr (Nat.le_trans hG1 hz3)
            · exact Or.inl ⟨show i < nw by omega, (aup_ne (by omega)).trans ((ha2 3 i (by omega) (by omega)).trans (ha1 3 i (by omega)))⟩
          | 4, hi =>
            have hi : i < nw + 1 := hi
            by_cases h1 : i = nw
            · subst h1; exact Or.inr (Nat.le_trans hG1 hz4)
            · exact Or.inl ⟨show i < nw by omega, (aup_ne (by omega)).trans ((ha2 4 i (by omega) (by omega)).trans (ha1 4 i (by omega)))⟩
          | c + 5, hi => exact absurd hi (Nat.not_lt_zero _)
        · skip
          refine lv_iconst (v := nI 1) hx hb dX3_come_76 rfl ?_
          refine lv_goto (tgt := 81) hx hb dX3_come_77 (by decide) ?_
          refine lk_pf4 hx hb hX4 hown hK hP hO hS 3 nw (show nw < nw + 1 by omega) rfl 3 (by decide) f66 rfl rfl rfl (Nat.le_of_ble_eq_true rfl) stS_11 dX3_come_81 (fun G locs hP hS => ?_)
          refine lv_aload hx hb dX3_come_84 (lv_at hl 1 rfl) ?_
          refine lv_aload_n hx hb dX3_come_86 rfl (lv_at hl 2 rfl) ?_
          refine lk_gf3 hx hb hX3 hown hK hP 1 0 (show 0 < 10 by decide) rfl 3 (by decide) f23 rfl dX3_come_87 ?_
          refine lk_alen hx hb hK hP 1 4 (show 4 < 10 by decide) 2 rfl rfl dX3_come_90 ?_
          refine lv_aload hx hb dX3_come_91 (lv_at hl 0 rfl) ?_
          refine lk_astW (e' := eL cI cZ cW cO X a2 n nw ns (up2 (up2 (up2 (up2 (up2 (up2 (up2 (up2 σ 4 nw 0) 10 nw 0) 5 nw 0) 11 nw 0) 4 nw x) 10 nw y) 5 nw z) 11 nw (nI 1)) η (eup T 0 0 (.inl (cW, nw + 1, .inr (.inr (.inr (.inr (rfs (nw + 1) (a2 3))))))))) hx hb hK hP hO hS 5 0 3 nw (show 0 < 1 by decide) (show nw < nw + 1 by omega) rfl rfl (by omega) (by omega) (by rw [rfs_up]; exact eT_set) dX3_come_93 (fun G locs hP hS => ?_)
          refine lv_aload_n hx hb dX3_come_94 rfl (lv_at hl 2 rfl) ?_
          refine lv_aload hx hb dX3_come_95 (lv_at hl 1 rfl) ?_
          refine lk_pf3 hx hb hX3 hown hK hP hO hS 1 0 (show 0 < 10 by decide) rfl 3 (by decide) f23 rfl rfl rfl (Nat.le_of_ble_eq_true rfl) rfl dX3_come_97 (fun G locs hP hS => ?_)
          refine hEnd 100 ls G locs _ _ _ (Nat.le_refl _) (Nat.le_refl _) dX3_come_100 (kP.reS (kt_walkers hP) (sCome_eq (by first | exact (if_pos (Int32.not_le.mp c3)).symm | exact (if_neg (Int32.not_lt.mpr c3)).symm))) (hO.ren (z := 4) (M' := MS n (nw + 1)) (show 0 < 1 by decide) kMw) (fun c i hi => ?_) ((aup_ne (by omega)).trans ((ha2 1 0 (by omega) (by omega)).trans (ha1 1 0 (by omega)))) hS
          match c, hi with
          | 0, hi => exact absurd hi (Nat.not_lt_zero _)
          | 1, hi =>
            by_cases h1 : i = 4
            · subst h1; exact Or.inr hz1
            · exact Or.inl ⟨hi, (aup_ne (fun z => h1 z.2)).trans ((ha2 1 i (by omega) (by omega)).trans (ha1 1 i (by omega)))⟩
          | 2, hi => exact Or.inl ⟨hi, (aup_ne (by omega)).trans ((ha2 2 i (by omega) (by omega)).trans (ha1 2 i (by omega)))⟩
          | 3, hi =>
            have hi : i < nw + 1 := hi
            by_cases h1 : i = nw
            · subst h1; exact Or.inr (Nat.le_trans hG1 hz3)
            · exact Or.inl ⟨show i < nw by omega, (aup_ne (by omega)).trans ((ha2 3 i (by omega) (by omega)).trans (ha1 3 i (by omega)))⟩
          | 4, hi =>
            have hi : i < nw + 1 := hi
            by_cases h1 : i = nw
            · subst h1; exact Or.inr (Nat.le_trans hG1 hz4)
            · exact Or.inl ⟨show i < nw by omega, (aup_ne (by omega)).trans ((ha2 4 i (by omega) (by omega)).trans (ha1 4 i (by omega)))⟩
          | c + 5, hi => exact absurd hi (Nat.not_lt_zero _)
      · skip
        refine lv_aload hx hb dX3_come_25 (lv_at hl 1 rfl) ?_
        refine lv_iload hx hb dX3_come_27 (lv_at hl 0 rfl) ?_
        refine lv_aload_n hx hb dX3_come_29 rfl (lv_at hl 2 rfl) ?_
        refine lk_gf3 hx hb hX3 hown hK hP 1 0 (show 0 < 10 by decide) rfl 3 (by decide) f23 rfl dX3_come_30 ?_
        refine lv_iload hx hb dX3_come_33 (lv_at hl 0 rfl) ?_
        refine lk_aldW hx hb hK hP 1 4 (show 4 < 10 by decide) rfl (by omega) (by omega) (rfs_at (by omega)) dX3_come_35 ?_
        refine lk_astW (e' := eL cI cZ cW cO X a1 n nw ns σ η (eup T 0 0 (.inl (cW, nw + 1, .inr (.inr (.inr (.inr (rfs (k + 1) (a1 3))))))))) hx hb hK hP hO hS 5 0 3 k (show 0 < 1 by decide) (show k < nw by omega) rfl rfl (by omega) (by omega) (by rw [rfs_up]; exact eT_set) dX3_come_36 (fun G locs hP hS => ?_)
        refine lv_iinc (v := nI (k + 1)) (lv' := [(5, .int (nI (k + 1))), (4, .ref (a1 5 0)), (0, .ref (a1 1 0)), (1, .int x), (2, .int y), (3, .int z)]) hx hb dX3_come_37 hl (k := 0) rfl (nI_inc _ _) (by decide) rfl (fun ls hl => ?_)
        refine lv_goto (tgt := 15) hx hb dX3_come_40 (by decide) ?_
        have hl9 : lv_has ls 6 [(5, .int (nI (k + 1))), (4, .ref (a1 5 0)), (0, .ref (a1 1 0)), (1, .int x), (2, .int y), (3, .int z)] := lv_sub hl [0, 1, 2, 3, 4, 5] rfl
        exact ih15 (k + 1) (by omega) (by omega) G locs hP hS ls hl9
  have hl9 : lv_has ls 6 [(5, .int (nI 0)), (4, .ref (a1 5 0)), (0, .ref (a1 1 0)), (1, .int x), (2, .int y), (3, .int z)] := lv_sub hl [0, 1, 2, 3, 4, 5] rfl
  exact L15_1 ((nw - 0) + 1) 0 (Nat.lt_succ_self _) (by omega) G locs hP hS ls hl9
