/-! THE LAW'S OWN METHODS: a call of the class, its answer noted, its exception named by a number -/
theorem kAdd_le {n : Nat} {σ : Sg} {x y : Int32} : kAdd n σ x y ≤ 2 := by unfold kAdd; split <;> first | decide | (split <;> decide)
theorem kPost_le {n : Nat} {x y : Int32} : kPost n x y ≤ 1 := by unfold kPost; split <;> decide
theorem kWind_le {x y : Int32} : kWind x y ≤ 2 := by unfold kWind; split <;> first | decide | (split <;> decide)
theorem kCome_le {nw : Nat} {x y z : Int32} : kCome nw x y z ≤ 2 := by unfold kCome; split <;> first | decide | (split <;> decide)
theorem kTrim_le {nw : Nat} {σ : Sg} {x y : Int32} : kTrim nw σ x y ≤ 3 := by unfold kTrim; split <;> first | decide | (split <;> first | decide | (split <;> decide))
theorem kSong_le {ns : Nat} {x : Int32} : kSong ns x ≤ 2 := by unfold kSong; split <;> first | decide | (split <;> decide)
theorem kTeach_le {nw ns : Nat} {x y z : Int32} : kTeach nw ns x y z ≤ 2 := by unfold kTeach; split <;> first | decide | (split <;> decide)
theorem kTwo_le {n hi : Nat} {x y : Int32} : kTwo n hi x y ≤ 1 := by unfold kTwo; split <;> decide
theorem kKnow_le {nw ns : Nat} {x y : Int32} : kKnow nw ns x y ≤ 1 := by unfold kKnow; split <;> decide
theorem kPass_le {n : Nat} {x : Int32} : kPass n x ≤ 2 := by unfold kPass; split <;> first | decide | (split <;> decide)
theorem kCount_le {x : Int32} : kCount x ≤ 1 := by unfold kCount; split <;> decide
theorem kFor_le {n : Nat} {x y : Int32} : kFor n x y ≤ 3 := by unfold kFor; split <;> first | decide | (split <;> first | decide | (split <;> decide))
theorem kHome_le {nw : Nat} {x : Int32} : kHome nw x ≤ 1 := by unfold kHome; split <;> decide
theorem kAdv_le {n : Nat} {x y : Int32} : kAdv n x y ≤ 3 := by unfold kAdv; split <;> first | decide | (split <;> first | decide | (split <;> decide))
def wXo (cI cZ cL : ClassId) (a : Nat → Nat) (n pl nw ns : Nat) (σ κ σ' κ' : Sg) (qo : Nat) (f : Nat → Int64) : va_W := wX cI cZ a n pl nw ns σ κ σ' κ' ++ [(qo, .inl (cL, 1, .inr (.inl f)))]
def oK (K : Nat) (v : Int32) (f : Nat → Int64) : Nat → Int64 := if K = 0 then vp_updL f 0 v.toInt64 else f
theorem oK_0 {K : Nat} {v : Int32} {f : Nat → Int64} (h : K = 0) : oK K v f = vp_updL f 0 v.toInt64 := if_pos h
theorem oK_n {K : Nat} {v : Int32} {f : Nat → Int64} (h : ¬ K = 0) : oK K v f = f := if_neg h
def i41 : List Nat := [0, 1, 2, 3, 4, 5, 6, 7, 8, 9, 10, 11, 12, 13, 14, 15, 16, 17, 18, 19, 20, 21, 22, 23, 24, 25, 26, 27, 28, 29, 30, 31, 32, 33, 34, 35, 36, 37, 38, 39, 40]
theorem lwT.narrow {A B : Nat → Prop} {U : State} {H : Heap} (h : lwT A U H) (hAB : ∀ q, B q → A q) : lwT B U H := ⟨h.1, h.2.1.narrow hAB, h.2.2.narrow hAB⟩
def ah_Q (D : va_G) (K : Nat) (W9 : S3 → va_W) (A : Nat → Prop) : Array Value → State → Outcome → State → Prop := va_Qi (fun (r : Int32) (_ : S3) => r = nI K) (fun u t => va_P D vwCl (W9 u) t.heap) A
theorem ah_of {l : Launch} {y : MethodName} {ws ws' : List Cond} {rm : Room} {cc : ByteArray} {maxL : Nat} {av : List Value} {D : va_G} {tys : List (ClassId × FieldType)} {w : va_W} {W9 : S3 → va_W} {K : Nat} {A : Nat → Prop} {H : Heap} {hh : List (Nat × Nat × Nat × Nat)} (hy : plainName y.cls = true) (hw : ws = Cond.codeWith y cc maxL (some .int) hh :: ws') (hlen : (lg_sl av).length ≤ maxL)
    (body : ∀ (p : Program) (e : Env) (s : State) (m : MethodId) (args : Array Value) (below : List Frame) (meth : Method) (c : Code) (Q : State → Prop) (ls : Array Slot) (locs : List Loc),
      p.tables.exec = Jvm.exec → c.code = cc → c.maxLocals = maxL → s.vm.findClass y.cls = some m.cls → (∀ w ∈ ws, w.before args s = true) → va_K D vwCl tys s → lwE s → lwT A s H → va_P D vwCl w H → lv_has ls maxL (lv_args 0 av) → va_S A H H locs → c.exceptionTable.toList = tableOf hh →
      (∀ (pc : Nat) (ls : Array Slot) (H1 : Heap) (locs : List Loc) (k n : Nat) (u : S3), k ≤ 1 → n ≤ 6 → decode cc pc = .ok (.ireturn, 1) → va_P D vwCl (W9 u) H1 → va_S A H H1 locs → W p l e rm s m args below meth c H1 locs k n Q (F0 m pc ls [.int (nI K)])) →
      W p l e rm s m args below meth c H locs 0 0 Q (F0 m 0 ls [])) : Met l y ws rm (ax_P D tys w H av A) (ah_Q D K W9 A) 1 6 A := by
  refine va_MetW (cc := cc) (maxL := maxL) (ret := some .int) hy hw ?_
  intro p e s m args below meth c s₁ B hml hv
  obtain ⟨rfl, rfl, hP, hK, hE, hT⟩ := hv
  have hx := B.exec
  have hb := B.bytes
  have hr := B.returns
  have hts := atoms_spec (ws := ws) B.pre
  have hown : s.vm.findClass y.cls = some m.cls := findClass_of_methodNamed B.named
  have hlocks := B.notSynchronized
  have htab := vx_table (x := y) B (hts (Cond.codeWith y cc maxL (some .int) hh) (by rw [hw]; exact List.mem_cons_self))
  have hl := lv_entry av (n := maxL) hlen
  rw [lg_entry_eq]
  generalize (lg_sl av ++ List.replicate (maxL - (lg_sl av).length) Slot.unset).toArray = ls at hl ⊢
  exact body p e s m _ below meth c _ ls [] hx hb hml hown hts hK hE hT hP hl va_S.rf htab (fun pc ls H1 locs k n u hk hn2 hd hP1 hS => w_wide hk hn2 (W.zret (v := nI K) hx hb hr rfl (fun t ht hW => ⟨⟨nI K, u, rfl, rfl, by show va_P D vwCl (W9 u) t.heap; rw [ht]; exact hP1⟩, hS.F ht⟩) hS.2.2 hd hlocks))
/-- the note of the answer lies apart -/
theorem jnO {D : va_G} {H H1 : Heap} {a : Nat → Nat} {w1 : va_W} {qo : Nat} {e : va_E} (hne : ∀ k, k < 41 → a k ≠ qo) (hP : va_at D vwCl (qo, e) H) (hP1 : va_P D vwCl w1 H1) (hk : ∀ q : Nat, q < H.size → ¬ A_ a 41 q → H1[q]? = H[q]?) : va_P D vwCl (w1 ++ [(qo, e)]) H1 := by
  refine va_P.app hP1 (fun k q hq => ?_)
  have hz : k < 1 := (List.getElem?_eq_some_iff.mp hq).1
  rw [show k = 0 by omega] at hq
  cases hq
  exact hP.kept (hk qo hP.lt (fun z => by obtain ⟨j, hj, h⟩ := z; exact hne j hj h.symm))
set_option maxHeartbeats 4000000 in
set_option maxRecDepth 100000 in
theorem c_L_addStretch (l : Launch) (hlT : l.stackTraces = false) (D : va_G) (cI cZ cL cO : ClassId) (a : Nat → Nat) (n pl nw ns : Nat) (σ κ σ' κ' : Sg) (H : Heap) (qo : Nat) (f : Nat → Int64) (p0 : Int32) (p1 : Int32) (A : Nat → Prop) (hA : okP A a 41) (hne : ∀ k, k < 41 → a k ≠ qo) (hD : va_D A (wXo cI cZ cL a n pl nw ns σ κ σ' κ' qo f)) (hB : n ≤ 10 ∧ pl ≤ 200 ∧ nw ≤ 20 ∧ ns ≤ 6) : Met l yL_addStretch wsL_addStretch ({ frames := 7, cells := 1, slots := 6, locals := 104 } : Room) (ax_P D (T4 cI cZ cL cO) (wXo cI cZ cL a n pl nw ns σ κ σ' κ' qo f) H [.ref (a 40), .int p0, .int p1, .ref qo] A) (ah_Q D (kAdd n σ p0 p1) (fun u : S3 => wX cI cZ a (nAdd n σ p0 p1) (plAdd n pl σ p0 p1) nw ns (sAddK n pl σ p0 p1) u.1 u.2.1 u.2.2 ++ [(qo, .inl (cL, 1, .inr (.inl (oK (kAdd n σ p0 p1) (vAdd n σ p0 p1) f))))]) A) 1 6 A := by
  refine ah_of (cc := cL_addStretch) (maxL := 5) (by decide) rfl (Nat.le_of_ble_eq_true rfl) ?_
  intro p e s m args below meth c Q ls locs hx hb hml hown hts hK hE hT hP hl hS htab hEnd
  have hl : lv_has ls 5 [(0, .ref (a 40)), (1, .int p0), (2, .int p1), (3, .ref qo)] := hl
  have hA1 : ∀ q, A_ a 41 q → A q := ak_of hA
  have hPc : va_P D vwCl (wX cI cZ a n pl nw ns σ κ σ' κ') H := hP.sub i41 rfl
  have hPo : va_at D vwCl (qo, .inl (cL, 1, .inr (.inl f))) H := hP 41 _ rfl
  refine lv_aload_n hx hb dL_addStretch_0 rfl (lv_at hl 3 rfl) ?_
  refine lv_iconst (v := nI 0) hx hb dL_addStretch_1 rfl ?_
  refine lv_aload_n hx hb dL_addStretch_2 rfl (lv_at hl 0 rfl) ?_
  refine lv_iload_n hx hb dL_addStretch_3 rfl (lv_at hl 1 rfl) ?_
  refine lv_iload_n hx hb dL_addStretch_4 rfl (lv_at hl 2 rfl) ?_
  refine vx_calli (vx_runV (As := [.int p0, .int p1]) (rest := [.int (nI 0), .ref qo]) ⟨hx, hb, hml, hown, hts⟩ (c_X2_addStretch l hlT D cI cZ cL cO a n pl nw ns σ κ σ' κ' H p0 p1 (A_ a 41) (hA.A_ (by decide)) hB) (cwV 2 hts gL_addStretch_X2_addStretch rfl rfl rfl (by decide +kernel) ⟨by decide, by decide⟩) ⟨ax_blind, va_recv hK hPc (ci := 2) (q0 := 40) rfl rfl, fun U hU hW => ⟨rfl, hU, hPc, va_K.moved hW.alike hK, lwE.warm hW hE, (hT.warm hW).narrow hA1⟩⟩ rfl rfl hl.1 rfl (lv_room (Nat.le_of_ble_eq_true rfl)) dL_addStretch_5 ⟨by decide, by decide⟩) hS (fun q _ h => hA1 q h) hA1 (fun q _ h => hA1 q h) (fun E ce q9 u t H1 locs1 ht hal hK0 hBX hz hk1 hS hce hcv hcl => ?_) (fun r u t H1 locs1 ht hal hpo hB1 hz hk1 hS => ?_)
  · obtain ⟨hE9, hP1⟩ := hBX
    rw [ht] at hP1
    have hP2 := jnO hne hPo hP1 hk1
    rcases (show kAdd n σ p0 p1 = 1 ∨ kAdd n σ p0 p1 = 2 from by have h9 := kAdd_le (n := n) (σ := σ) (x := p0) (y := p1); omega) with hk9 | hk9
    · have hE2 : E = eA := by rw [hE9, hk9]; rfl
      subst hE2
      refine vx_catch (own := RL) (name := eA) hown [] ⟨0, 10, 13, 13⟩ [⟨0, 10, 17, 15⟩] htab (fun z hz9 => nomatch hz9) (by decide) (by decide) (show (Cond.classLink RL 13 "java/lang/IllegalArgumentException").before args s = true from hts _ (List.mem_of_getElem? (i := 1) rfl)) (va_Nw.use rfl (hT.1.1 eA (by decide))) hce hcv hcl ?_
      refine lv_astore (lv' := [(4, .ref q9), (0, .ref (a 40)), (1, .int p0), (2, .int p1), (3, .ref qo)]) hx hb dL_addStretch_13 hl (by decide) rfl (fun ls hl => ?_)
      refine lv_iconst (v := nI 1) hx hb dL_addStretch_15 rfl ?_
      refine li_topi (show nI 1 = nI (kAdd n σ p0 p1) from by rw [hk9]) ?_
      refine hEnd 16 ls H1 locs1 _ _ (κ, σ', κ') (by decide) (by decide) dL_addStretch_16 ?_ hS
      rw [oK_n hK0]
      show va_P D vwCl (wX cI cZ a (nAdd n σ p0 p1) (plAdd n pl σ p0 p1) nw ns (sAddK n pl σ p0 p1) κ σ' κ' ++ [(qo, .inl (cL, 1, .inr (.inl f)))]) H1
      rw [show sAddK n pl σ p0 p1 = σ from if_neg hK0]
      rw [show nAdd n σ p0 p1 = n from if_neg hK0]
      rw [show plAdd n pl σ p0 p1 = pl from if_neg hK0]
      exact hP2
    · have hE2 : E = eS := by rw [hE9, hk9]; rfl
      subst hE2
      refine vx_catch (own := RL) (name := eS) hown [⟨0, 10, 13, 13⟩] ⟨0, 10, 17, 15⟩ [] htab (fun z hz9 => by
        rcases (show z = (⟨0, 10, 13, 13⟩ : ExceptionTableEntry) from by simpa using hz9) with rfl
        · exact Or.inr ⟨by decide, "java/lang/IllegalArgumentException", (show (Cond.classLink RL 13 "java/lang/IllegalArgumentException").before args s = true from hts _ (List.mem_of_getElem? (i := 1) rfl)), hT.1.2.2.1 eS (by decide) eA (by decide) (by decide)⟩) (by decide) (by decide) (show (Cond.classLink RL 15 "java/lang/IllegalStateException").before args s = true from hts _ (List.mem_of_getElem? (i := 2) rfl)) (va_Nw.use rfl (hT.1.1 eS (by decide))) hce hcv hcl ?_
      refine lv_astore (lv' := [(4, .ref q9), (0, .ref (a 40)), (1, .int p0), (2, .int p1), (3, .ref qo)]) hx hb dL_addStretch_17 hl (by decide) rfl (fun ls hl => ?_)
      refine lv_iconst (v := nI 2) hx hb dL_addStretch_19 rfl ?_
      refine li_topi (show nI 2 = nI (kAdd n σ p0 p1) from by rw [hk9]) ?_
      refine hEnd 20 ls H1 locs1 _ _ (κ, σ', κ') (by decide) (by decide) dL_addStretch_20 ?_ hS
      rw [oK_n hK0]
      show va_P D vwCl (wX cI cZ a (nAdd n σ p0 p1) (plAdd n pl σ p0 p1) nw ns (sAddK n pl σ p0 p1) κ σ' κ' ++ [(qo, .inl (cL, 1, .inr (.inl f)))]) H1
      rw [show sAddK n pl σ p0 p1 = σ from if_neg hK0]
      rw [show nAdd n σ p0 p1 = n from if_neg hK0]
      rw [show plAdd n pl σ p0 p1 = pl from if_neg hK0]
      exact hP2
  · obtain ⟨hk9, hr9⟩ := hpo
    subst hr9
    have hP1 : va_P D vwCl (wX cI cZ a (nAdd n σ p0 p1) (plAdd n pl σ p0 p1) nw ns (sAddK n pl σ p0 p1) u.1 u.2.1 u.2.2) H1 := by rw [← ht]; exact hB1
    have hP := jnO hne hPo hP1 hk1
    have hD := va_D_map (w' := wX cI cZ a (nAdd n σ p0 p1) (plAdd n pl σ p0 p1) nw ns (sAddK n pl σ p0 p1) u.1 u.2.1 u.2.2 ++ [(qo, .inl (cL, 1, .inr (.inl f)))]) hD rfl
    refine lv_i2l (v := (vAdd n σ p0 p1).toInt64) hx hb dL_addStretch_8 rfl ?_
    refine va_last hx hb hK hP hD hS 41 2 rfl rfl (vp_in_nI (by decide) (by decide)) dL_addStretch_9 (fun H2 locs hP hD hS => ?_)
    refine lv_goto (tgt := 21) hx hb dL_addStretch_10 (by decide) ?_
    refine lv_iconst (v := nI 0) hx hb dL_addStretch_21 rfl ?_
    refine li_topi (show nI 0 = nI (kAdd n σ p0 p1) from by rw [hk9]) ?_
    refine hEnd 22 ls H2 locs _ _ u (by decide) (by decide) dL_addStretch_22 ?_ hS
    rw [oK_0 hk9]
    exact hP
set_option maxHeartbeats 4000000 in
set_option maxRecDepth 100000 in
theorem c_L_post (l : Launch) (hlT : l.stackTraces = false) (D : va_G) (cI cZ cL cO : ClassId) (a : Nat → Nat) (n pl nw ns : Nat) (σ κ σ' κ' : Sg) (H : Heap) (qo : Nat) (f : Nat → Int64) (p0 : Int32) (p1 : Int32) (A : Nat → Prop) (hA : okP A a 41) (hne : ∀ k, k < 41 → a k ≠ qo) (hD : va_D A (wXo cI cZ cL a n pl nw ns σ κ σ' κ' qo f)) (hB : n ≤ 10 ∧ pl ≤ 200 ∧ nw ≤ 20 ∧ ns ≤ 6) : Met l yL_post wsL_post ({ frames := 7, cells := 1, slots := 6, locals := 105 } : Room) (ax_P D (T4 cI cZ cL cO) (wXo cI cZ cL a n pl nw ns σ κ σ' κ' qo f) H [.ref (a 40), .int p0, .int p1, .ref qo] A) (ah_Q D (kPost n p0 p1) (fun u : S3 => wX cI cZ a n pl nw ns (sPost n σ p0 p1) u.1 u.2.1 u.2.2 ++ [(qo, .inl (cL, 1, .inr (.inl (oK (kPost n p0 p1) (vPost n σ p0 p1) f))))]) A) 1 6 A := by
  refine ah_of (cc := cL_post) (maxL := 5) (by decide) rfl (Nat.le_of_ble_eq_true rfl) ?_
  intro p e s m args below meth c Q ls locs hx hb hml hown hts hK hE hT hP hl hS htab hEnd
  have hl : lv_has ls 5 [(0, .ref (a 40)), (1, .int p0), (2, .int p1), (3, .ref qo)] := hl
  have hA1 : ∀ q, A_ a 41 q → A q := ak_of hA
  have hPc : va_P D vwCl (wX cI cZ a n pl nw ns σ κ σ' κ') H := hP.sub i41 rfl
  have hPo : va_at D vwCl (qo, .inl (cL, 1, .inr (.inl f))) H := hP 41 _ rfl
  refine lv_aload_n hx hb dL_post_0 rfl (lv_at hl 3 rfl) ?_
  refine lv_iconst (v := nI 0) hx hb dL_post_1 rfl ?_
  refine lv_aload_n hx hb dL_post_2 rfl (lv_at hl 0 rfl) ?_
  refine lv_iload_n hx hb dL_post_3 rfl (lv_at hl 1 rfl) ?_
  refine lv_iload_n hx hb dL_post_4 rfl (lv_at hl 2 rfl) ?_
  refine vx_calli (vx_runV (As := [.int p0, .int p1]) (rest := [.int (nI 0), .ref qo]) ⟨hx, hb, hml, hown, hts⟩ (c_X2_post l hlT D cI cZ cL cO a n pl nw ns σ κ σ' κ' H p0 p1 (A_ a 41) (hA.A_ (by decide)) hB) (cwV 2 hts gL_post_X2_post rfl rfl rfl (by decide +kernel) ⟨by decide, by decide⟩) ⟨ax_blind, va_recv hK hPc (ci := 2) (q0 := 40) rfl rfl, fun U hU hW => ⟨rfl, hU, hPc, va_K.moved hW.alike hK, lwE.warm hW hE, (hT.warm hW).narrow hA1⟩⟩ rfl rfl hl.1 rfl (lv_room (Nat.le_of_ble_eq_true rfl)) dL_post_5 ⟨by decide, by decide⟩) hS (fun q _ h => hA1 q h) hA1 (fun q _ h => hA1 q h) (fun E ce q9 u t H1 locs1 ht hal hK0 hBX hz hk1 hS hce hcv hcl => ?_) (fun r u t H1 locs1 ht hal hpo hB1 hz hk1 hS => ?_)
  · obtain ⟨hE9, hP1⟩ := hBX
    rw [ht] at hP1
    have hP2 := jnO hne hPo hP1 hk1
    rcases (show kPost n p0 p1 = 1 from by have h9 := kPost_le (n := n) (x := p0) (y := p1); omega) with hk9
    · have hE2 : E = eI := by rw [hE9, hk9]; rfl
      subst hE2
      refine vx_catch (own := RL) (name := eI) hown [] ⟨0, 10, 13, 20⟩ [] htab (fun z hz9 => nomatch hz9) (by decide) (by decide) (show (Cond.classLink RL 20 "java/lang/IndexOutOfBoundsException").before args s = true from hts _ (List.mem_of_getElem? (i := 1) rfl)) (va_Nw.use rfl (hT.1.1 eI (by decide))) hce hcv hcl ?_
      refine lv_astore (lv' := [(4, .ref q9), (0, .ref (a 40)), (1, .int p0), (2, .int p1), (3, .ref qo)]) hx hb dL_post_13 hl (by decide) rfl (fun ls hl => ?_)
      refine lv_iconst (v := nI 1) hx hb dL_post_15 rfl ?_
      refine li_topi (show nI 1 = nI (kPost n p0 p1) from by rw [hk9]) ?_
      refine hEnd 16 ls H1 locs1 _ _ (κ, σ', κ') (by decide) (by decide) dL_post_16 ?_ hS
      rw [oK_n hK0]
      show va_P D vwCl (wX cI cZ a n pl nw ns (sPost n σ p0 p1) κ σ' κ' ++ [(qo, .inl (cL, 1, .inr (.inl f)))]) H1
      rw [show sPost n σ p0 p1 = σ from if_neg hK0]
      exact hP2
  · obtain ⟨hk9, hr9⟩ := hpo
    subst hr9
    have hP1 : va_P D vwCl (wX cI cZ a n pl nw ns (sPost n σ p0 p1) u.1 u.2.1 u.2.2) H1 := by rw [← ht]; exact hB1
    have hP := jnO hne hPo hP1 hk1
    have hD := va_D_map (w' := wX cI cZ a n pl nw ns (sPost n σ p0 p1) u.1 u.2.1 u.2.2 ++ [(qo, .inl (cL, 1, .inr (.inl f)))]) hD rfl
    refine lv_i2l (v := (vPost n σ p0 p1).toInt64) hx hb dL_post_8 rfl ?_
    refine va_last hx hb hK hP hD hS 41 2 rfl rfl (vp_in_nI (by decide) (by decide)) dL_post_9 (fun H2 locs hP hD hS => ?_)
    refine lv_goto (tgt := 17) hx hb dL_post_10 (by decide) ?_
    refine lv_iconst (v := nI 0) hx hb dL_post_17 rfl ?_
    refine li_topi (show nI 0 = nI (kPost n p0 p1) from by rw [hk9]) ?_
    refine hEnd 18 ls H2 locs _ _ u (by decide) (by decide) dL_post_18 ?_ hS
    rw [oK_0 hk9]
    exact hP
set_option maxHeartbeats 4000000 in
set_option maxRecDepth 100000 in
theorem c_L_setWind (l : Launch) (hlT : l.stackTraces = false) (D : va_G) (cI cZ cL cO : ClassId) (a : Nat → Nat) (n pl nw ns : Nat) (σ κ σ' κ' : Sg) (H : Heap) (qo : Nat) (f : Nat → Int64) (p0 : Int32) (p1 : Int32) (A : Nat → Prop) (hA : okP A a 41) (hne : ∀ k, k < 41 → a k ≠ qo) (hD : va_D A (wXo cI cZ cL a n pl nw ns σ κ σ' κ' qo f)) (hB : n ≤ 10 ∧ pl ≤ 200 ∧ nw ≤ 20 ∧ ns ≤ 6) : Met l yL_setWind wsL_setWind ({ frames := 7, cells := 1, slots := 6, locals := 105 } : Room) (ax_P D (T4 cI cZ cL cO) (wXo cI cZ cL a n pl nw ns σ κ σ' κ' qo f) H [.ref (a 40), .int p0, .int p1, .ref qo] A) (ah_Q D (kWind p0 p1) (fun u : S3 => wX cI cZ a n pl nw ns (sWind σ p0 p1) u.1 u.2.1 u.2.2 ++ [(qo, .inl (cL, 1, .inr (.inl (oK (kWind p0 p1) (vWind σ p0 p1) f))))]) A) 1 6 A := by
  refine ah_of (cc := cL_setWind) (maxL := 5) (by decide) rfl (Nat.le_of_ble_eq_true rfl) ?_
  intro p e s m args below meth c Q ls locs hx hb hml hown hts hK hE hT hP hl hS htab hEnd
  have hl : lv_has ls 5 [(0, .ref (a 40)), (1, .int p0), (2, .int p1), (3, .ref qo)] := hl
  have hA1 : ∀ q, A_ a 41 q → A q := ak_of hA
  have hPc : va_P D vwCl (wX cI cZ a n pl nw ns σ κ σ' κ') H := hP.sub i41 rfl
  have hPo : va_at D vwCl (qo, .inl (cL, 1, .inr (.inl f))) H := hP 41 _ rfl
  refine lv_aload_n hx hb dL_setWind_0 rfl (lv_at hl 3 rfl) ?_
  refine lv_iconst (v := nI 0) hx hb dL_setWind_1 rfl ?_
  refine lv_aload_n hx hb dL_setWind_2 rfl (lv_at hl 0 rfl) ?_
  refine lv_iload_n hx hb dL_setWind_3 rfl (lv_at hl 1 rfl) ?_
  refine lv_iload_n hx hb dL_setWind_4 rfl (lv_at hl 2 rfl) ?_
  refine vx_calli (vx_runV (As := [.int p0, .int p1]) (rest := [.int (nI 0), .ref qo]) ⟨hx, hb, hml, hown, hts⟩ (c_X2_setWind l hlT D cI cZ cL cO a n pl nw ns σ κ σ' κ' H p0 p1 (A_ a 41) (hA.A_ (by decide)) hB) (cwV 2 hts gL_setWind_X2_setWind rfl rfl rfl (by decide +kernel) ⟨by decide, by decide⟩) ⟨ax_blind, va_recv hK hPc (ci := 2) (q0 := 40) rfl rfl, fun U hU hW => ⟨rfl, hU, hPc, va_K.moved hW.alike hK, lwE.warm hW hE, (hT.warm hW).narrow hA1⟩⟩ rfl rfl hl.1 rfl (lv_room (Nat.le_of_ble_eq_true rfl)) dL_setWind_5 ⟨by decide, by decide⟩) hS (fun q _ h => hA1 q h) hA1 (fun q _ h => hA1 q h) (fun E ce q9 u t H1 locs1 ht hal hK0 hBX hz hk1 hS hce hcv hcl => ?_) (fun r u t H1 locs1 ht hal hpo hB1 hz hk1 hS => ?_)
  · obtain ⟨hE9, hP1⟩ := hBX
    rw [ht] at hP1
    have hP2 := jnO hne hPo hP1 hk1
    rcases (show kWind p0 p1 = 1 ∨ kWind p0 p1 = 2 from by have h9 := kWind_le (x := p0) (y := p1); omega) with hk9 | hk9
    · have hE2 : E = eI := by rw [hE9, hk9]; rfl
      subst hE2
      refine vx_catch (own := RL) (name := eI) hown [] ⟨0, 10, 13, 20⟩ [⟨0, 10, 17, 13⟩] htab (fun z hz9 => nomatch hz9) (by decide) (by decide) (show (Cond.classLink RL 20 "java/lang/IndexOutOfBoundsException").before args s = true from hts _ (List.mem_of_getElem? (i := 1) rfl)) (va_Nw.use rfl (hT.1.1 eI (by decide))) hce hcv hcl ?_
      refine lv_astore (lv' := [(4, .ref q9), (0, .ref (a 40)), (1, .int p0), (2, .int p1), (3, .ref qo)]) hx hb dL_setWind_13 hl (by decide) rfl (fun ls hl => ?_)
      refine lv_iconst (v := nI 1) hx hb dL_setWind_15 rfl ?_
      refine li_topi (show nI 1 = nI (kWind p0 p1) from by rw [hk9]) ?_
      refine hEnd 16 ls H1 locs1 _ _ (κ, σ', κ') (by decide) (by decide) dL_setWind_16 ?_ hS
      rw [oK_n hK0]
      show va_P D vwCl (wX cI cZ a n pl nw ns (sWind σ p0 p1) κ σ' κ' ++ [(qo, .inl (cL, 1, .inr (.inl f)))]) H1
      rw [show sWind σ p0 p1 = σ from if_neg hK0]
      exact hP2
    · have hE2 : E = eA := by rw [hE9, hk9]; rfl
      subst hE2
      refine vx_catch (own := RL) (name := eA) hown [⟨0, 10, 13, 20⟩] ⟨0, 10, 17, 13⟩ [] htab (fun z hz9 => by
        rcases (show z = (⟨0, 10, 13, 20⟩ : ExceptionTableEntry) from by simpa using hz9) with rfl
        · exact Or.inr ⟨by decide, "java/lang/IndexOutOfBoundsException", (show (Cond.classLink RL 20 "java/lang/IndexOutOfBoundsException").before args s = true from hts _ (List.mem_of_getElem? (i := 1) rfl)), hT.1.2.2.1 eA (by decide) eI (by decide) (by decide)⟩) (by decide) (by decide) (show (Cond.classLink RL 13 "java/lang/IllegalArgumentException").before args s = true from hts _ (List.mem_of_getElem? (i := 2) rfl)) (va_Nw.use rfl (hT.1.1 eA (by decide))) hce hcv hcl ?_
      refine lv_astore (lv' := [(4, .ref q9), (0, .ref (a 40)), (1, .int p0), (2, .int p1), (3, .ref qo)]) hx hb dL_setWind_17 hl (by decide) rfl (fun ls hl => ?_)
      refine lv_iconst (v := nI 2) hx hb dL_setWind_19 rfl ?_
      refine li_topi (show nI 2 = nI (kWind p0 p1) from by rw [hk9]) ?_
      refine hEnd 20 ls H1 locs1 _ _ (κ, σ', κ') (by decide) (by decide) dL_setWind_20 ?_ hS
      rw [oK_n hK0]
      show va_P D vwCl (wX cI cZ a n pl nw ns (sWind σ p0 p1) κ σ' κ' ++ [(qo, .inl (cL, 1, .inr (.inl f)))]) H1
      rw [show sWind σ p0 p1 = σ from if_neg hK0]
      exact hP2
  · obtain ⟨hk9, hr9⟩ := hpo
    subst hr9
    have hP1 : va_P D vwCl (wX cI cZ a n pl nw ns (sWind σ p0 p1) u.1 u.2.1 u.2.2) H1 := by rw [← ht]; exact hB1
    have hP := jnO hne hPo hP1 hk1
    have hD := va_D_map (w' := wX cI cZ a n pl nw ns (sWind σ p0 p1) u.1 u.2.1 u.2.2 ++ [(qo, .inl (cL, 1, .inr (.inl f)))]) hD rfl
    refine lv_i2l (v := (vWind σ p0 p1).toInt64) hx hb dL_setWind_8 rfl ?_
    refine va_last hx hb hK hP hD hS 41 2 rfl rfl (vp_in_nI (by decide) (by decide)) dL_setWind_9 (fun H2 locs hP hD hS => ?_)
    refine lv_goto (tgt := 21) hx hb dL_setWind_10 (by decide) ?_
    refine lv_iconst (v := nI 0) hx hb dL_setWind_21 rfl ?_
    refine li_topi (show nI 0 = nI (kWind p0 p1) from by rw [hk9]) ?_
    refine hEnd 22 ls H2 locs _ _ u (by decide) (by decide) dL_setWind_22 ?_ hS
    rw [oK_0 hk9]
    exact hP
set_option maxHeartbeats 4000000 in
set_option maxRecDepth 100000 in
theorem c_L_come (l : Launch) (hlT : l.stackTraces = false) (D : va_G) (cI cZ cL cO : ClassId) (a : Nat → Nat) (n pl nw ns : Nat) (σ κ σ' κ' : Sg) (H : Heap) (qo : Nat) (f : Nat → Int64) (p0 : Int32) (p1 : Int32) (p2 : Int32) (A : Nat → Prop) (hA : okP A a 41) (hne : ∀ k, k < 41 → a k ≠ qo) (hD : va_D A (wXo cI cZ cL a n pl nw ns σ κ σ' κ' qo f)) (hB : n ≤ 10 ∧ pl ≤ 200 ∧ nw ≤ 20 ∧ ns ≤ 6) : Met l yL_come wsL_come ({ frames := 7, cells := 1, slots := 6, locals := 106 } : Room) (ax_P D (T4 cI cZ cL cO) (wXo cI cZ cL a n pl nw ns σ κ σ' κ' qo f) H [.ref (a 40), .int p0, .int p1, .int p2, .ref qo] A) (ah_Q D (kCome nw p0 p1 p2) (fun u : S3 => wX cI cZ a n pl (nCome nw p0 p1 p2) ns (sComeK nw σ p0 p1 p2) u.1 u.2.1 u.2.2 ++ [(qo, .inl (cL, 1, .inr (.inl (oK (kCome nw p0 p1 p2) (vCome nw p0 p1 p2) f))))]) A) 1 6 A := by
  refine ah_of (cc := cL_come) (maxL := 6) (by decide) rfl (Nat.le_of_ble_eq_true rfl) ?_
  intro p e s m args below meth c Q ls locs hx hb hml hown hts hK hE hT hP hl hS htab hEnd
  have hl : lv_has ls 6 [(0, .ref (a 40)), (1, .int p0), (2, .int p1), (3, .int p2), (4, .ref qo)] := hl
  have hA1 : ∀ q, A_ a 41 q → A q := ak_of hA
  have hPc : va_P D vwCl (wX cI cZ a n pl nw ns σ κ σ' κ') H := hP.sub i41 rfl
  have hPo : va_at D vwCl (qo, .inl (cL, 1, .inr (.inl f))) H := hP 41 _ rfl
  refine lv_aload hx hb dL_come_0 (lv_at hl 4 rfl) ?_
  refine lv_iconst (v := nI 0) hx hb dL_come_2 rfl ?_
  refine lv_aload_n hx hb dL_come_3 rfl (lv_at hl 0 rfl) ?_
  refine lv_iload_n hx hb dL_come_4 rfl (lv_at hl 1 rfl) ?_
  refine lv_iload_n hx hb dL_come_5 rfl (lv_at hl 2 rfl) ?_
  refine lv_iload_n hx hb dL_come_6 rfl (lv_at hl 3 rfl) ?_
  refine vx_calli (vx_runV (As := [.int p0, .int p1, .int p2]) (rest := [.int (nI 0), .ref qo]) ⟨hx, hb, hml, hown, hts⟩ (c_X2_come l hlT D cI cZ cL cO a n pl nw ns σ κ σ' κ' H p0 p1 p2 (A_ a 41) (hA.A_ (by decide)) hB) (cwV 3 hts gL_come_X2_come rfl rfl rfl (by decide +kernel) ⟨by decide, by decide⟩) ⟨ax_blind, va_recv hK hPc (ci := 2) (q0 := 40) rfl rfl, fun U hU hW => ⟨rfl, hU, hPc, va_K.moved hW.alike hK, lwE.warm hW hE, (hT.warm hW).narrow hA1⟩⟩ rfl rfl hl.1 rfl (lv_room (Nat.le_of_ble_eq_true rfl)) dL_come_7 ⟨by decide, by decide⟩) hS (fun q _ h => hA1 q h) hA1 (fun q _ h => hA1 q h) (fun E ce q9 u t H1 locs1 ht hal hK0 hBX hz hk1 hS hce hcv hcl => ?_) (fun r u t H1 locs1 ht hal hpo hB1 hz hk1 hS => ?_)
  · obtain ⟨hE9, hP1⟩ := hBX
    rw [ht] at hP1
    have hP2 := jnO hne hPo hP1 hk1
    rcases (show kCome nw p0 p1 p2 = 1 ∨ kCome nw p0 p1 p2 = 2 from by have h9 := kCome_le (nw := nw) (x := p0) (y := p1) (z := p2); omega) with hk9 | hk9
    · have hE2 : E = eA := by rw [hE9, hk9]; rfl
      subst hE2
      refine vx_catch (own := RL) (name := eA) hown [] ⟨0, 12, 15, 13⟩ [⟨0, 12, 19, 15⟩] htab (fun z hz9 => nomatch hz9) (by decide) (by decide) (show (Cond.classLink RL 13 "java/lang/IllegalArgumentException").before args s = true from hts _ (List.mem_of_getElem? (i := 1) rfl)) (va_Nw.use rfl (hT.1.1 eA (by decide))) hce hcv hcl ?_
      refine lv_astore (lv' := [(5, .ref q9), (0, .ref (a 40)), (1, .int p0), (2, .int p1), (3, .int p2), (4, .ref qo)]) hx hb dL_come_15 hl (by decide) rfl (fun ls hl => ?_)
      refine lv_iconst (v := nI 1) hx hb dL_come_17 rfl ?_
      refine li_topi (show nI 1 = nI (kCome nw p0 p1 p2) from by rw [hk9]) ?_
      refine hEnd 18 ls H1 locs1 _ _ (κ, σ', κ') (by decide) (by decide) dL_come_18 ?_ hS
      rw [oK_n hK0]
      show va_P D vwCl (wX cI cZ a n pl (nCome nw p0 p1 p2) ns (sComeK nw σ p0 p1 p2) κ σ' κ' ++ [(qo, .inl (cL, 1, .inr (.inl f)))]) H1
      rw [show sComeK nw σ p0 p1 p2 = σ from if_neg hK0]
      rw [show nCome nw p0 p1 p2 = nw from if_neg hK0]
      exact hP2
    · have hE2 : E = eS := by rw [hE9, hk9]; rfl
      subst hE2
      refine vx_catch (own := RL) (name := eS) hown [⟨0, 12, 15, 13⟩] ⟨0, 12, 19, 15⟩ [] htab (fun z hz9 => by
        rcases (show z = (⟨0, 12, 15, 13⟩ : ExceptionTableEntry) from by simpa using hz9) with rfl
        · exact Or.inr ⟨by decide, "java/lang/IllegalArgumentException", (show (Cond.classLink RL 13 "java/lang/IllegalArgumentException").before args s = true from hts _ (List.mem_of_getElem? (i := 1) rfl)), hT.1.2.2.1 eS (by decide) eA (by decide) (by decide)⟩) (by decide) (by decide) (show (Cond.classLink RL 15 "java/lang/IllegalStateException").before args s = true from hts _ (List.mem_of_getElem? (i := 2) rfl)) (va_Nw.use rfl (hT.1.1 eS (by decide))) hce hcv hcl ?_
      refine lv_astore (lv' := [(5, .ref q9), (0, .ref (a 40)), (1, .int p0), (2, .int p1), (3, .int p2), (4, .ref qo)]) hx hb dL_come_19 hl (by decide) rfl (fun ls hl => ?_)
      refine lv_iconst (v := nI 2) hx hb dL_come_21 rfl ?_
      refine li_topi (show nI 2 = nI (kCome nw p0 p1 p2) from by rw [hk9]) ?_
      refine hEnd 22 ls H1 locs1 _ _ (κ, σ', κ') (by decide) (by decide) dL_come_22 ?_ hS
      rw [oK_n hK0]
      show va_P D vwCl (wX cI cZ a n pl (nCome nw p0 p1 p2) ns (sComeK nw σ p0 p1 p2) κ σ' κ' ++ [(qo, .inl (cL, 1, .inr (.inl f)))]) H1
      rw [show sComeK nw σ p0 p1 p2 = σ from if_neg hK0]
      rw [show nCome nw p0 p1 p2 = nw from if_neg hK0]
      exact hP2
  · obtain ⟨hk9, hr9⟩ := hpo
    subst hr9
    have hP1 : va_P D vwCl (wX cI cZ a n pl (nCome nw p0 p1 p2) ns (sComeK nw σ p0 p1 p2) u.1 u.2.1 u.2.2) H1 := by rw [← ht]; exact hB1
    have hP := jnO hne hPo hP1 hk1
    have hD := va_D_map (w' := wX cI cZ a n pl (nCome nw p0 p1 p2) ns (sComeK nw σ p0 p1 p2) u.1 u.2.1 u.2.2 ++ [(qo, .inl (cL, 1, .inr (.inl f)))]) hD rfl
    refine lv_i2l (v := (vCome nw p0 p1 p2).toInt64) hx hb dL_come_10 rfl ?_
    refine va_last hx hb hK hP hD hS 41 2 rfl rfl (vp_in_nI (by decide) (by decide)) dL_come_11 (fun H2 locs hP hD hS => ?_)
    refine lv_goto (tgt := 23) hx hb dL_come_12 (by decide) ?_
    refine lv_iconst (v := nI 0) hx hb dL_come_23 rfl ?_
    refine li_topi (show nI 0 = nI (kCome nw p0 p1 p2) from by rw [hk9]) ?_
    refine hEnd 24 ls H2 locs _ _ u (by decide) (by decide) dL_come_24 ?_ hS
    rw [oK_0 hk9]
    exact hP
set_option maxHeartbeats 4000000 in
set_option maxRecDepth 100000 in
theorem c_L_trim (l : Launch) (hlT : l.stackTraces = false) (D : va_G) (cI cZ cL cO : ClassId) (a : Nat → Nat) (n pl nw ns : Nat) (σ κ σ' κ' : Sg) (H : Heap) (qo : Nat) (f : Nat → Int64) (p0 : Int32) (p1 : Int32) (A : Nat → Prop) (hA : okP A a 41) (hne : ∀ k, k < 41 → a k ≠ qo) (hD : va_D A (wXo cI cZ cL a n pl nw ns σ κ σ' κ' qo f)) (hB : n ≤ 10 ∧ pl ≤ 200 ∧ nw ≤ 20 ∧ ns ≤ 6) : Met l yL_trim wsL_trim ({ frames := 7, cells := 1, slots := 6, locals := 104 } : Room) (ax_P D (T4 cI cZ cL cO) (wXo cI cZ cL a n pl nw ns σ κ σ' κ' qo f) H [.ref (a 40), .int p0, .int p1, .ref qo] A) (ah_Q D (kTrim nw σ p0 p1) (fun u : S3 => wX cI cZ a n pl nw ns (sTrim nw σ p0 p1) u.1 u.2.1 u.2.2 ++ [(qo, .inl (cL, 1, .inr (.inl (oK (kTrim nw σ p0 p1) (vTrim nw σ p0 p1) f))))]) A) 1 6 A := by
  refine ah_of (cc := cL_trim) (maxL := 5) (by decide) rfl (Nat.le_of_ble_eq_true rfl) ?_
  intro p e s m args below meth c Q ls locs hx hb hml hown hts hK hE hT hP hl hS htab hEnd
  have hl : lv_has ls 5 [(0, .ref (a 40)), (1, .int p0), (2, .int p1), (3, .ref qo)] := hl
  have hA1 : ∀ q, A_ a 41 q → A q := ak_of hA
  have hPc : va_P D vwCl (wX cI cZ a n pl nw ns σ κ σ' κ') H := hP.sub i41 rfl
  have hPo : va_at D vwCl (qo, .inl (cL, 1, .inr (.inl f))) H := hP 41 _ rfl
  refine lv_aload_n hx hb dL_trim_0 rfl (lv_at hl 3 rfl) ?_
  refine lv_iconst (v := nI 0) hx hb dL_trim_1 rfl ?_
  refine lv_aload_n hx hb dL_trim_2 rfl (lv_at hl 0 rfl) ?_
  refine lv_iload_n hx hb dL_trim_3 rfl (lv_at hl 1 rfl) ?_
  refine lv_iload_n hx hb dL_trim_4 rfl (lv_at hl 2 rfl) ?_
  refine vx_calli (vx_runV (As := [.int p0, .int p1]) (rest := [.int (nI 0), .ref qo]) ⟨hx, hb, hml, hown, hts⟩ (c_X2_trim l hlT D cI cZ cL cO a n pl nw ns σ κ σ' κ' H p0 p1 (A_ a 41) (hA.A_ (by decide)) hB) (cwV 2 hts gL_trim_X2_trim rfl rfl rfl (by decide +kernel) ⟨by decide, by decide⟩) ⟨ax_blind, va_recv hK hPc (ci := 2) (q0 := 40) rfl rfl, fun U hU hW => ⟨rfl, hU, hPc, va_K.moved hW.alike hK, lwE.warm hW hE, (hT.warm hW).narrow hA1⟩⟩ rfl rfl hl.1 rfl (lv_room (Nat.le_of_ble_eq_true rfl)) dL_trim_5 ⟨by decide, by decide⟩) hS (fun q _ h => hA1 q h) hA1 (fun q _ h => hA1 q h) (fun E ce q9 u t H1 locs1 ht hal hK0 hBX hz hk1 hS hce hcv hcl => ?_) (fun r u t H1 locs1 ht hal hpo hB1 hz hk1 hS => ?_)
  · obtain ⟨hE9, hP1⟩ := hBX
    rw [ht] at hP1
    have hP2 := jnO hne hPo hP1 hk1
    rcases (show kTrim nw σ p0 p1 = 1 ∨ kTrim nw σ p0 p1 = 2 ∨ kTrim nw σ p0 p1 = 3 from by have h9 := kTrim_le (nw := nw) (σ := σ) (x := p0) (y := p1); omega) with hk9 | hk9 | hk9
    · have hE2 : E = eI := by rw [hE9, hk9]; rfl
      subst hE2
      refine vx_catch (own := RL) (name := eI) hown [] ⟨0, 10, 13, 20⟩ [⟨0, 10, 17, 13⟩, ⟨0, 10, 21, 15⟩] htab (fun z hz9 => nomatch hz9) (by decide) (by decide) (show (Cond.classLink RL 20 "java/lang/IndexOutOfBoundsException").before args s = true from hts _ (List.mem_of_getElem? (i := 1) rfl)) (va_Nw.use rfl (hT.1.1 eI (by decide))) hce hcv hcl ?_
      refine lv_astore (lv' := [(4, .ref q9), (0, .ref (a 40)), (1, .int p0), (2, .int p1), (3, .ref qo)]) hx hb dL_trim_13 hl (by decide) rfl (fun ls hl => ?_)
      refine lv_iconst (v := nI 1) hx hb dL_trim_15 rfl ?_
      refine li_topi (show nI 1 = nI (kTrim nw σ p0 p1) from by rw [hk9]) ?_
      refine hEnd 16 ls H1 locs1 _ _ (κ, σ', κ') (by decide) (by decide) dL_trim_16 ?_ hS
      rw [oK_n hK0]
      show va_P D vwCl (wX cI cZ a n pl nw ns (sTrim nw σ p0 p1) κ σ' κ' ++ [(qo, .inl (cL, 1, .inr (.inl f)))]) H1
      rw [show sTrim nw σ p0 p1 = σ from if_neg hK0]
      exact hP2
    · have hE2 : E = eA := by rw [hE9, hk9]; rfl
      subst hE2
      refine vx_catch (own := RL) (name := eA) hown [⟨0, 10, 13, 20⟩] ⟨0, 10, 17, 13⟩ [⟨0, 10, 21, 15⟩] htab (fun z hz9 => by
        rcases (show z = (⟨0, 10, 13, 20⟩ : ExceptionTableEntry) from by simpa using hz9) with rfl
        · exact Or.inr ⟨by decide, "java/lang/IndexOutOfBoundsException", (show (Cond.classLink RL 20 "java/lang/IndexOutOfBoundsException").before args s = true from hts _ (List.mem_of_getElem? (i := 1) rfl)), hT.1.2.2.1 eA (by decide) eI (by decide) (by decide)⟩) (by decide) (by decide) (show (Cond.classLink RL 13 "java/lang/IllegalArgumentException").before args s = true from hts _ (List.mem_of_getElem? (i := 2) rfl)) (va_Nw.use rfl (hT.1.1 eA (by decide))) hce hcv hcl ?_
      refine lv_astore (lv' := [(4, .ref q9), (0, .ref (a 40)), (1, .int p0), (2, .int p1), (3, .ref qo)]) hx hb dL_trim_17 hl (by decide) rfl (fun ls hl => ?_)
      refine lv_iconst (v := nI 2) hx hb dL_trim_19 rfl ?_
      refine li_topi (show nI 2 = nI (kTrim nw σ p0 p1) from by rw [hk9]) ?_
      refine hEnd 20 ls H1 locs1 _ _ (κ, σ', κ') (by decide) (by decide) dL_trim_20 ?_ hS
      rw [oK_n hK0]
      show va_P D vwCl (wX cI cZ a n pl nw ns (sTrim nw σ p0 p1) κ σ' κ' ++ [(qo, .inl (cL, 1, .inr (.inl f)))]) H1
      rw [show sTrim nw σ p0 p1 = σ from if_neg hK0]
      exact hP2
    · have hE2 : E = eS := by rw [hE9, hk9]; rfl
      subst hE2
      refine vx_catch (own := RL) (name := eS) hown [⟨0, 10, 13, 20⟩, ⟨0, 10, 17, 13⟩] ⟨0, 10, 21, 15⟩ [] htab (fun z hz9 => by
        rcases (show z = (⟨0, 10, 13, 20⟩ : ExceptionTableEntry) ∨ z = (⟨0, 10, 17, 13⟩ : ExceptionTableEntry) from by simpa using hz9) with rfl | rfl
        · exact Or.inr ⟨by decide, "java/lang/IndexOutOfBoundsException", (show (Cond.classLink RL 20 "java/lang/IndexOutOfBoundsException").before args s = true from hts _ (List.mem_of_getElem? (i := 1) rfl)), hT.1.2.2.1 eS (by decide) eI (by decide) (by decide)⟩
        · exact Or.inr ⟨by decide, "java/lang/IllegalArgumentException", (show (Cond.classLink RL 13 "java/lang/IllegalArgumentException").before args s = true from hts _ (List.mem_of_getElem? (i := 2) rfl)), hT.1.2.2.1 eS (by decide) eA (by decide) (by decide)⟩) (by decide) (by decide) (show (Cond.classLink RL 15 "java/lang/IllegalStateException").before args s = true from hts _ (List.mem_of_getElem? (i := 3) rfl)) (va_Nw.use rfl (hT.1.1 eS (by decide))) hce hcv hcl ?_
      refine lv_astore (lv' := [(4, .ref q9), (0, .ref (a 40)), (1, .int p0), (2, .int p1), (3, .ref qo)]) hx hb dL_trim_21 hl (by decide) rfl (fun ls hl => ?_)
      refine lv_iconst (v := nI 3) hx hb dL_trim_23 rfl ?_
      refine li_topi (show nI 3 = nI (kTrim nw σ p0 p1) from by rw [hk9]) ?_
      refine hEnd 24 ls H1 locs1 _ _ (κ, σ', κ') (by decide) (by decide) dL_trim_24 ?_ hS
      rw [oK_n hK0]
      show va_P D vwCl (wX cI cZ a n pl nw ns (sTrim nw σ p0 p1) κ σ' κ' ++ [(qo, .inl (cL, 1, .inr (.inl f)))]) H1
      rw [show sTrim nw σ p0 p1 = σ from if_neg hK0]
      exact hP2
  · obtain ⟨hk9, hr9⟩ := hpo
    subst hr9
    have hP1 : va_P D vwCl (wX cI cZ a n pl nw ns (sTrim nw σ p0 p1) u.1 u.2.1 u.2.2) H1 := by rw [← ht]; exact hB1
    have hP := jnO hne hPo hP1 hk1
    have hD := va_D_map (w' := wX cI cZ a n pl nw ns (sTrim nw σ p0 p1) u.1 u.2.1 u.2.2 ++ [(qo, .inl (cL, 1, .inr (.inl f)))]) hD rfl
    refine lv_i2l (v := (vTrim nw σ p0 p1).toInt64) hx hb dL_trim_8 rfl ?_
    refine va_last hx hb hK hP hD hS 41 2 rfl rfl (vp_in_nI (by decide) (by decide)) dL_trim_9 (fun H2 locs hP hD hS => ?_)
    refine lv_goto (tgt := 25) hx hb dL_trim_10 (by decide) ?_
    refine lv_iconst (v := nI 0) hx hb dL_trim_25 rfl ?_
    refine li_topi (show nI 0 = nI (kTrim nw σ p0 p1) from by rw [hk9]) ?_
    refine hEnd 26 ls H2 locs _ _ u (by decide) (by decide) dL_trim_26 ?_ hS
    rw [oK_0 hk9]
    exact hP
set_option maxHeartbeats 4000000 in
set_option maxRecDepth 100000 in
theorem c_L_addSong (l : Launch) (hlT : l.stackTraces = false) (D : va_G) (cI cZ cL cO : ClassId) (a : Nat → Nat) (n pl nw ns : Nat) (σ κ σ' κ' : Sg) (H : Heap) (qo : Nat) (f : Nat → Int64) (p0 : Int32) (A : Nat → Prop) (hA : okP A a 41) (hne : ∀ k, k < 41 → a k ≠ qo) (hD : va_D A (wXo cI cZ cL a n pl nw ns σ κ σ' κ' qo f)) (hB : n ≤ 10 ∧ pl ≤ 200 ∧ nw ≤ 20 ∧ ns ≤ 6) : Met l yL_addSong wsL_addSong ({ frames := 7, cells := 1, slots := 6, locals := 103 } : Room) (ax_P D (T4 cI cZ cL cO) (wXo cI cZ cL a n pl nw ns σ κ σ' κ' qo f) H [.ref (a 40), .int p0, .ref qo] A) (ah_Q D (kSong ns p0) (fun u : S3 => wX cI cZ a n pl nw (nSong ns p0) (sSong ns σ p0) u.1 u.2.1 u.2.2 ++ [(qo, .inl (cL, 1, .inr (.inl (oK (kSong ns p0) (vSong ns p0) f))))]) A) 1 6 A := by
  refine ah_of (cc := cL_addSong) (maxL := 4) (by decide) rfl (Nat.le_of_ble_eq_true rfl) ?_
  intro p e s m args below meth c Q ls locs hx hb hml hown hts hK hE hT hP hl hS htab hEnd
  have hl : lv_has ls 4 [(0, .ref (a 40)), (1, .int p0), (2, .ref qo)] := hl
  have hA1 : ∀ q, A_ a 41 q → A q := ak_of hA
  have hPc : va_P D vwCl (wX cI cZ a n pl nw ns σ κ σ' κ') H := hP.sub i41 rfl
  have hPo : va_at D vwCl (qo, .inl (cL, 1, .inr (.inl f))) H := hP 41 _ rfl
  refine lv_aload_n hx hb dL_addSong_0 rfl (lv_at hl 2 rfl) ?_
  refine lv_iconst (v := nI 0) hx hb dL_addSong_1 rfl ?_
  refine lv_aload_n hx hb dL_addSong_2 rfl (lv_at hl 0 rfl) ?_
  refine lv_iload_n hx hb dL_addSong_3 rfl (lv_at hl 1 rfl) ?_
  refine vx_calli (vx_runV (As := [.int p0]) (rest := [.int (nI 0), .ref qo]) ⟨hx, hb, hml, hown, hts⟩ (c_X2_addSong l hlT D cI cZ cL cO a n pl nw ns σ κ σ' κ' H p0 (A_ a 41) (hA.A_ (by decide)) hB) (cwV 1 hts gL_addSong_X2_addSong rfl rfl rfl (by decide +kernel) ⟨by decide, by decide⟩) ⟨ax_blind, va_recv hK hPc (ci := 2) (q0 := 40) rfl rfl, fun U hU hW => ⟨rfl, hU, hPc, va_K.moved hW.alike hK, lwE.warm hW hE, (hT.warm hW).narrow hA1⟩⟩ rfl rfl hl.1 rfl (lv_room (Nat.le_of_ble_eq_true rfl)) dL_addSong_4 ⟨by decide, by decide⟩) hS (fun q _ h => hA1 q h) hA1 (fun q _ h => hA1 q h) (fun E ce q9 u t H1 locs1 ht hal hK0 hBX hz hk1 hS hce hcv hcl => ?_) (fun r u t H1 locs1 ht hal hpo hB1 hz hk1 hS => ?_)
  · obtain ⟨hE9, hP1⟩ := hBX
    rw [ht] at hP1
    have hP2 := jnO hne hPo hP1 hk1
    rcases (show kSong ns p0 = 1 ∨ kSong ns p0 = 2 from by have h9 := kSong_le (ns := ns) (x := p0); omega) with hk9 | hk9
    · have hE2 : E = eA := by rw [hE9, hk9]; rfl
      subst hE2
      refine vx_catch (own := RL) (name := eA) hown [] ⟨0, 9, 12, 13⟩ [⟨0, 9, 15, 15⟩] htab (fun z hz9 => nomatch hz9) (by decide) (by decide) (show (Cond.classLink RL 13 "java/lang/IllegalArgumentException").before args s = true from hts _ (List.mem_of_getElem? (i := 1) rfl)) (va_Nw.use rfl (hT.1.1 eA (by decide))) hce hcv hcl ?_
      refine lv_astore_n (lv' := [(3, .ref q9), (0, .ref (a 40)), (1, .int p0), (2, .ref qo)]) hx hb dL_addSong_12 rfl hl (by decide) rfl (fun ls hl => ?_)
      refine lv_iconst (v := nI 1) hx hb dL_addSong_13 rfl ?_
      refine li_topi (show nI 1 = nI (kSong ns p0) from by rw [hk9]) ?_
      refine hEnd 14 ls H1 locs1 _ _ (κ, σ', κ') (by decide) (by decide) dL_addSong_14 ?_ hS
      rw [oK_n hK0]
      show va_P D vwCl (wX cI cZ a n pl nw (nSong ns p0) (sSong ns σ p0) κ σ' κ' ++ [(qo, .inl (cL, 1, .inr (.inl f)))]) H1
      rw [show sSong ns σ p0 = σ from if_neg hK0]
      rw [show nSong ns p0 = ns from if_neg hK0]
      exact hP2
    · have hE2 : E = eS := by rw [hE9, hk9]; rfl
      subst hE2
      refine vx_catch (own := RL) (name := eS) hown [⟨0, 9, 12, 13⟩] ⟨0, 9, 15, 15⟩ [] htab (fun z hz9 => by
        rcases (show z = (⟨0, 9, 12, 13⟩ : ExceptionTableEntry) from by simpa using hz9) with rfl
        · exact Or.inr ⟨by decide, "java/lang/IllegalArgumentException", (show (Cond.classLink RL 13 "java/lang/IllegalArgumentException").before args s = true from hts _ (List.mem_of_getElem? (i := 1) rfl)), hT.1.2.2.1 eS (by decide) eA (by decide) (by decide)⟩) (by decide) (by decide) (show (Cond.classLink RL 15 "java/lang/IllegalStateException").before args s = true from hts _ (List.mem_of_getElem? (i := 2) rfl)) (va_Nw.use rfl (hT.1.1 eS (by decide))) hce hcv hcl ?_
      refine lv_astore_n (lv' := [(3, .ref q9), (0, .ref (a 40)), (1, .int p0), (2, .ref qo)]) hx hb dL_addSong_15 rfl hl (by decide) rfl (fun ls hl => ?_)
      refine lv_iconst (v := nI 2) hx hb dL_addSong_16 rfl ?_
      refine li_topi (show nI 2 = nI (kSong ns p0) from by rw [hk9]) ?_
      refine hEnd 17 ls H1 locs1 _ _ (κ, σ', κ') (by decide) (by decide) dL_addSong_17 ?_ hS
      rw [oK_n hK0]
      show va_P D vwCl (wX cI cZ a n pl nw (nSong ns p0) (sSong ns σ p0) κ σ' κ' ++ [(qo, .inl (cL, 1, .inr (.inl f)))]) H1
      rw [show sSong ns σ p0 = σ from if_neg hK0]
      rw [show nSong ns p0 = ns from if_neg hK0]
      exact hP2
  · obtain ⟨hk9, hr9⟩ := hpo
    subst hr9
    have hP1 : va_P D vwCl (wX cI cZ a n pl nw (nSong ns p0) (sSong ns σ p0) u.1 u.2.1 u.2.2) H1 := by rw [← ht]; exact hB1
    have hP := jnO hne hPo hP1 hk1
    have hD := va_D_map (w' := wX cI cZ a n pl nw (nSong ns p0) (sSong ns σ p0) u.1 u.2.1 u.2.2 ++ [(qo, .inl (cL, 1, .inr (.inl f)))]) hD rfl
    refine lv_i2l (v := (vSong ns p0).toInt64) hx hb dL_addSong_7 rfl ?_
    refine va_last hx hb hK hP hD hS 41 2 rfl rfl (vp_in_nI (by decide) (by decide)) dL_addSong_8 (fun H2 locs hP hD hS => ?_)
    refine lv_goto (tgt := 18) hx hb dL_addSong_9 (by decide) ?_
    refine lv_iconst (v := nI 0) hx hb dL_addSong_18 rfl ?_
    refine li_topi (show nI 0 = nI (kSong ns p0) from by rw [hk9]) ?_
    refine hEnd 19 ls H2 locs _ _ u (by decide) (by decide) dL_addSong_19 ?_ hS
    rw [oK_0 hk9]
    exact hP
set_option maxHeartbeats 4000000 in
set_option maxRecDepth 100000 in
theorem c_L_teach (l : Launch) (hlT : l.stackTraces = false) (D : va_G) (cI cZ cL cO : ClassId) (a : Nat → Nat) (n pl nw ns : Nat) (σ κ σ' κ' : Sg) (H : Heap) (qo : Nat) (f : Nat → Int64) (p0 : Int32) (p1 : Int32) (p2 : Int32) (A : Nat → Prop) (hA : okP A a 41) (hne : ∀ k, k < 41 → a k ≠ qo) (hD : va_D A (wXo cI cZ cL a n pl nw ns σ κ σ' κ' qo f)) (hB : n ≤ 10 ∧ pl ≤ 200 ∧ nw ≤ 20 ∧ ns ≤ 6) : Met l yL_teach wsL_teach ({ frames := 7, cells := 1, slots := 6, locals := 107 } : Room) (ax_P D (T4 cI cZ cL cO) (wXo cI cZ cL a n pl nw ns σ κ σ' κ' qo f) H [.ref (a 40), .int p0, .int p1, .int p2, .ref qo] A) (ah_Q D (kTeach nw ns p0 p1 p2) (fun u : S3 => wX cI cZ a n pl nw ns (sTeach nw ns σ p0 p1 p2) u.1 u.2.1 u.2.2 ++ [(qo, .inl (cL, 1, .inr (.inl (oK (kTeach nw ns p0 p1 p2) (vTeach nw ns σ p0 p1 p2) f))))]) A) 1 6 A := by
  refine ah_of (cc := cL_teach) (maxL := 6) (by decide) rfl (Nat.le_of_ble_eq_true rfl) ?_
  intro p e s m args below meth c Q ls locs hx hb hml hown hts hK hE hT hP hl hS htab hEnd
  have hl : lv_has ls 6 [(0, .ref (a 40)), (1, .int p0), (2, .int p1), (3, .int p2), (4, .ref qo)] := hl
  have hA1 : ∀ q, A_ a 41 q → A q := ak_of hA
  have hPc : va_P D vwCl (wX cI cZ a n pl nw ns σ κ σ' κ') H := hP.sub i41 rfl
  have hPo : va_at D vwCl (qo, .inl (cL, 1, .inr (.inl f))) H := hP 41 _ rfl
  refine lv_aload hx hb dL_teach_0 (lv_at hl 4 rfl) ?_
  refine lv_iconst (v := nI 0) hx hb dL_teach_2 rfl ?_
  refine lv_aload_n hx hb dL_teach_3 rfl (lv_at hl 0 rfl) ?_
  refine lv_iload_n hx hb dL_teach_4 rfl (lv_at hl 1 rfl) ?_
  refine lv_iload_n hx hb dL_teach_5 rfl (lv_at hl 2 rfl) ?_
  refine lv_iload_n hx hb dL_teach_6 rfl (lv_at hl 3 rfl) ?_
  refine vx_calli (vx_runV (As := [.int p0, .int p1, .int p2]) (rest := [.int (nI 0), .ref qo]) ⟨hx, hb, hml, hown, hts⟩ (c_X2_teach l hlT D cI cZ cL cO a n pl nw ns σ κ σ' κ' H p0 p1 p2 (A_ a 41) (hA.A_ (by decide)) hB) (cwV 3 hts gL_teach_X2_teach rfl rfl rfl (by decide +kernel) ⟨by decide, by decide⟩) ⟨ax_blind, va_recv hK hPc (ci := 2) (q0 := 40) rfl rfl, fun U hU hW => ⟨rfl, hU, hPc, va_K.moved hW.alike hK, lwE.warm hW hE, (hT.warm hW).narrow hA1⟩⟩ rfl rfl hl.1 rfl (lv_room (Nat.le_of_ble_eq_true rfl)) dL_teach_7 ⟨by decide, by decide⟩) hS (fun q _ h => hA1 q h) hA1 (fun q _ h => hA1 q h) (fun E ce q9 u t H1 locs1 ht hal hK0 hBX hz hk1 hS hce hcv hcl => ?_) (fun r u t H1 locs1 ht hal hpo hB1 hz hk1 hS => ?_)
  · obtain ⟨hE9, hP1⟩ := hBX
    rw [ht] at hP1
    have hP2 := jnO hne hPo hP1 hk1
    rcases (show kTeach nw ns p0 p1 p2 = 1 ∨ kTeach nw ns p0 p1 p2 = 2 from by have h9 := kTeach_le (nw := nw) (ns := ns) (x := p0) (y := p1) (z := p2); omega) with hk9 | hk9
    · have hE2 : E = eI := by rw [hE9, hk9]; rfl
      subst hE2
      refine vx_catch (own := RL) (name := eI) hown [] ⟨0, 12, 15, 20⟩ [⟨0, 12, 19, 13⟩] htab (fun z hz9 => nomatch hz9) (by decide) (by decide) (show (Cond.classLink RL 20 "java/lang/IndexOutOfBoundsException").before args s = true from hts _ (List.mem_of_getElem? (i := 1) rfl)) (va_Nw.use rfl (hT.1.1 eI (by decide))) hce hcv hcl ?_
      refine lv_astore (lv' := [(5, .ref q9), (0, .ref (a 40)), (1, .int p0), (2, .int p1), (3, .int p2), (4, .ref qo)]) hx hb dL_teach_15 hl (by decide) rfl (fun ls hl => ?_)
      refine lv_iconst (v := nI 1) hx hb dL_teach_17 rfl ?_
      refine li_topi (show nI 1 = nI (kTeach nw ns p0 p1 p2) from by rw [hk9]) ?_
      refine hEnd 18 ls H1 locs1 _ _ (κ, σ', κ') (by decide) (by decide) dL_teach_18 ?_ hS
      rw [oK_n hK0]
      show va_P D vwCl (wX cI cZ a n pl nw ns (sTeach nw ns σ p0 p1 p2) κ σ' κ' ++ [(qo, .inl (cL, 1, .inr (.inl f)))]) H1
      rw [show sTeach nw ns σ p0 p1 p2 = σ from if_neg hK0]
      exact hP2
    · have hE2 : E = eA := by rw [hE9, hk9]; rfl
      subst hE2
      refine vx_catch (own := RL) (name := eA) hown [⟨0, 12, 15, 20⟩] ⟨0, 12, 19, 13⟩ [] htab (fun z hz9 => by
        rcases (show z = (⟨0, 12, 15, 20⟩ : ExceptionTableEntry) from by simpa using hz9) with rfl
        · exact Or.inr ⟨by decide, "java/lang/IndexOutOfBoundsException", (show (Cond.classLink RL 20 "java/lang/IndexOutOfBoundsException").before args s = true from hts _ (List.mem_of_getElem? (i := 1) rfl)), hT.1.2.2.1 eA (by decide) eI (by decide) (by decide)⟩) (by decide) (by decide) (show (Cond.classLink RL 13 "java/lang/IllegalArgumentException").before args s = true from hts _ (List.mem_of_getElem? (i := 2) rfl)) (va_Nw.use rfl (hT.1.1 eA (by decide))) hce hcv hcl ?_
      refine lv_astore (lv' := [(5, .ref q9), (0, .ref (a 40)), (1, .int p0), (2, .int p1), (3, .int p2), (4, .ref qo)]) hx hb dL_teach_19 hl (by decide) rfl (fun ls hl => ?_)
      refine lv_iconst (v := nI 2) hx hb dL_teach_21 rfl ?_
      refine li_topi (show nI 2 = nI (kTeach nw ns p0 p1 p2) from by rw [hk9]) ?_
      refine hEnd 22 ls H1 locs1 _ _ (κ, σ', κ') (by decide) (by decide) dL_teach_22 ?_ hS
      rw [oK_n hK0]
      show va_P D vwCl (wX cI cZ a n pl nw ns (sTeach nw ns σ p0 p1 p2) κ σ' κ' ++ [(qo, .inl (cL, 1, .inr (.inl f)))]) H1
      rw [show sTeach nw ns σ p0 p1 p2 = σ from if_neg hK0]
      exact hP2
  · obtain ⟨hk9, hr9⟩ := hpo
    subst hr9
    have hP1 : va_P D vwCl (wX cI cZ a n pl nw ns (sTeach nw ns σ p0 p1 p2) u.1 u.2.1 u.2.2) H1 := by rw [← ht]; exact hB1
    have hP := jnO hne hPo hP1 hk1
    have hD := va_D_map (w' := wX cI cZ a n pl nw ns (sTeach nw ns σ p0 p1 p2) u.1 u.2.1 u.2.2 ++ [(qo, .inl (cL, 1, .inr (.inl f)))]) hD rfl
    refine lv_i2l (v := (vTeach nw ns σ p0 p1 p2).toInt64) hx hb dL_teach_10 rfl ?_
    refine va_last hx hb hK hP hD hS 41 2 rfl rfl (vp_in_nI (by decide) (by decide)) dL_teach_11 (fun H2 locs hP hD hS => ?_)
    refine lv_goto (tgt := 23) hx hb dL_teach_12 (by decide) ?_
    refine lv_iconst (v := nI 0) hx hb dL_teach_23 rfl ?_
    refine li_topi (show nI 0 = nI (kTeach nw ns p0 p1 p2) from by rw [hk9]) ?_
    refine hEnd 24 ls H2 locs _ _ u (by decide) (by decide) dL_teach_24 ?_ hS
    rw [oK_0 hk9]
    exact hP
set_option maxHeartbeats 4000000 in
set_option maxRecDepth 100000 in
theorem c_L_stretch (l : Launch) (hlT : l.stackTraces = false) (D : va_G) (cI cZ cL cO : ClassId) (a : Nat → Nat) (n pl nw ns : Nat) (σ κ σ' κ' : Sg) (H : Heap) (qo : Nat) (f : Nat → Int64) (p0 : Int32) (p1 : Int32) (A : Nat → Prop) (hA : okP A a 41) (hne : ∀ k, k < 41 → a k ≠ qo) (hD : va_D A (wXo cI cZ cL a n pl nw ns σ κ σ' κ' qo f)) (hB : n ≤ 10 ∧ pl ≤ 200 ∧ nw ≤ 20 ∧ ns ≤ 6) : Met l yL_stretch wsL_stretch ({ frames := 7, cells := 1, slots := 6, locals := 104 } : Room) (ax_P D (T4 cI cZ cL cO) (wXo cI cZ cL a n pl nw ns σ κ σ' κ' qo f) H [.ref (a 40), .int p0, .int p1, .ref qo] A) (ah_Q D (kTwo n 5 p0 p1) (fun u : S3 => wX cI cZ a n pl nw ns σ u.1 u.2.1 u.2.2 ++ [(qo, .inl (cL, 1, .inr (.inl (oK (kTwo n 5 p0 p1) (ifk (kTwo n 5 p0 p1) (stT n nw σ (nN p0) (nN p1))) f))))]) A) 1 6 A := by
  refine ah_of (cc := cL_stretch) (maxL := 5) (by decide) rfl (Nat.le_of_ble_eq_true rfl) ?_
  intro p e s m args below meth c Q ls locs hx hb hml hown hts hK hE hT hP hl hS htab hEnd
  have hl : lv_has ls 5 [(0, .ref (a 40)), (1, .int p0), (2, .int p1), (3, .ref qo)] := hl
  have hA1 : ∀ q, A_ a 41 q → A q := ak_of hA
  have hPc : va_P D vwCl (wX cI cZ a n pl nw ns σ κ σ' κ') H := hP.sub i41 rfl
  have hPo : va_at D vwCl (qo, .inl (cL, 1, .inr (.inl f))) H := hP 41 _ rfl
  refine lv_aload_n hx hb dL_stretch_0 rfl (lv_at hl 3 rfl) ?_
  refine lv_iconst (v := nI 0) hx hb dL_stretch_1 rfl ?_
  refine lv_aload_n hx hb dL_stretch_2 rfl (lv_at hl 0 rfl) ?_
  refine lv_iload_n hx hb dL_stretch_3 rfl (lv_at hl 1 rfl) ?_
  refine lv_iload_n hx hb dL_stretch_4 rfl (lv_at hl 2 rfl) ?_
  refine vx_calli (vx_runV (As := [.int p0, .int p1]) (rest := [.int (nI 0), .ref qo]) ⟨hx, hb, hml, hown, hts⟩ (c_X2_stretch l hlT D cI cZ cL cO a n pl nw ns σ κ σ' κ' H p0 p1 (A_ a 41) (hA.A_ (by decide)) hB) (cwV 2 hts gL_stretch_X2_stretch rfl rfl rfl (by decide +kernel) ⟨by decide, by decide⟩) ⟨ax_blind, va_recv hK hPc (ci := 2) (q0 := 40) rfl rfl, fun U hU hW => ⟨rfl, hU, hPc, va_K.moved hW.alike hK, lwE.warm hW hE, (hT.warm hW).narrow hA1⟩⟩ rfl rfl hl.1 rfl (lv_room (Nat.le_of_ble_eq_true rfl)) dL_stretch_5 ⟨by decide, by decide⟩) hS (fun q _ h => hA1 q h) hA1 (fun q _ h => hA1 q h) (fun E ce q9 u t H1 locs1 ht hal hK0 hBX hz hk1 hS hce hcv hcl => ?_) (fun r u t H1 locs1 ht hal hpo hB1 hz hk1 hS => ?_)
  · obtain ⟨hE9, hP1⟩ := hBX
    rw [ht] at hP1
    have hP2 := jnO hne hPo hP1 hk1
    rcases (show kTwo n 5 p0 p1 = 1 from by have h9 := kTwo_le (n := n) (hi := 5) (x := p0) (y := p1); omega) with hk9
    · have hE2 : E = eI := by rw [hE9, hk9]; rfl
      subst hE2
      refine vx_catch (own := RL) (name := eI) hown [] ⟨0, 10, 13, 20⟩ [] htab (fun z hz9 => nomatch hz9) (by decide) (by decide) (show (Cond.classLink RL 20 "java/lang/IndexOutOfBoundsException").before args s = true from hts _ (List.mem_of_getElem? (i := 1) rfl)) (va_Nw.use rfl (hT.1.1 eI (by decide))) hce hcv hcl ?_
      refine lv_astore (lv' := [(4, .ref q9), (0, .ref (a 40)), (1, .int p0), (2, .int p1), (3, .ref qo)]) hx hb dL_stretch_13 hl (by decide) rfl (fun ls hl => ?_)
      refine lv_iconst (v := nI 1) hx hb dL_stretch_15 rfl ?_
      refine li_topi (show nI 1 = nI (kTwo n 5 p0 p1) from by rw [hk9]) ?_
      refine hEnd 16 ls H1 locs1 _ _ (κ, σ', κ') (by decide) (by decide) dL_stretch_16 ?_ hS
      rw [oK_n hK0]
      exact hP2
  · obtain ⟨hk9, hr9⟩ := hpo
    subst hr9
    have hP1 : va_P D vwCl (wX cI cZ a n pl nw ns σ u.1 u.2.1 u.2.2) H1 := by rw [← ht]; exact hB1
    have hP := jnO hne hPo hP1 hk1
    have hD := va_D_map (w' := wX cI cZ a n pl nw ns σ u.1 u.2.1 u.2.2 ++ [(qo, .inl (cL, 1, .inr (.inl f)))]) hD rfl
    refine lv_i2l (v := (ifk (kTwo n 5 p0 p1) (stT n nw σ (nN p0) (nN p1))).toInt64) hx hb dL_stretch_8 rfl ?_
    refine va_last hx hb hK hP hD hS 41 2 rfl rfl (vp_in_nI (by decide) (by decide)) dL_stretch_9 (fun H2 locs hP hD hS => ?_)
    refine lv_goto (tgt := 17) hx hb dL_stretch_10 (by decide) ?_
    refine lv_iconst (v := nI 0) hx hb dL_stretch_17 rfl ?_
    refine li_topi (show nI 0 = nI (kTwo n 5 p0 p1) from by rw [hk9]) ?_
    refine hEnd 18 ls H2 locs _ _ u (by decide) (by decide) dL_stretch_18 ?_ hS
    rw [oK_0 hk9]
    exact hP
set_option maxHeartbeats 4000000 in
set_option maxRecDepth 100000 in
theorem c_L_walker (l : Launch) (hlT : l.stackTraces = false) (D : va_G) (cI cZ cL cO : ClassId) (a : Nat → Nat) (n pl nw ns : Nat) (σ κ σ' κ' : Sg) (H : Heap) (qo : Nat) (f : Nat → Int64) (p0 : Int32) (p1 : Int32) (A : Nat → Prop) (hA : okP A a 41) (hne : ∀ k, k < 41 → a k ≠ qo) (hD : va_D A (wXo cI cZ cL a n pl nw ns σ κ σ' κ' qo f)) (hB : n ≤ 10 ∧ pl ≤ 200 ∧ nw ≤ 20 ∧ ns ≤ 6) (hz : bz σ) : Met l yL_walker wsL_walker ({ frames := 7, cells := 1, slots := 6, locals := 104 } : Room) (ax_P D (T4 cI cZ cL cO) (wXo cI cZ cL a n pl nw ns σ κ σ' κ' qo f) H [.ref (a 40), .int p0, .int p1, .ref qo] A) (ah_Q D (kTwo nw 8 p0 p1) (fun u : S3 => wX cI cZ a n pl nw ns σ u.1 u.2.1 u.2.2 ++ [(qo, .inl (cL, 1, .inr (.inl (oK (kTwo nw 8 p0 p1) (ifk (kTwo nw 8 p0 p1) (waT nw σ (nN p0) (nN p1))) f))))]) A) 1 6 A := by
  refine ah_of (cc := cL_walker) (maxL := 5) (by decide) rfl (Nat.le_of_ble_eq_true rfl) ?_
  intro p e s m args below meth c Q ls locs hx hb hml hown hts hK hE hT hP hl hS htab hEnd
  have hl : lv_has ls 5 [(0, .ref (a 40)), (1, .int p0), (2, .int p1), (3, .ref qo)] := hl
  have hA1 : ∀ q, A_ a 41 q → A q := ak_of hA
  have hPc : va_P D vwCl (wX cI cZ a n pl nw ns σ κ σ' κ') H := hP.sub i41 rfl
  have hPo : va_at D vwCl (qo, .inl (cL, 1, .inr (.inl f))) H := hP 41 _ rfl
  refine lv_aload_n hx hb dL_walker_0 rfl (lv_at hl 3 rfl) ?_
  refine lv_iconst (v := nI 0) hx hb dL_walker_1 rfl ?_
  refine lv_aload_n hx hb dL_walker_2 rfl (lv_at hl 0 rfl) ?_
  refine lv_iload_n hx hb dL_walker_3 rfl (lv_at hl 1 rfl) ?_
  refine lv_iload_n hx hb dL_walker_4 rfl (lv_at hl 2 rfl) ?_
  refine vx_calli (vx_runV (As := [.int p0, .int p1]) (rest := [.int (nI 0), .ref qo]) ⟨hx, hb, hml, hown, hts⟩ (c_X2_walker l hlT D cI cZ cL cO a n pl nw ns σ κ σ' κ' H p0 p1 (A_ a 41) (hA.A_ (by decide)) hB hz) (cwV 2 hts gL_walker_X2_walker rfl rfl rfl (by decide +kernel) ⟨by decide, by decide⟩) ⟨ax_blind, va_recv hK hPc (ci := 2) (q0 := 40) rfl rfl, fun U hU hW => ⟨rfl, hU, hPc, va_K.moved hW.alike hK, lwE.warm hW hE, (hT.warm hW).narrow hA1⟩⟩ rfl rfl hl.1 rfl (lv_room (Nat.le_of_ble_eq_true rfl)) dL_walker_5 ⟨by decide, by decide⟩) hS (fun q _ h => hA1 q h) hA1 (fun q _ h => hA1 q h) (fun E ce q9 u t H1 locs1 ht hal hK0 hBX hz hk1 hS hce hcv hcl => ?_) (fun r u t H1 locs1 ht hal hpo hB1 hz hk1 hS => ?_)
  · obtain ⟨hE9, hP1⟩ := hBX
    rw [ht] at hP1
    have hP2 := jnO hne hPo hP1 hk1
    rcases (show kTwo nw 8 p0 p1 = 1 from by have h9 := kTwo_le (n := nw) (hi := 8) (x := p0) (y := p1); omega) with hk9
    · have hE2 : E = eI := by rw [hE9, hk9]; rfl
      subst hE2
      refine vx_catch (own := RL) (name := eI) hown [] ⟨0, 10, 13, 20⟩ [] htab (fun z hz9 => nomatch hz9) (by decide) (by decide) (show (Cond.classLink RL 20 "java/lang/IndexOutOfBoundsException").before args s = true from hts _ (List.mem_of_getElem? (i := 1) rfl)) (va_Nw.use rfl (hT.1.1 eI (by decide))) hce hcv hcl ?_
      refine lv_astore (lv' := [(4, .ref q9), (0, .ref (a 40)), (1, .int p0), (2, .int p1), (3, .ref qo)]) hx hb dL_walker_13 hl (by decide) rfl (fun ls hl => ?_)
      refine lv_iconst (v := nI 1) hx hb dL_walker_15 rfl ?_
      refine li_topi (show nI 1 = nI (kTwo nw 8 p0 p1) from by rw [hk9]) ?_
      refine hEnd 16 ls H1 locs1 _ _ (κ, σ', κ') (by decide) (by decide) dL_walker_16 ?_ hS
      rw [oK_n hK0]
      exact hP2
  · obtain ⟨hk9, hr9⟩ := hpo
    subst hr9
    have hP1 : va_P D vwCl (wX cI cZ a n pl nw ns σ u.1 u.2.1 u.2.2) H1 := by rw [← ht]; exact hB1
    have hP := jnO hne hPo hP1 hk1
    have hD := va_D_map (w' := wX cI cZ a n pl nw ns σ u.1 u.2.1 u.2.2 ++ [(qo, .inl (cL, 1, .inr (.inl f)))]) hD rfl
    refine lv_i2l (v := (ifk (kTwo nw 8 p0 p1) (waT nw σ (nN p0) (nN p1))).toInt64) hx hb dL_walker_8 rfl ?_
    refine va_last hx hb hK hP hD hS 41 2 rfl rfl (vp_in_nI (by decide) (by decide)) dL_walker_9 (fun H2 locs hP hD hS => ?_)
    refine lv_goto (tgt := 17) hx hb dL_walker_10 (by decide) ?_
    refine lv_iconst (v := nI 0) hx hb dL_walker_17 rfl ?_
    refine li_topi (show nI 0 = nI (kTwo nw 8 p0 p1) from by rw [hk9]) ?_
    refine hEnd 18 ls H2 locs _ _ u (by decide) (by decide) dL_walker_18 ?_ hS
    rw [oK_0 hk9]
    exact hP
set_option maxHeartbeats 4000000 in
set_option maxRecDepth 100000 in
theorem c_L_knows (l : Launch) (hlT : l.stackTraces = false) (D : va_G) (cI cZ cL cO : ClassId) (a : Nat → Nat) (n pl nw ns : Nat) (σ κ σ' κ' : Sg) (H : Heap) (qo : Nat) (f : Nat → Int64) (p0 : Int32) (p1 : Int32) (A : Nat → Prop) (hA : okP A a 41) (hne : ∀ k, k < 41 → a k ≠ qo) (hD : va_D A (wXo cI cZ cL a n pl nw ns σ κ σ' κ' qo f)) (hB : n ≤ 10 ∧ pl ≤ 200 ∧ nw ≤ 20 ∧ ns ≤ 6) : Met l yL_knows wsL_knows ({ frames := 7, cells := 1, slots := 6, locals := 104 } : Room) (ax_P D (T4 cI cZ cL cO) (wXo cI cZ cL a n pl nw ns σ κ σ' κ' qo f) H [.ref (a 40), .int p0, .int p1, .ref qo] A) (ah_Q D (kKnow nw ns p0 p1) (fun u : S3 => wX cI cZ a n pl nw ns σ u.1 u.2.1 u.2.2 ++ [(qo, .inl (cL, 1, .inr (.inl (oK (kKnow nw ns p0 p1) (vKnow nw ns σ p0 p1) f))))]) A) 1 6 A := by
  refine ah_of (cc := cL_knows) (maxL := 5) (by decide) rfl (Nat.le_of_ble_eq_true rfl) ?_
  intro p e s m args below meth c Q ls locs hx hb hml hown hts hK hE hT hP hl hS htab hEnd
  have hl : lv_has ls 5 [(0, .ref (a 40)), (1, .int p0), (2, .int p1), (3, .ref qo)] := hl
  have hA1 : ∀ q, A_ a 41 q → A q := ak_of hA
  have hPc : va_P D vwCl (wX cI cZ a n pl nw ns σ κ σ' κ') H := hP.sub i41 rfl
  have hPo : va_at D vwCl (qo, .inl (cL, 1, .inr (.inl f))) H := hP 41 _ rfl
  refine lv_aload_n hx hb dL_knows_0 rfl (lv_at hl 3 rfl) ?_
  refine lv_iconst (v := nI 0) hx hb dL_knows_1 rfl ?_
  refine lv_aload_n hx hb dL_knows_2 rfl (lv_at hl 0 rfl) ?_
  refine lv_iload_n hx hb dL_knows_3 rfl (lv_at hl 1 rfl) ?_
  refine lv_iload_n hx hb dL_knows_4 rfl (lv_at hl 2 rfl) ?_
  refine vx_calli (vx_runV (As := [.int p0, .int p1]) (rest := [.int (nI 0), .ref qo]) ⟨hx, hb, hml, hown, hts⟩ (c_X2_knows l hlT D cI cZ cL cO a n pl nw ns σ κ σ' κ' H p0 p1 (A_ a 41) (hA.A_ (by decide)) hB) (cwV 2 hts gL_knows_X2_knows rfl rfl rfl (by decide +kernel) ⟨by decide, by decide⟩) ⟨ax_blind, va_recv hK hPc (ci := 2) (q0 := 40) rfl rfl, fun U hU hW => ⟨rfl, hU, hPc, va_K.moved hW.alike hK, lwE.warm hW hE, (hT.warm hW).narrow hA1⟩⟩ rfl rfl hl.1 rfl (lv_room (Nat.le_of_ble_eq_true rfl)) dL_knows_5 ⟨by decide, by decide⟩) hS (fun q _ h => hA1 q h) hA1 (fun q _ h => hA1 q h) (fun E ce q9 u t H1 locs1 ht hal hK0 hBX hz hk1 hS hce hcv hcl => ?_) (fun r u t H1 locs1 ht hal hpo hB1 hz hk1 hS => ?_)
  · obtain ⟨hE9, hP1⟩ := hBX
    rw [ht] at hP1
    have hP2 := jnO hne hPo hP1 hk1
    rcases (show kKnow nw ns p0 p1 = 1 from by have h9 := kKnow_le (nw := nw) (ns := ns) (x := p0) (y := p1); omega) with hk9
    · have hE2 : E = eI := by rw [hE9, hk9]; rfl
      subst hE2
      refine vx_catch (own := RL) (name := eI) hown [] ⟨0, 10, 13, 20⟩ [] htab (fun z hz9 => nomatch hz9) (by decide) (by decide) (show (Cond.classLink RL 20 "java/lang/IndexOutOfBoundsException").before args s = true from hts _ (List.mem_of_getElem? (i := 1) rfl)) (va_Nw.use rfl (hT.1.1 eI (by decide))) hce hcv hcl ?_
      refine lv_astore (lv' := [(4, .ref q9), (0, .ref (a 40)), (1, .int p0), (2, .int p1), (3, .ref qo)]) hx hb dL_knows_13 hl (by decide) rfl (fun ls hl => ?_)
      refine lv_iconst (v := nI 1) hx hb dL_knows_15 rfl ?_
      refine li_topi (show nI 1 = nI (kKnow nw ns p0 p1) from by rw [hk9]) ?_
      refine hEnd 16 ls H1 locs1 _ _ (κ, σ', κ') (by decide) (by decide) dL_knows_16 ?_ hS
      rw [oK_n hK0]
      exact hP2
  · obtain ⟨hk9, hr9⟩ := hpo
    subst hr9
    have hP1 : va_P D vwCl (wX cI cZ a n pl nw ns σ u.1 u.2.1 u.2.2) H1 := by rw [← ht]; exact hB1
    have hP := jnO hne hPo hP1 hk1
    have hD := va_D_map (w' := wX cI cZ a n pl nw ns σ u.1 u.2.1 u.2.2 ++ [(qo, .inl (cL, 1, .inr (.inl f)))]) hD rfl
    refine lv_i2l (v := (vKnow nw ns σ p0 p1).toInt64) hx hb dL_knows_8 rfl ?_
    refine va_last hx hb hK hP hD hS 41 2 rfl rfl (vp_in_nI (by decide) (by decide)) dL_knows_9 (fun H2 locs hP hD hS => ?_)
    refine lv_goto (tgt := 17) hx hb dL_knows_10 (by decide) ?_
    refine lv_iconst (v := nI 0) hx hb dL_knows_17 rfl ?_
    refine li_topi (show nI 0 = nI (kKnow nw ns p0 p1) from by rw [hk9]) ?_
    refine hEnd 18 ls H2 locs _ _ u (by decide) (by decide) dL_knows_18 ?_ hS
    rw [oK_0 hk9]
    exact hP
set_option maxHeartbeats 4000000 in
set_option maxRecDepth 100000 in
theorem c_L_song (l : Launch) (hlT : l.stackTraces = false) (D : va_G) (cI cZ cL cO : ClassId) (a : Nat → Nat) (n pl nw ns : Nat) (σ κ σ' κ' : Sg) (H : Heap) (qo : Nat) (f : Nat → Int64) (p0 : Int32) (p1 : Int32) (A : Nat → Prop) (hA : okP A a 41) (hne : ∀ k, k < 41 → a k ≠ qo) (hD : va_D A (wXo cI cZ cL a n pl nw ns σ κ σ' κ' qo f)) (hB : n ≤ 10 ∧ pl ≤ 200 ∧ nw ≤ 20 ∧ ns ≤ 6) : Met l yL_song wsL_song ({ frames := 7, cells := 1, slots := 6, locals := 104 } : Room) (ax_P D (T4 cI cZ cL cO) (wXo cI cZ cL a n pl nw ns σ κ σ' κ' qo f) H [.ref (a 40), .int p0, .int p1, .ref qo] A) (ah_Q D (kTwo ns 3 p0 p1) (fun u : S3 => wX cI cZ a n pl nw ns σ u.1 u.2.1 u.2.2 ++ [(qo, .inl (cL, 1, .inr (.inl (oK (kTwo ns 3 p0 p1) (ifk (kTwo ns 3 p0 p1) (soT nw σ (nN p0) (nN p1))) f))))]) A) 1 6 A := by
  refine ah_of (cc := cL_song) (maxL := 5) (by decide) rfl (Nat.le_of_ble_eq_true rfl) ?_
  intro p e s m args below meth c Q ls locs hx hb hml hown hts hK hE hT hP hl hS htab hEnd
  have hl : lv_has ls 5 [(0, .ref (a 40)), (1, .int p0), (2, .int p1), (3, .ref qo)] := hl
  have hA1 : ∀ q, A_ a 41 q → A q := ak_of hA
  have hPc : va_P D vwCl (wX cI cZ a n pl nw ns σ κ σ' κ') H := hP.sub i41 rfl
  have hPo : va_at D vwCl (qo, .inl (cL, 1, .inr (.inl f))) H := hP 41 _ rfl
  refine lv_aload_n hx hb dL_song_0 rfl (lv_at hl 3 rfl) ?_
  refine lv_iconst (v := nI 0) hx hb dL_song_1 rfl ?_
  refine lv_aload_n hx hb dL_song_2 rfl (lv_at hl 0 rfl) ?_
  refine lv_iload_n hx hb dL_song_3 rfl (lv_at hl 1 rfl) ?_
  refine lv_iload_n hx hb dL_song_4 rfl (lv_at hl 2 rfl) ?_
  refine vx_calli (vx_runV (As := [.int p0, .int p1]) (rest := [.int (nI 0), .ref qo]) ⟨hx, hb, hml, hown, hts⟩ (c_X2_song l hlT D cI cZ cL cO a n pl nw ns σ κ σ' κ' H p0 p1 (A_ a 41) (hA.A_ (by decide)) hB) (cwV 2 hts gL_song_X2_song rfl rfl rfl (by decide +kernel) ⟨by decide, by decide⟩) ⟨ax_blind, va_recv hK hPc (ci := 2) (q0 := 40) rfl rfl, fun U hU hW => ⟨rfl, hU, hPc, va_K.moved hW.alike hK, lwE.warm hW hE, (hT.warm hW).narrow hA1⟩⟩ rfl rfl hl.1 rfl (lv_room (Nat.le_of_ble_eq_true rfl)) dL_song_5 ⟨by decide, by decide⟩) hS (fun q _ h => hA1 q h) hA1 (fun q _ h => hA1 q h) (fun E ce q9 u t H1 locs1 ht hal hK0 hBX hz hk1 hS hce hcv hcl => ?_) (fun r u t H1 locs1 ht hal hpo hB1 hz hk1 hS => ?_)
  · obtain ⟨hE9, hP1⟩ := hBX
    rw [ht] at hP1
    have hP2 := jnO hne hPo hP1 hk1
    rcases (show kTwo ns 3 p0 p1 = 1 from by have h9 := kTwo_le (n := ns) (hi := 3) (x := p0) (y := p1); omega) with hk9
    · have hE2 : E = eI := by rw [hE9, hk9]; rfl
      subst hE2
      refine vx_catch (own := RL) (name := eI) hown [] ⟨0, 10, 13, 20⟩ [] htab (fun z hz9 => nomatch hz9) (by decide) (by decide) (show (Cond.classLink RL 20 "java/lang/IndexOutOfBoundsException").before args s = true from hts _ (List.mem_of_getElem? (i := 1) rfl)) (va_Nw.use rfl (hT.1.1 eI (by decide))) hce hcv hcl ?_
      refine lv_astore (lv' := [(4, .ref q9), (0, .ref (a 40)), (1, .int p0), (2, .int p1), (3, .ref qo)]) hx hb dL_song_13 hl (by decide) rfl (fun ls hl => ?_)
      refine lv_iconst (v := nI 1) hx hb dL_song_15 rfl ?_
      refine li_topi (show nI 1 = nI (kTwo ns 3 p0 p1) from by rw [hk9]) ?_
      refine hEnd 16 ls H1 locs1 _ _ (κ, σ', κ') (by decide) (by decide) dL_song_16 ?_ hS
      rw [oK_n hK0]
      exact hP2
  · obtain ⟨hk9, hr9⟩ := hpo
    subst hr9
    have hP1 : va_P D vwCl (wX cI cZ a n pl nw ns σ u.1 u.2.1 u.2.2) H1 := by rw [← ht]; exact hB1
    have hP := jnO hne hPo hP1 hk1
    have hD := va_D_map (w' := wX cI cZ a n pl nw ns σ u.1 u.2.1 u.2.2 ++ [(qo, .inl (cL, 1, .inr (.inl f)))]) hD rfl
    refine lv_i2l (v := (ifk (kTwo ns 3 p0 p1) (soT nw σ (nN p0) (nN p1))).toInt64) hx hb dL_song_8 rfl ?_
    refine va_last hx hb hK hP hD hS 41 2 rfl rfl (vp_in_nI (by decide) (by decide)) dL_song_9 (fun H2 locs hP hD hS => ?_)
    refine lv_goto (tgt := 17) hx hb dL_song_10 (by decide) ?_
    refine lv_iconst (v := nI 0) hx hb dL_song_17 rfl ?_
    refine li_topi (show nI 0 = nI (kTwo ns 3 p0 p1) from by rw [hk9]) ?_
    refine hEnd 18 ls H2 locs _ _ u (by decide) (by decide) dL_song_18 ?_ hS
    rw [oK_0 hk9]
    exact hP
set_option maxHeartbeats 4000000 in
set_option maxRecDepth 100000 in
theorem c_L_pass (l : Launch) (hlT : l.stackTraces = false) (D : va_G) (cI cZ cL cO : ClassId) (a : Nat → Nat) (n pl nw ns : Nat) (σ κ σ' κ' : Sg) (H : Heap) (qo : Nat) (f : Nat → Int64) (p0 : Int32) (A : Nat → Prop) (hA : okP A a 41) (hne : ∀ k, k < 41 → a k ≠ qo) (hD : va_D A (wXo cI cZ cL a n pl nw ns σ κ σ' κ' qo f)) (hB : n ≤ 10 ∧ pl ≤ 200 ∧ nw ≤ 20 ∧ ns ≤ 6) (t : Nat) (hI : INV n pl nw ns t σ) (ht : t < 2 ^ 30) : Met l yL_pass wsL_pass ({ frames := 7, cells := 1, slots := 6, locals := 157 } : Room) (ax_P D (T4 cI cZ cL cO) (wXo cI cZ cL a n pl nw ns σ κ σ' κ' qo f) H [.ref (a 40), .int p0, .ref qo] A) (ah_Q D (kPass n p0) (fun u : S3 => wX cI cZ a n pl nw ns (sPassT n pl nw ns σ p0) u.1 u.2.1 u.2.2 ++ [(qo, .inl (cL, 1, .inr (.inl (oK (kPass n p0) (vPassT n pl nw ns σ p0) f))))]) A) 1 6 A := by
  refine ah_of (cc := cL_pass) (maxL := 4) (by decide) rfl (Nat.le_of_ble_eq_true rfl) ?_
  intro p e s m args below meth c Q ls locs hx hb hml hown hts hK hE hT hP hl hS htab hEnd
  have hl : lv_has ls 4 [(0, .ref (a 40)), (1, .int p0), (2, .ref qo)] := hl
  have hA1 : ∀ q, A_ a 41 q → A q := ak_of hA
  have hPc : va_P D vwCl (wX cI cZ a n pl nw ns σ κ σ' κ') H := hP.sub i41 rfl
  have hPo : va_at D vwCl (qo, .inl (cL, 1, .inr (.inl f))) H := hP 41 _ rfl
  refine lv_aload_n hx hb dL_pass_0 rfl (lv_at hl 2 rfl) ?_
  refine lv_iconst (v := nI 0) hx hb dL_pass_1 rfl ?_
  refine lv_aload_n hx hb dL_pass_2 rfl (lv_at hl 0 rfl) ?_
  refine lv_iload_n hx hb dL_pass_3 rfl (lv_at hl 1 rfl) ?_
  refine vx_calli (vx_runV (As := [.int p0]) (rest := [.int (nI 0), .ref qo]) ⟨hx, hb, hml, hown, hts⟩ (c_X2_pass l hlT D cI cZ cL cO a n pl nw ns σ κ σ' κ' H p0 (A_ a 41) (hA.A_ (by decide)) hB t hI ht) (cwV 1 hts gL_pass_X2_pass rfl rfl rfl (by decide +kernel) ⟨by decide, by decide⟩) ⟨ax_blind, va_recv hK hPc (ci := 2) (q0 := 40) rfl rfl, fun U hU hW => ⟨rfl, hU, hPc, va_K.moved hW.alike hK, lwE.warm hW hE, (hT.warm hW).narrow hA1⟩⟩ rfl rfl hl.1 rfl (lv_room (Nat.le_of_ble_eq_true rfl)) dL_pass_4 ⟨by decide, by decide⟩) hS (fun q _ h => hA1 q h) hA1 (fun q _ h => hA1 q h) (fun E ce q9 u t H1 locs1 ht hal hK0 hBX hz hk1 hS hce hcv hcl => ?_) (fun r u t H1 locs1 ht hal hpo hB1 hz hk1 hS => ?_)
  · obtain ⟨hE9, hP1⟩ := hBX
    rw [ht] at hP1
    have hP2 := jnO hne hPo hP1 hk1
    rcases (show kPass n p0 = 1 ∨ kPass n p0 = 2 from by have h9 := kPass_le (n := n) (x := p0); omega) with hk9 | hk9
    · have hE2 : E = eA := by rw [hE9, hk9]; rfl
      subst hE2
      refine vx_catch (own := RL) (name := eA) hown [] ⟨0, 9, 12, 13⟩ [⟨0, 9, 15, 15⟩] htab (fun z hz9 => nomatch hz9) (by decide) (by decide) (show (Cond.classLink RL 13 "java/lang/IllegalArgumentException").before args s = true from hts _ (List.mem_of_getElem? (i := 1) rfl)) (va_Nw.use rfl (hT.1.1 eA (by decide))) hce hcv hcl ?_
      refine lv_astore_n (lv' := [(3, .ref q9), (0, .ref (a 40)), (1, .int p0), (2, .ref qo)]) hx hb dL_pass_12 rfl hl (by decide) rfl (fun ls hl => ?_)
      refine lv_iconst (v := nI 1) hx hb dL_pass_13 rfl ?_
      refine li_topi (show nI 1 = nI (kPass n p0) from by rw [hk9]) ?_
      refine hEnd 14 ls H1 locs1 _ _ (κ, σ', κ') (by decide) (by decide) dL_pass_14 ?_ hS
      rw [oK_n hK0]
      show va_P D vwCl (wX cI cZ a n pl nw ns (sPassT n pl nw ns σ p0) κ σ' κ' ++ [(qo, .inl (cL, 1, .inr (.inl f)))]) H1
      rw [show sPassT n pl nw ns σ p0 = σ from if_neg hK0]
      exact hP2
    · have hE2 : E = eS := by rw [hE9, hk9]; rfl
      subst hE2
      refine vx_catch (own := RL) (name := eS) hown [⟨0, 9, 12, 13⟩] ⟨0, 9, 15, 15⟩ [] htab (fun z hz9 => by
        rcases (show z = (⟨0, 9, 12, 13⟩ : ExceptionTableEntry) from by simpa using hz9) with rfl
        · exact Or.inr ⟨by decide, "java/lang/IllegalArgumentException", (show (Cond.classLink RL 13 "java/lang/IllegalArgumentException").before args s = true from hts _ (List.mem_of_getElem? (i := 1) rfl)), hT.1.2.2.1 eS (by decide) eA (by decide) (by decide)⟩) (by decide) (by decide) (show (Cond.classLink RL 15 "java/lang/IllegalStateException").before args s = true from hts _ (List.mem_of_getElem? (i := 2) rfl)) (va_Nw.use rfl (hT.1.1 eS (by decide))) hce hcv hcl ?_
      refine lv_astore_n (lv' := [(3, .ref q9), (0, .ref (a 40)), (1, .int p0), (2, .ref qo)]) hx hb dL_pass_15 rfl hl (by decide) rfl (fun ls hl => ?_)
      refine lv_iconst (v := nI 2) hx hb dL_pass_16 rfl ?_
      refine li_topi (show nI 2 = nI (kPass n p0) from by rw [hk9]) ?_
      refine hEnd 17 ls H1 locs1 _ _ (κ, σ', κ') (by decide) (by decide) dL_pass_17 ?_ hS
      rw [oK_n hK0]
      show va_P D vwCl (wX cI cZ a n pl nw ns (sPassT n pl nw ns σ p0) κ σ' κ' ++ [(qo, .inl (cL, 1, .inr (.inl f)))]) H1
      rw [show sPassT n pl nw ns σ p0 = σ from if_neg hK0]
      exact hP2
  · obtain ⟨hk9, hr9⟩ := hpo
    subst hr9
    have hP1 : va_P D vwCl (wX cI cZ a n pl nw ns (sPassT n pl nw ns σ p0) u.1 u.2.1 u.2.2) H1 := by rw [← ht]; exact hB1
    have hP := jnO hne hPo hP1 hk1
    have hD := va_D_map (w' := wX cI cZ a n pl nw ns (sPassT n pl nw ns σ p0) u.1 u.2.1 u.2.2 ++ [(qo, .inl (cL, 1, .inr (.inl f)))]) hD rfl
    refine lv_i2l (v := (vPassT n pl nw ns σ p0).toInt64) hx hb dL_pass_7 rfl ?_
    refine va_last hx hb hK hP hD hS 41 2 rfl rfl (vp_in_nI (by decide) (by decide)) dL_pass_8 (fun H2 locs hP hD hS => ?_)
    refine lv_goto (tgt := 18) hx hb dL_pass_9 (by decide) ?_
    refine lv_iconst (v := nI 0) hx hb dL_pass_18 rfl ?_
    refine li_topi (show nI 0 = nI (kPass n p0) from by rw [hk9]) ?_
    refine hEnd 19 ls H2 locs _ _ u (by decide) (by decide) dL_pass_19 ?_ hS
    rw [oK_0 hk9]
    exact hP
set_option maxHeartbeats 4000000 in
set_option maxRecDepth 100000 in
theorem c_L_count (l : Launch) (hlT : l.stackTraces = false) (D : va_G) (cI cZ cL cO : ClassId) (a : Nat → Nat) (n pl nw ns : Nat) (σ κ σ' κ' : Sg) (H : Heap) (qo : Nat) (f : Nat → Int64) (p0 : Int32) (A : Nat → Prop) (hA : okP A a 41) (hne : ∀ k, k < 41 → a k ≠ qo) (hD : va_D A (wXo cI cZ cL a n pl nw ns σ κ σ' κ' qo f)) (hB : n ≤ 10 ∧ pl ≤ 200 ∧ nw ≤ 20 ∧ ns ≤ 6) : Met l yL_count wsL_count ({ frames := 7, cells := 1, slots := 6, locals := 103 } : Room) (ax_P D (T4 cI cZ cL cO) (wXo cI cZ cL a n pl nw ns σ κ σ' κ' qo f) H [.ref (a 40), .int p0, .ref qo] A) (ah_Q D (kCount p0) (fun u : S3 => wX cI cZ a n pl nw ns σ u.1 u.2.1 u.2.2 ++ [(qo, .inl (cL, 1, .inr (.inl (oK (kCount p0) (ifk (kCount p0) (alT n pl nw ns σ (nN p0))) f))))]) A) 1 6 A := by
  refine ah_of (cc := cL_count) (maxL := 4) (by decide) rfl (Nat.le_of_ble_eq_true rfl) ?_
  intro p e s m args below meth c Q ls locs hx hb hml hown hts hK hE hT hP hl hS htab hEnd
  have hl : lv_has ls 4 [(0, .ref (a 40)), (1, .int p0), (2, .ref qo)] := hl
  have hA1 : ∀ q, A_ a 41 q → A q := ak_of hA
  have hPc : va_P D vwCl (wX cI cZ a n pl nw ns σ κ σ' κ') H := hP.sub i41 rfl
  have hPo : va_at D vwCl (qo, .inl (cL, 1, .inr (.inl f))) H := hP 41 _ rfl
  refine lv_aload_n hx hb dL_count_0 rfl (lv_at hl 2 rfl) ?_
  refine lv_iconst (v := nI 0) hx hb dL_count_1 rfl ?_
  refine lv_aload_n hx hb dL_count_2 rfl (lv_at hl 0 rfl) ?_
  refine lv_iload_n hx hb dL_count_3 rfl (lv_at hl 1 rfl) ?_
  refine vx_calli (vx_runV (As := [.int p0]) (rest := [.int (nI 0), .ref qo]) ⟨hx, hb, hml, hown, hts⟩ (c_X2_count l hlT D cI cZ cL cO a n pl nw ns σ κ σ' κ' H p0 (A_ a 41) (hA.A_ (by decide)) hB) (cwV 1 hts gL_count_X2_count rfl rfl rfl (by decide +kernel) ⟨by decide, by decide⟩) ⟨ax_blind, va_recv hK hPc (ci := 2) (q0 := 40) rfl rfl, fun U hU hW => ⟨rfl, hU, hPc, va_K.moved hW.alike hK, lwE.warm hW hE, (hT.warm hW).narrow hA1⟩⟩ rfl rfl hl.1 rfl (lv_room (Nat.le_of_ble_eq_true rfl)) dL_count_4 ⟨by decide, by decide⟩) hS (fun q _ h => hA1 q h) hA1 (fun q _ h => hA1 q h) (fun E ce q9 u t H1 locs1 ht hal hK0 hBX hz hk1 hS hce hcv hcl => ?_) (fun r u t H1 locs1 ht hal hpo hB1 hz hk1 hS => ?_)
  · obtain ⟨hE9, hP1⟩ := hBX
    rw [ht] at hP1
    have hP2 := jnO hne hPo hP1 hk1
    rcases (show kCount p0 = 1 from by have h9 := kCount_le (x := p0); omega) with hk9
    · have hE2 : E = eI := by rw [hE9, hk9]; rfl
      subst hE2
      refine vx_catch (own := RL) (name := eI) hown [] ⟨0, 9, 12, 20⟩ [] htab (fun z hz9 => nomatch hz9) (by decide) (by decide) (show (Cond.classLink RL 20 "java/lang/IndexOutOfBoundsException").before args s = true from hts _ (List.mem_of_getElem? (i := 1) rfl)) (va_Nw.use rfl (hT.1.1 eI (by decide))) hce hcv hcl ?_
      refine lv_astore_n (lv' := [(3, .ref q9), (0, .ref (a 40)), (1, .int p0), (2, .ref qo)]) hx hb dL_count_12 rfl hl (by decide) rfl (fun ls hl => ?_)
      refine lv_iconst (v := nI 1) hx hb dL_count_13 rfl ?_
      refine li_topi (show nI 1 = nI (kCount p0) from by rw [hk9]) ?_
      refine hEnd 14 ls H1 locs1 _ _ (κ, σ', κ') (by decide) (by decide) dL_count_14 ?_ hS
      rw [oK_n hK0]
      exact hP2
  · obtain ⟨hk9, hr9⟩ := hpo
    subst hr9
    have hP1 : va_P D vwCl (wX cI cZ a n pl nw ns σ u.1 u.2.1 u.2.2) H1 := by rw [← ht]; exact hB1
    have hP := jnO hne hPo hP1 hk1
    have hD := va_D_map (w' := wX cI cZ a n pl nw ns σ u.1 u.2.1 u.2.2 ++ [(qo, .inl (cL, 1, .inr (.inl f)))]) hD rfl
    refine lv_i2l (v := (ifk (kCount p0) (alT n pl nw ns σ (nN p0))).toInt64) hx hb dL_count_7 rfl ?_
    refine va_last hx hb hK hP hD hS 41 2 rfl rfl (vp_in_nI (by decide) (by decide)) dL_count_8 (fun H2 locs hP hD hS => ?_)
    refine lv_goto (tgt := 15) hx hb dL_count_9 (by decide) ?_
    refine lv_iconst (v := nI 0) hx hb dL_count_15 rfl ?_
    refine li_topi (show nI 0 = nI (kCount p0) from by rw [hk9]) ?_
    refine hEnd 16 ls H2 locs _ _ u (by decide) (by decide) dL_count_16 ?_ hS
    rw [oK_0 hk9]
    exact hP
set_option maxHeartbeats 4000000 in
set_option maxRecDepth 100000 in
theorem c_L_foresee (l : Launch) (hlT : l.stackTraces = false) (D : va_G) (cI cZ cL cO : ClassId) (a : Nat → Nat) (n pl nw ns : Nat) (σ κ σ' κ' : Sg) (H : Heap) (qo : Nat) (f : Nat → Int64) (p0 : Int32) (p1 : Int32) (A : Nat → Prop) (hA : okP A a 41) (hne : ∀ k, k < 41 → a k ≠ qo) (hD : va_D A (wXo cI cZ cL a n pl nw ns σ κ σ' κ' qo f)) (hB : n ≤ 10 ∧ pl ≤ 200 ∧ nw ≤ 20 ∧ ns ≤ 6) (t : Nat) (hI : INV n pl nw ns t σ) (ht : t < 2 ^ 30) : Met l yL_foresee wsL_foresee ({ frames := 7, cells := 1, slots := 6, locals := 157 } : Room) (ax_P D (T4 cI cZ cL cO) (wXo cI cZ cL a n pl nw ns σ κ σ' κ' qo f) H [.ref (a 40), .int p0, .int p1, .ref qo] A) (ah_Q D (kFor n p0 p1) (fun u : S3 => wX cI cZ a n pl nw ns σ u.1 u.2.1 u.2.2 ++ [(qo, .inl (cL, 1, .inr (.inl (oK (kFor n p0 p1) (vFor n pl nw ns σ p0 p1) f))))]) A) 1 6 A := by
  refine ah_of (cc := cL_foresee) (maxL := 5) (by decide) rfl (Nat.le_of_ble_eq_true rfl) ?_
  intro p e s m args below meth c Q ls locs hx hb hml hown hts hK hE hT hP hl hS htab hEnd
  have hl : lv_has ls 5 [(0, .ref (a 40)), (1, .int p0), (2, .int p1), (3, .ref qo)] := hl
  have hA1 : ∀ q, A_ a 41 q → A q := ak_of hA
  have hPc : va_P D vwCl (wX cI cZ a n pl nw ns σ κ σ' κ') H := hP.sub i41 rfl
  have hPo : va_at D vwCl (qo, .inl (cL, 1, .inr (.inl f))) H := hP 41 _ rfl
  refine lv_aload_n hx hb dL_foresee_0 rfl (lv_at hl 3 rfl) ?_
  refine lv_iconst (v := nI 0) hx hb dL_foresee_1 rfl ?_
  refine lv_aload_n hx hb dL_foresee_2 rfl (lv_at hl 0 rfl) ?_
  refine lv_iload_n hx hb dL_foresee_3 rfl (lv_at hl 1 rfl) ?_
  refine lv_iload_n hx hb dL_foresee_4 rfl (lv_at hl 2 rfl) ?_
  refine vx_calli (vx_runV (As := [.int p0, .int p1]) (rest := [.int (nI 0), .ref qo]) ⟨hx, hb, hml, hown, hts⟩ (c_X2_foresee l hlT D cI cZ cL cO a n pl nw ns σ κ σ' κ' H p0 p1 (A_ a 41) (hA.A_ (by decide)) hB t hI ht) (cwV 2 hts gL_foresee_X2_foresee rfl rfl rfl (by decide +kernel) ⟨by decide, by decide⟩) ⟨ax_blind, va_recv hK hPc (ci := 2) (q0 := 40) rfl rfl, fun U hU hW => ⟨rfl, hU, hPc, va_K.moved hW.alike hK, lwE.warm hW hE, (hT.warm hW).narrow hA1⟩⟩ rfl rfl hl.1 rfl (lv_room (Nat.le_of_ble_eq_true rfl)) dL_foresee_5 ⟨by decide, by decide⟩) hS (fun q _ h => hA1 q h) hA1 (fun q _ h => hA1 q h) (fun E ce q9 u t H1 locs1 ht hal hK0 hBX hz hk1 hS hce hcv hcl => ?_) (fun r u t H1 locs1 ht hal hpo hB1 hz hk1 hS => ?_)
  · obtain ⟨hE9, hP1⟩ := hBX
    rw [ht] at hP1
    have hP2 := jnO hne hPo hP1 hk1
    rcases (show kFor n p0 p1 = 1 ∨ kFor n p0 p1 = 2 ∨ kFor n p0 p1 = 3 from by have h9 := kFor_le (n := n) (x := p0) (y := p1); omega) with hk9 | hk9 | hk9
    · have hE2 : E = eA := by rw [hE9, hk9]; rfl
      subst hE2
      refine vx_catch (own := RL) (name := eA) hown [] ⟨0, 10, 13, 13⟩ [⟨0, 10, 17, 20⟩, ⟨0, 10, 21, 15⟩] htab (fun z hz9 => nomatch hz9) (by decide) (by decide) (show (Cond.classLink RL 13 "java/lang/IllegalArgumentException").before args s = true from hts _ (List.mem_of_getElem? (i := 1) rfl)) (va_Nw.use rfl (hT.1.1 eA (by decide))) hce hcv hcl ?_
      refine lv_astore (lv' := [(4, .ref q9), (0, .ref (a 40)), (1, .int p0), (2, .int p1), (3, .ref qo)]) hx hb dL_foresee_13 hl (by decide) rfl (fun ls hl => ?_)
      refine lv_iconst (v := nI 1) hx hb dL_foresee_15 rfl ?_
      refine li_topi (show nI 1 = nI (kFor n p0 p1) from by rw [hk9]) ?_
      refine hEnd 16 ls H1 locs1 _ _ (κ, σ', κ') (by decide) (by decide) dL_foresee_16 ?_ hS
      rw [oK_n hK0]
      exact hP2
    · have hE2 : E = eI := by rw [hE9, hk9]; rfl
      subst hE2
      refine vx_catch (own := RL) (name := eI) hown [⟨0, 10, 13, 13⟩] ⟨0, 10, 17, 20⟩ [⟨0, 10, 21, 15⟩] htab (fun z hz9 => by
        rcases (show z = (⟨0, 10, 13, 13⟩ : ExceptionTableEntry) from by simpa using hz9) with rfl
        · exact Or.inr ⟨by decide, "java/lang/IllegalArgumentException", (show (Cond.classLink RL 13 "java/lang/IllegalArgumentException").before args s = true from hts _ (List.mem_of_getElem? (i := 1) rfl)), hT.1.2.2.1 eI (by decide) eA (by decide) (by decide)⟩) (by decide) (by decide) (show (Cond.classLink RL 20 "java/lang/IndexOutOfBoundsException").before args s = true from hts _ (List.mem_of_getElem? (i := 2) rfl)) (va_Nw.use rfl (hT.1.1 eI (by decide))) hce hcv hcl ?_
      refine lv_astore (lv' := [(4, .ref q9), (0, .ref (a 40)), (1, .int p0), (2, .int p1), (3, .ref qo)]) hx hb dL_foresee_17 hl (by decide) rfl (fun ls hl => ?_)
      refine lv_iconst (v := nI 2) hx hb dL_foresee_19 rfl ?_
      refine li_topi (show nI 2 = nI (kFor n p0 p1) from by rw [hk9]) ?_
      refine hEnd 20 ls H1 locs1 _ _ (κ, σ', κ') (by decide) (by decide) dL_foresee_20 ?_ hS
      rw [oK_n hK0]
      exact hP2
    · have hE2 : E = eS := by rw [hE9, hk9]; rfl
      subst hE2
      refine vx_catch (own := RL) (name := eS) hown [⟨0, 10, 13, 13⟩, ⟨0, 10, 17, 20⟩] ⟨0, 10, 21, 15⟩ [] htab (fun z hz9 => by
        rcases (show z = (⟨0, 10, 13, 13⟩ : ExceptionTableEntry) ∨ z = (⟨0, 10, 17, 20⟩ : ExceptionTableEntry) from by simpa using hz9) with rfl | rfl
        · exact Or.inr ⟨by decide, "java/lang/IllegalArgumentException", (show (Cond.classLink RL 13 "java/lang/IllegalArgumentException").before args s = true from hts _ (List.mem_of_getElem? (i := 1) rfl)), hT.1.2.2.1 eS (by decide) eA (by decide) (by decide)⟩
        · exact Or.inr ⟨by decide, "java/lang/IndexOutOfBoundsException", (show (Cond.classLink RL 20 "java/lang/IndexOutOfBoundsException").before args s = true from hts _ (List.mem_of_getElem? (i := 2) rfl)), hT.1.2.2.1 eS (by decide) eI (by decide) (by decide)⟩) (by decide) (by decide) (show (Cond.classLink RL 15 "java/lang/IllegalStateException").before args s = true from hts _ (List.mem_of_getElem? (i := 3) rfl)) (va_Nw.use rfl (hT.1.1 eS (by decide))) hce hcv hcl ?_
      refine lv_astore (lv' := [(4, .ref q9), (0, .ref (a 40)), (1, .int p0), (2, .int p1), (3, .ref qo)]) hx hb dL_foresee_21 hl (by decide) rfl (fun ls hl => ?_)
      refine lv_iconst (v := nI 3) hx hb dL_foresee_23 rfl ?_
      refine li_topi (show nI 3 = nI (kFor n p0 p1) from by rw [hk9]) ?_
      refine hEnd 24 ls H1 locs1 _ _ (κ, σ', κ') (by decide) (by decide) dL_foresee_24 ?_ hS
      rw [oK_n hK0]
      exact hP2
  · obtain ⟨hk9, hr9⟩ := hpo
    subst hr9
    have hP1 : va_P D vwCl (wX cI cZ a n pl nw ns σ u.1 u.2.1 u.2.2) H1 := by rw [← ht]; exact hB1
    have hP := jnO hne hPo hP1 hk1
    have hD := va_D_map (w' := wX cI cZ a n pl nw ns σ u.1 u.2.1 u.2.2 ++ [(qo, .inl (cL, 1, .inr (.inl f)))]) hD rfl
    refine lv_i2l (v := (vFor n pl nw ns σ p0 p1).toInt64) hx hb dL_foresee_8 rfl ?_
    refine va_last hx hb hK hP hD hS 41 2 rfl rfl (vp_in_nI (by decide) (by decide)) dL_foresee_9 (fun H2 locs hP hD hS => ?_)
    refine lv_goto (tgt := 25) hx hb dL_foresee_10 (by decide) ?_
    refine lv_iconst (v := nI 0) hx hb dL_foresee_25 rfl ?_
    refine li_topi (show nI 0 = nI (kFor n p0 p1) from by rw [hk9]) ?_
    refine hEnd 26 ls H2 locs _ _ u (by decide) (by decide) dL_foresee_26 ?_ hS
    rw [oK_0 hk9]
    exact hP
set_option maxHeartbeats 4000000 in
set_option maxRecDepth 100000 in
theorem c_L_home (l : Launch) (hlT : l.stackTraces = false) (D : va_G) (cI cZ cL cO : ClassId) (a : Nat → Nat) (n pl nw ns : Nat) (σ κ σ' κ' : Sg) (H : Heap) (qo : Nat) (f : Nat → Int64) (p0 : Int32) (A : Nat → Prop) (hA : okP A a 41) (hne : ∀ k, k < 41 → a k ≠ qo) (hD : va_D A (wXo cI cZ cL a n pl nw ns σ κ σ' κ' qo f)) (hB : n ≤ 10 ∧ pl ≤ 200 ∧ nw ≤ 20 ∧ ns ≤ 6) (t : Nat) (hI : INV n pl nw ns t σ) (ht : t < 2 ^ 30) : Met l yL_home wsL_home ({ frames := 7, cells := 1, slots := 6, locals := 135 } : Room) (ax_P D (T4 cI cZ cL cO) (wXo cI cZ cL a n pl nw ns σ κ σ' κ' qo f) H [.ref (a 40), .int p0, .ref qo] A) (ah_Q D (kHome nw p0) (fun u : S3 => wX cI cZ a n pl nw ns σ u.1 u.2.1 u.2.2 ++ [(qo, .inl (cL, 1, .inr (.inl (oK (kHome nw p0) (vHome n pl nw ns σ p0) f))))]) A) 1 6 A := by
  refine ah_of (cc := cL_home) (maxL := 4) (by decide) rfl (Nat.le_of_ble_eq_true rfl) ?_
  intro p e s m args below meth c Q ls locs hx hb hml hown hts hK hE hT hP hl hS htab hEnd
  have hl : lv_has ls 4 [(0, .ref (a 40)), (1, .int p0), (2, .ref qo)] := hl
  have hA1 : ∀ q, A_ a 41 q → A q := ak_of hA
  have hPc : va_P D vwCl (wX cI cZ a n pl nw ns σ κ σ' κ') H := hP.sub i41 rfl
  have hPo : va_at D vwCl (qo, .inl (cL, 1, .inr (.inl f))) H := hP 41 _ rfl
  refine lv_aload_n hx hb dL_home_0 rfl (lv_at hl 2 rfl) ?_
  refine lv_iconst (v := nI 0) hx hb dL_home_1 rfl ?_
  refine lv_aload_n hx hb dL_home_2 rfl (lv_at hl 0 rfl) ?_
  refine lv_iload_n hx hb dL_home_3 rfl (lv_at hl 1 rfl) ?_
  refine vx_calli (vx_runV (As := [.int p0]) (rest := [.int (nI 0), .ref qo]) ⟨hx, hb, hml, hown, hts⟩ (c_X2_home l hlT D cI cZ cL cO a n pl nw ns σ κ σ' κ' H p0 (A_ a 41) (hA.A_ (by decide)) hB t hI ht) (cwV 1 hts gL_home_X2_home rfl rfl rfl (by decide +kernel) ⟨by decide, by decide⟩) ⟨ax_blind, va_recv hK hPc (ci := 2) (q0 := 40) rfl rfl, fun U hU hW => ⟨rfl, hU, hPc, va_K.moved hW.alike hK, lwE.warm hW hE, (hT.warm hW).narrow hA1⟩⟩ rfl rfl hl.1 rfl (lv_room (Nat.le_of_ble_eq_true rfl)) dL_home_4 ⟨by decide, by decide⟩) hS (fun q _ h => hA1 q h) hA1 (fun q _ h => hA1 q h) (fun E ce q9 u t H1 locs1 ht hal hK0 hBX hz hk1 hS hce hcv hcl => ?_) (fun r u t H1 locs1 ht hal hpo hB1 hz hk1 hS => ?_)
  · obtain ⟨hE9, hP1⟩ := hBX
    rw [ht] at hP1
    have hP2 := jnO hne hPo hP1 hk1
    rcases (show kHome nw p0 = 1 from by have h9 := kHome_le (nw := nw) (x := p0); omega) with hk9
    · have hE2 : E = eI := by rw [hE9, hk9]; rfl
      subst hE2
      refine vx_catch (own := RL) (name := eI) hown [] ⟨0, 9, 12, 20⟩ [] htab (fun z hz9 => nomatch hz9) (by decide) (by decide) (show (Cond.classLink RL 20 "java/lang/IndexOutOfBoundsException").before args s = true from hts _ (List.mem_of_getElem? (i := 1) rfl)) (va_Nw.use rfl (hT.1.1 eI (by decide))) hce hcv hcl ?_
      refine lv_astore_n (lv' := [(3, .ref q9), (0, .ref (a 40)), (1, .int p0), (2, .ref qo)]) hx hb dL_home_12 rfl hl (by decide) rfl (fun ls hl => ?_)
      refine lv_iconst (v := nI 1) hx hb dL_home_13 rfl ?_
      refine li_topi (show nI 1 = nI (kHome nw p0) from by rw [hk9]) ?_
      refine hEnd 14 ls H1 locs1 _ _ (κ, σ', κ') (by decide) (by decide) dL_home_14 ?_ hS
      rw [oK_n hK0]
      exact hP2
  · obtain ⟨hk9, hr9⟩ := hpo
    subst hr9
    have hP1 : va_P D vwCl (wX cI cZ a n pl nw ns σ u.1 u.2.1 u.2.2) H1 := by rw [← ht]; exact hB1
    have hP := jnO hne hPo hP1 hk1
    have hD := va_D_map (w' := wX cI cZ a n pl nw ns σ u.1 u.2.1 u.2.2 ++ [(qo, .inl (cL, 1, .inr (.inl f)))]) hD rfl
    refine lv_i2l (v := (vHome n pl nw ns σ p0).toInt64) hx hb dL_home_7 rfl ?_
    refine va_last hx hb hK hP hD hS 41 2 rfl rfl (vp_in_nI (by decide) (by decide)) dL_home_8 (fun H2 locs hP hD hS => ?_)
    refine lv_goto (tgt := 15) hx hb dL_home_9 (by decide) ?_
    refine lv_iconst (v := nI 0) hx hb dL_home_15 rfl ?_
    refine li_topi (show nI 0 = nI (kHome nw p0) from by rw [hk9]) ?_
    refine hEnd 16 ls H2 locs _ _ u (by decide) (by decide) dL_home_16 ?_ hS
    rw [oK_0 hk9]
    exact hP
set_option maxHeartbeats 4000000 in
set_option maxRecDepth 100000 in
theorem c_L_hears (l : Launch) (hlT : l.stackTraces = false) (D : va_G) (cI cZ cL cO : ClassId) (a : Nat → Nat) (n pl nw ns : Nat) (σ κ σ' κ' : Sg) (H : Heap) (qo : Nat) (f : Nat → Int64) (p0 : Int32) (p1 : Int32) (A : Nat → Prop) (hA : okP A a 41) (hne : ∀ k, k < 41 → a k ≠ qo) (hD : va_D A (wXo cI cZ cL a n pl nw ns σ κ σ' κ' qo f)) (hB : n ≤ 10 ∧ pl ≤ 200 ∧ nw ≤ 20 ∧ ns ≤ 6) (t : Nat) (hI : INV n pl nw ns t σ) (ht : t < 2 ^ 30) : Met l yL_hears wsL_hears ({ frames := 7, cells := 1, slots := 6, locals := 137 } : Room) (ax_P D (T4 cI cZ cL cO) (wXo cI cZ cL a n pl nw ns σ κ σ' κ' qo f) H [.ref (a 40), .int p0, .int p1, .ref qo] A) (ah_Q D (kKnow nw ns p0 p1) (fun u : S3 => wX cI cZ a n pl nw ns σ u.1 u.2.1 u.2.2 ++ [(qo, .inl (cL, 1, .inr (.inl (oK (kKnow nw ns p0 p1) (vHears n pl nw ns σ p0 p1) f))))]) A) 1 6 A := by
  refine ah_of (cc := cL_hears) (maxL := 5) (by decide) rfl (Nat.le_of_ble_eq_true rfl) ?_
  intro p e s m args below meth c Q ls locs hx hb hml hown hts hK hE hT hP hl hS htab hEnd
  have hl : lv_has ls 5 [(0, .ref (a 40)), (1, .int p0), (2, .int p1), (3, .ref qo)] := hl
  have hA1 : ∀ q, A_ a 41 q → A q := ak_of hA
  have hPc : va_P D vwCl (wX cI cZ a n pl nw ns σ κ σ' κ') H := hP.sub i41 rfl
  have hPo : va_at D vwCl (qo, .inl (cL, 1, .inr (.inl f))) H := hP 41 _ rfl
  refine lv_aload_n hx hb dL_hears_0 rfl (lv_at hl 3 rfl) ?_
  refine lv_iconst (v := nI 0) hx hb dL_hears_1 rfl ?_
  refine lv_aload_n hx hb dL_hears_2 rfl (lv_at hl 0 rfl) ?_
  refine lv_iload_n hx hb dL_hears_3 rfl (lv_at hl 1 rfl) ?_
  refine lv_iload_n hx hb dL_hears_4 rfl (lv_at hl 2 rfl) ?_
  refine vx_calli (vx_runV (As := [.int p0, .int p1]) (rest := [.int (nI 0), .ref qo]) ⟨hx, hb, hml, hown, hts⟩ (c_X2_hears l hlT D cI cZ cL cO a n pl nw ns σ κ σ' κ' H p0 p1 (A_ a 41) (hA.A_ (by decide)) hB t hI ht) (cwV 2 hts gL_hears_X2_hears rfl rfl rfl (by decide +kernel) ⟨by decide, by decide⟩) ⟨ax_blind, va_recv hK hPc (ci := 2) (q0 := 40) rfl rfl, fun U hU hW => ⟨rfl, hU, hPc, va_K.moved hW.alike hK, lwE.warm hW hE, (hT.warm hW).narrow hA1⟩⟩ rfl rfl hl.1 rfl (lv_room (Nat.le_of_ble_eq_true rfl)) dL_hears_5 ⟨by decide, by decide⟩) hS (fun q _ h => hA1 q h) hA1 (fun q _ h => hA1 q h) (fun E ce q9 u t H1 locs1 ht hal hK0 hBX hz hk1 hS hce hcv hcl => ?_) (fun r u t H1 locs1 ht hal hpo hB1 hz hk1 hS => ?_)
  · obtain ⟨hE9, hP1⟩ := hBX
    rw [ht] at hP1
    have hP2 := jnO hne hPo hP1 hk1
    rcases (show kKnow nw ns p0 p1 = 1 from by have h9 := kKnow_le (nw := nw) (ns := ns) (x := p0) (y := p1); omega) with hk9
    · have hE2 : E = eI := by rw [hE9, hk9]; rfl
      subst hE2
      refine vx_catch (own := RL) (name := eI) hown [] ⟨0, 10, 13, 20⟩ [] htab (fun z hz9 => nomatch hz9) (by decide) (by decide) (show (Cond.classLink RL 20 "java/lang/IndexOutOfBoundsException").before args s = true from hts _ (List.mem_of_getElem? (i := 1) rfl)) (va_Nw.use rfl (hT.1.1 eI (by decide))) hce hcv hcl ?_
      refine lv_astore (lv' := [(4, .ref q9), (0, .ref (a 40)), (1, .int p0), (2, .int p1), (3, .ref qo)]) hx hb dL_hears_13 hl (by decide) rfl (fun ls hl => ?_)
      refine lv_iconst (v := nI 1) hx hb dL_hears_15 rfl ?_
      refine li_topi (show nI 1 = nI (kKnow nw ns p0 p1) from by rw [hk9]) ?_
      refine hEnd 16 ls H1 locs1 _ _ (κ, σ', κ') (by decide) (by decide) dL_hears_16 ?_ hS
      rw [oK_n hK0]
      exact hP2
  · obtain ⟨hk9, hr9⟩ := hpo
    subst hr9
    have hP1 : va_P D vwCl (wX cI cZ a n pl nw ns σ u.1 u.2.1 u.2.2) H1 := by rw [← ht]; exact hB1
    have hP := jnO hne hPo hP1 hk1
    have hD := va_D_map (w' := wX cI cZ a n pl nw ns σ u.1 u.2.1 u.2.2 ++ [(qo, .inl (cL, 1, .inr (.inl f)))]) hD rfl
    refine lv_i2l (v := (vHears n pl nw ns σ p0 p1).toInt64) hx hb dL_hears_8 rfl ?_
    refine va_last hx hb hK hP hD hS 41 2 rfl rfl (vp_in_nI (by decide) (by decide)) dL_hears_9 (fun H2 locs hP hD hS => ?_)
    refine lv_goto (tgt := 17) hx hb dL_hears_10 (by decide) ?_
    refine lv_iconst (v := nI 0) hx hb dL_hears_17 rfl ?_
    refine li_topi (show nI 0 = nI (kKnow nw ns p0 p1) from by rw [hk9]) ?_
    refine hEnd 18 ls H2 locs _ _ u (by decide) (by decide) dL_hears_18 ?_ hS
    rw [oK_0 hk9]
    exact hP
set_option maxHeartbeats 4000000 in
set_option maxRecDepth 100000 in
theorem c_L_advise (l : Launch) (hlT : l.stackTraces = false) (D : va_G) (cI cZ cL cO : ClassId) (a : Nat → Nat) (n pl nw ns : Nat) (σ κ σ' κ' : Sg) (H : Heap) (qo : Nat) (f : Nat → Int64) (p0 : Int32) (p1 : Int32) (A : Nat → Prop) (hA : okP A a 41) (hne : ∀ k, k < 41 → a k ≠ qo) (hD : va_D A (wXo cI cZ cL a n pl nw ns σ κ σ' κ' qo f)) (hB : n ≤ 10 ∧ pl ≤ 200 ∧ nw ≤ 20 ∧ ns ≤ 6) (t : Nat) (hI : INV n pl nw ns t σ) (ht : t < 2 ^ 30) : Met l yL_advise wsL_advise ({ frames := 7, cells := 1, slots := 6, locals := 161 } : Room) (ax_P D (T4 cI cZ cL cO) (wXo cI cZ cL a n pl nw ns σ κ σ' κ' qo f) H [.ref (a 40), .int p0, .int p1, .ref qo] A) (ah_Q D (kAdv n p0 p1) (fun u : S3 => wX cI cZ a n pl nw ns σ u.1 u.2.1 u.2.2 ++ [(qo, .inl (cL, 1, .inr (.inl (oK (kAdv n p0 p1) (vAdv n pl nw ns σ p0 p1) f))))]) A) 1 6 A := by
  refine ah_of (cc := cL_advise) (maxL := 5) (by decide) rfl (Nat.le_of_ble_eq_true rfl) ?_
  intro p e s m args below meth c Q ls locs hx hb hml hown hts hK hE hT hP hl hS htab hEnd
  have hl : lv_has ls 5 [(0, .ref (a 40)), (1, .int p0), (2, .int p1), (3, .ref qo)] := hl
  have hA1 : ∀ q, A_ a 41 q → A q := ak_of hA
  have hPc : va_P D vwCl (wX cI cZ a n pl nw ns σ κ σ' κ') H := hP.sub i41 rfl
  have hPo : va_at D vwCl (qo, .inl (cL, 1, .inr (.inl f))) H := hP 41 _ rfl
  refine lv_aload_n hx hb dL_advise_0 rfl (lv_at hl 3 rfl) ?_
  refine lv_iconst (v := nI 0) hx hb dL_advise_1 rfl ?_
  refine lv_aload_n hx hb dL_advise_2 rfl (lv_at hl 0 rfl) ?_
  refine lv_iload_n hx hb dL_advise_3 rfl (lv_at hl 1 rfl) ?_
  refine lv_iload_n hx hb dL_advise_4 rfl (lv_at hl 2 rfl) ?_
  refine vx_calli (vx_runV (As := [.int p0, .int p1]) (rest := [.int (nI 0), .ref qo]) ⟨hx, hb, hml, hown, hts⟩ (c_X2_advise l hlT D cI cZ cL cO a n pl nw ns σ κ σ' κ' H p0 p1 (A_ a 41) (hA.A_ (by decide)) hB t hI ht) (cwV 2 hts gL_advise_X2_advise rfl rfl rfl (by decide +kernel) ⟨by decide, by decide⟩) ⟨ax_blind, va_recv hK hPc (ci := 2) (q0 := 40) rfl rfl, fun U hU hW => ⟨rfl, hU, hPc, va_K.moved hW.alike hK, lwE.warm hW hE, (hT.warm hW).narrow hA1⟩⟩ rfl rfl hl.1 rfl (lv_room (Nat.le_of_ble_eq_true rfl)) dL_advise_5 ⟨by decide, by decide⟩) hS (fun q _ h => hA1 q h) hA1 (fun q _ h => hA1 q h) (fun E ce q9 u t H1 locs1 ht hal hK0 hBX hz hk1 hS hce hcv hcl => ?_) (fun r u t H1 locs1 ht hal hpo hB1 hz hk1 hS => ?_)
  · obtain ⟨hE9, hP1⟩ := hBX
    rw [ht] at hP1
    have hP2 := jnO hne hPo hP1 hk1
    rcases (show kAdv n p0 p1 = 1 ∨ kAdv n p0 p1 = 2 ∨ kAdv n p0 p1 = 3 from by have h9 := kAdv_le (n := n) (x := p0) (y := p1); omega) with hk9 | hk9 | hk9
    · have hE2 : E = eI := by rw [hE9, hk9]; rfl
      subst hE2
      refine vx_catch (own := RL) (name := eI) hown [] ⟨0, 10, 13, 20⟩ [⟨0, 10, 17, 13⟩, ⟨0, 10, 21, 15⟩] htab (fun z hz9 => nomatch hz9) (by decide) (by decide) (show (Cond.classLink RL 20 "java/lang/IndexOutOfBoundsException").before args s = true from hts _ (List.mem_of_getElem? (i := 1) rfl)) (va_Nw.use rfl (hT.1.1 eI (by decide))) hce hcv hcl ?_
      refine lv_astore (lv' := [(4, .ref q9), (0, .ref (a 40)), (1, .int p0), (2, .int p1), (3, .ref qo)]) hx hb dL_advise_13 hl (by decide) rfl (fun ls hl => ?_)
      refine lv_iconst (v := nI 1) hx hb dL_advise_15 rfl ?_
      refine li_topi (show nI 1 = nI (kAdv n p0 p1) from by rw [hk9]) ?_
      refine hEnd 16 ls H1 locs1 _ _ (κ, σ', κ') (by decide) (by decide) dL_advise_16 ?_ hS
      rw [oK_n hK0]
      exact hP2
    · have hE2 : E = eA := by rw [hE9, hk9]; rfl
      subst hE2
      refine vx_catch (own := RL) (name := eA) hown [⟨0, 10, 13, 20⟩] ⟨0, 10, 17, 13⟩ [⟨0, 10, 21, 15⟩] htab (fun z hz9 => by
        rcases (show z = (⟨0, 10, 13, 20⟩ : ExceptionTableEntry) from by simpa using hz9) with rfl
        · exact Or.inr ⟨by decide, "java/lang/IndexOutOfBoundsException", (show (Cond.classLink RL 20 "java/lang/IndexOutOfBoundsException").before args s = true from hts _ (List.mem_of_getElem? (i := 1) rfl)), hT.1.2.2.1 eA (by decide) eI (by decide) (by decide)⟩) (by decide) (by decide) (show (Cond.classLink RL 13 "java/lang/IllegalArgumentException").before args s = true from hts _ (List.mem_of_getElem? (i := 2) rfl)) (va_Nw.use rfl (hT.1.1 eA (by decide))) hce hcv hcl ?_
      refine lv_astore (lv' := [(4, .ref q9), (0, .ref (a 40)), (1, .int p0), (2, .int p1), (3, .ref qo)]) hx hb dL_advise_17 hl (by decide) rfl (fun ls hl => ?_)
      refine lv_iconst (v := nI 2) hx hb dL_advise_19 rfl ?_
      refine li_topi (show nI 2 = nI (kAdv n p0 p1) from by rw [hk9]) ?_
      refine hEnd 20 ls H1 locs1 _ _ (κ, σ', κ') (by decide) (by decide) dL_advise_20 ?_ hS
      rw [oK_n hK0]
      exact hP2
    · have hE2 : E = eS := by rw [hE9, hk9]; rfl
      subst hE2
      refine vx_catch (own := RL) (name := eS) hown [⟨0, 10, 13, 20⟩, ⟨0, 10, 17, 13⟩] ⟨0, 10, 21, 15⟩ [] htab (fun z hz9 => by
        rcases (show z = (⟨0, 10, 13, 20⟩ : ExceptionTableEntry) ∨ z = (⟨0, 10, 17, 13⟩ : ExceptionTableEntry) from by simpa using hz9) with rfl | rfl
        · exact Or.inr ⟨by decide, "java/lang/IndexOutOfBoundsException", (show (Cond.classLink RL 20 "java/lang/IndexOutOfBoundsException").before args s = true from hts _ (List.mem_of_getElem? (i := 1) rfl)), hT.1.2.2.1 eS (by decide) eI (by decide) (by decide)⟩
        · exact Or.inr ⟨by decide, "java/lang/IllegalArgumentException", (show (Cond.classLink RL 13 "java/lang/IllegalArgumentException").before args s = true from hts _ (List.mem_of_getElem? (i := 2) rfl)), hT.1.2.2.1 eS (by decide) eA (by decide) (by decide)⟩) (by decide) (by decide) (show (Cond.classLink RL 15 "java/lang/IllegalStateException").before args s = true from hts _ (List.mem_of_getElem? (i := 3) rfl)) (va_Nw.use rfl (hT.1.1 eS (by decide))) hce hcv hcl ?_
      refine lv_astore (lv' := [(4, .ref q9), (0, .ref (a 40)), (1, .int p0), (2, .int p1), (3, .ref qo)]) hx hb dL_advise_21 hl (by decide) rfl (fun ls hl => ?_)
      refine lv_iconst (v := nI 3) hx hb dL_advise_23 rfl ?_
      refine li_topi (show nI 3 = nI (kAdv n p0 p1) from by rw [hk9]) ?_
      refine hEnd 24 ls H1 locs1 _ _ (κ, σ', κ') (by decide) (by decide) dL_advise_24 ?_ hS
      rw [oK_n hK0]
      exact hP2
  · obtain ⟨hk9, hr9⟩ := hpo
    subst hr9
    have hP1 : va_P D vwCl (wX cI cZ a n pl nw ns σ u.1 u.2.1 u.2.2) H1 := by rw [← ht]; exact hB1
    have hP := jnO hne hPo hP1 hk1
    have hD := va_D_map (w' := wX cI cZ a n pl nw ns σ u.1 u.2.1 u.2.2 ++ [(qo, .inl (cL, 1, .inr (.inl f)))]) hD rfl
    refine lv_i2l (v := (vAdv n pl nw ns σ p0 p1).toInt64) hx hb dL_advise_8 rfl ?_
    refine va_last hx hb hK hP hD hS 41 2 rfl rfl (vp_in_nI (by decide) (by decide)) dL_advise_9 (fun H2 locs hP hD hS => ?_)
    refine lv_goto (tgt := 25) hx hb dL_advise_10 (by decide) ?_
    refine lv_iconst (v := nI 0) hx hb dL_advise_25 rfl ?_
    refine li_topi (show nI 0 = nI (kAdv n p0 p1) from by rw [hk9]) ?_
    refine hEnd 26 ls H2 locs _ _ u (by decide) (by decide) dL_advise_26 ?_ hS
    rw [oK_0 hk9]
    exact hP
