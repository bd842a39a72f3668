/-! one act upon both -/
def ac_Q (D : va_G) (cI cZ cW cO : ClassId) (a : Ka) (n pl nw ns t : Nat) (η : Sg) (T : Ke) (A : Nat → Prop) : Array Value → State → Outcome → State → Prop :=
  va_Qi (fun (r : Int32) (z : Ka × Nat × Sg × S3) => r = nI 1 ∧ LV n pl z.2.1 ns t z.2.2.1 ∧ nw ≤ z.2.1 ∧ z.1 0 = a 0 ∧ z.1 1 0 = a 1 0 ∧ kO A [41, 10, n, z.2.1, z.2.1] z.1)
    (fun z t' => kP D [41, 10, n, z.2.1, z.2.1] z.1 (eL cI cZ cW cO (xC cI cZ (z.1 0) n pl z.2.1 ns z.2.2.1 z.2.2.2) z.1 n z.2.1 ns z.2.2.1 η T) t'.heap) A
theorem ac_of {l : Launch} {y : MethodName} {ws ws' : List Cond} {rm : Room} {cc : ByteArray} {maxL mc ms : Nat} {av : List Value} {D : va_G} {w : va_W} {H : Heap} {A : Nat → Prop} {cI cZ cW cO : ClassId} {a : Ka} {n pl nw ns t : Nat} {η : Sg} {T : Ke} (hy : plainName y.cls = true) (hw : ws = Cond.code y cc maxL (some .boolean) :: ws') (hlen : (lg_sl av).length ≤ maxL)
    (body : ∀ (p : Program) (e : Env) (s : State) (m : MethodId) (args : Array Value) (below : List Frame) (meth : Method) (c : Code) (Q : State → Prop) (ls : Array Slot) (locs : List Loc),
      p.tables.exec = Jvm.exec → c.code = cc → c.maxLocals = maxL → s.vm.findClass y.cls = some m.cls → (∀ w ∈ ws, w.before args s = true) → va_K D vwCl (T4 cI cZ cW cO) s → lwE s → va_P D vwCl w H → lv_has ls maxL (lv_args 0 av) → va_S A H H locs →
      (∀ (pc : Nat) (ls : Array Slot) (H1 : Heap) (locs : List Loc) (k j : Nat) (a' : Ka) (nw' : Nat) (σ : Sg) (u : S3), k ≤ mc → j ≤ ms → decode cc pc = .ok (.ireturn, 1) → LV n pl nw' ns t σ → nw ≤ nw' → a' 0 = a 0 → a' 1 0 = a 1 0 → kO A [41, 10, n, nw', nw'] a' → kP D [41, 10, n, nw', nw'] a' (eL cI cZ cW cO (xC cI cZ (a' 0) n pl nw' ns σ u) a' n nw' ns σ η T) H1 → va_S A H H1 locs → W p l e rm s m args below meth c H1 locs k j Q (F0 m pc ls [.int (nI 1)])) →
      W p l e rm s m args below meth c H locs 0 0 Q (F0 m 0 ls [])) : Met l y ws rm (ro_P D (T4 cI cZ cW cO) w H av) (ac_Q D cI cZ cW cO a n pl nw ns t η T A) mc ms A := by
  refine Met.ofW (cc := cc) (maxL := maxL) (ret := some .boolean) hy hw ?_
  intro p e s m args below meth c s₁ B hml hv
  obtain ⟨rfl, rfl, hP, hK, hE⟩ := hv
  have hx := B.exec
  have hb := B.bytes
  have hr := B.returns
  have hts := atoms_spec (ws := ws) B.pre
  have hown : s.vm.findClass y.cls = some m.cls := findClass_of_methodNamed B.named
  have hlocks := B.notSynchronized
  have hl := lv_entry av (n := maxL) hlen
  rw [lg_entry_eq]
  generalize (lg_sl av ++ List.replicate (maxL - (lg_sl av).length) Slot.unset).toArray = ls at hl ⊢
  exact body p e s m _ below meth c _ ls [] hx hb hml hown hts hK hE hP hl va_S.rf (fun pc ls H1 locs k j a' nw' σ u hk hj hd h1 h2 h3 h4 h5 hP1 hS => w_wide hk hj (W.zret (v := nI 1) hx hb hr rfl (fun t' ht hW => ⟨⟨nI 1, (a', nw', σ, u), rfl, ⟨rfl, h1, h2, h3, h4, h5⟩, by show kP D [41, 10, n, nw', nw'] a' (eL cI cZ cW cO (xC cI cZ (a' 0) n pl nw' ns σ u) a' n nw' ns σ η T) t'.heap; rw [ht]; exact hP1⟩, hS.F ht⟩) hS.2.2 hd hlocks))
set_option maxHeartbeats 8000000 in
set_option maxRecDepth 100000 in
theorem c_L_act (l : Launch) (D : va_G) (cI cZ cW cO : ClassId) (a : Ka) (n pl nw ns t : Nat) (σ η : Sg) (u : S3) (T : Ke) (x : Int32) (H : Heap) (A : Nat → Prop) (hO : kO A [41, 10, n, nw, nw] a) (hA : ∀ q, H.size ≤ q → A q) (hLV : LV n pl nw ns t σ) (hnw : 0 < nw) : Met l yL_act wsL_act ({ frames := 7, cells := 3, slots := 35, locals := 107 } : Room) (ro_P D (T4 cI cZ cW cO) (wK [41, 10, n, nw, nw] a (eL cI cZ cW cO (xC cI cZ (a 0) n pl nw ns σ u) a n nw ns σ η T)) H [.ref (a 0 40), .ref (a 1 0), .int x]) (ac_Q D cI cZ cW cO a n pl nw ns t η T A) 3 35 A := by
  refine ac_of (cc := cL_act) (maxL := 12) (by decide) rfl (Nat.le_of_ble_eq_true rfl) ?_
  intro p e s m args below meth c Q ls locs hx hb hml hown hts hK hE hP hl hS hEnd
  have hP : kP D [41, 10, n, nw, nw] a (eL cI cZ cW cO (xC cI cZ (a 0) n pl nw ns σ u) a n nw ns σ η T) H := kP.of hP
  have hl : lv_has ls 12 [(0, .ref (a 0 40)), (1, .ref (a 1 0)), (2, .int x)] := hl
  have hX3 : ∀ w ∈ wsX30, w.before args s = true := fun w h => hts w (List.mem_cons_of_mem _ (List.mem_append_left _ (List.mem_append_left _ (List.mem_append_left _ (List.mem_append_left _ (List.mem_append_left _ (List.mem_append_left _ (List.mem_append_left _ (List.mem_append_right _ (h))))))))))
  have hX4 : ∀ w ∈ wsX40, w.before args s = true := fun w h => hts w (List.mem_cons_of_mem _ (List.mem_append_left _ (List.mem_append_left _ (List.mem_append_left _ (List.mem_append_left _ (List.mem_append_left _ (List.mem_append_left _ (List.mem_append_right _ (h)))))))))
  have f60 : (Cond.fieldLink RL 60 "LanternWalkLaw$Sim" "walkers" "[LLanternWalkLaw$Walker;").before args s = true := hts _ (List.mem_of_getElem? (i := 1) rfl)
  have f69 : (Cond.fieldLink RL 69 "LanternWalkLaw$Walker" "state" "I").before args s = true := hts _ (List.mem_of_getElem? (i := 2) rfl)
  have f73 : (Cond.fieldLink RL 73 "LanternWalkLaw$Walker" "wick" "I").before args s = true := hts _ (List.mem_of_getElem? (i := 3) rfl)
  have g3 : (Cond.methodLink RL 22 Lib.Math.min.name).before args s = true := hts _ (List.mem_of_getElem? (i := 4) rfl)
  have g4 : (Cond.static Lib.Math.min.name).before args s = true := hts _ (List.mem_of_getElem? (i := 5) rfl)
  have g5 : (Cond.initialized "java/lang/Math").before args s = true := hts _ (List.mem_of_getElem? (i := 6) rfl)
  have g6 : (Cond.code Lib.Math.min.name Lib.Math.min.code 2 (some .int)).before args s = true := hts _ (List.mem_of_getElem? (i := 7) rfl)
  have f76 : (Cond.fieldLink RL 76 "LanternWalkLaw$Walker" "burns" "Z").before args s = true := hts _ (List.mem_of_getElem? (i := 8) rfl)
  have f83 : (Cond.fieldLink RL 83 "LanternWalkLaw$Sim" "stewards" "[I").before args s = true := hts _ (List.mem_of_getElem? (i := 9) rfl)
  have f86 : (Cond.fieldLink RL 86 "LanternWalkLaw$Sim" "route" "[[I").before args s = true := hts _ (List.mem_of_getElem? (i := 10) rfl)
  have f36 : (Cond.fieldLink RL 36 "LanternWalkLaw$Sim" "wind" "[I").before args s = true := hts _ (List.mem_of_getElem? (i := 11) rfl)
  have f50 : (Cond.fieldLink RL 50 "LanternWalkLaw$Sim" "songs" "[I").before args s = true := hts _ (List.mem_of_getElem? (i := 12) rfl)
  have f64 : (Cond.fieldLink RL 64 "LanternWalkLaw$Walker" "knows" "[I").before args s = true := hts _ (List.mem_of_getElem? (i := 13) rfl)
  have hB := hLV.inv.1
  obtain ⟨a0, ha0⟩ : ∃ z, a 0 = z := ⟨_, rfl⟩
  refine lv_iload_n hx hb dL_act_0 rfl (lv_at hl 2 rfl) ?_
  refine lv_aload_n hx hb dL_act_1 rfl (lv_at hl 1 rfl) ?_
  refine lk_gf3 hx hb hX3 hown hK hP 1 0 (show 0 < 10 by decide) rfl 3 (by decide) f60 rfl dL_act_2 ?_
  refine lk_alen hx hb hK hP 1 4 (show 4 < 10 by decide) 2 rfl rfl dL_act_5 ?_
  refine roS0 (As := [.int x, .int (nI nw)]) hx hb hml hown hts (c_L_below l D cI cZ cW cO H x nw (by omega) (by omega)) (va_cwS 2 hts gL_act_L_below rfl rfl rfl (by decide +kernel) ⟨by decide, by decide⟩) hK hE rfl hl.1 rfl (Nat.le_of_ble_eq_true rfl) hS dL_act_6 ⟨show 0 ≤ 3 by omega, show 0 ≤ 35 by omega⟩ (fun locs hS => ?_)
  have hb1 := bl_lt (v := x) (N := nw) (by omega)
  obtain ⟨w, hw⟩ : ∃ z, z = bl x nw := ⟨_, rfl⟩
  rw [← hw]
  refine lv_istore_n (lv' := [(3, .int (nI w)), (0, .ref (a 0 40)), (1, .ref (a 1 0)), (2, .int x)]) hx hb dL_act_9 rfl hl (by decide) rfl (fun ls hl => ?_)
  refine lv_aload_n hx hb dL_act_10 rfl (lv_at hl 2 rfl) ?_
  refine lk_gf3 hx hb hX3 hown hK hP 1 0 (show 0 < 10 by decide) rfl 3 (by decide) f60 rfl dL_act_11 ?_
  refine lv_iload_n hx hb dL_act_14 rfl (lv_at hl 0 rfl) ?_
  refine lk_aldW hx hb hK hP 1 4 (show 4 < 10 by decide) rfl (by omega) (by omega) (rfs_at (by omega)) dL_act_15 ?_
  refine lv_astore (lv' := [(4, .ref (a 3 w)), (3, .int (nI w)), (0, .ref (a 0 40)), (1, .ref (a 1 0)), (2, .int x)]) hx hb dL_act_16 hl (by decide) rfl (fun ls hl => ?_)
  refine lv_iload_n hx hb dL_act_18 rfl (lv_at hl 4 rfl) ?_
  refine lv_bipush (v := nI 8) hx hb dL_act_19 rfl ?_
  refine lv_ishr hx hb dL_act_21 ?_
  refine lv_bipush (v := nI 6) hx hb dL_act_22 rfl ?_
  refine roS0 (As := [.int (x >>> ((nI 8) &&& 31)), .int (nI 6)]) hx hb hml hown hts (c_L_below l D cI cZ cW cO H (x >>> ((nI 8) &&& 31)) 6 (by omega) (by omega)) (va_cwS 2 hts gL_act_L_below rfl rfl rfl (by decide +kernel) ⟨by decide, by decide⟩) hK hE rfl hl.1 rfl (Nat.le_of_ble_eq_true rfl) hS dL_act_24 ⟨show 0 ≤ 3 by omega, show 0 ≤ 35 by omega⟩ (fun locs hS => ?_)
  have hb2 := bl_lt (v := x >>> ((nI 8) &&& 31)) (N := 6) (by omega)
  obtain ⟨z6, hz6⟩ : ∃ z, z = bl (x >>> ((nI 8) &&& 31)) 6 := ⟨_, rfl⟩
  rw [← hz6]
  rcases (show z6 = 0 ∨ z6 = 1 ∨ z6 = 2 ∨ z6 = 3 ∨ z6 = 4 ∨ z6 = 5 from by omega) with rfl | rfl | rfl | rfl | rfl | rfl
  · refine lv_tableIn (off := 33) (tgt := 60) hx hb dL_act_27 (by decide) (by decide) rfl (by decide) ?_
    refine lv_iconst (v := nI 1) hx hb dL_act_60 rfl ?_
    refine lv_iload_n hx hb dL_act_61 rfl (lv_at hl 4 rfl) ?_
    refine lv_iconst (v := nI 3) hx hb dL_act_62 rfl ?_
    refine lv_ishr hx hb dL_act_63 ?_
    refine lv_bipush (v := nI 40) hx hb dL_act_64 rfl ?_
    refine roS0 (As := [.int (x >>> ((nI 3) &&& 31)), .int (nI 40)]) hx hb hml hown hts (c_L_below l D cI cZ cW cO H (x >>> ((nI 3) &&& 31)) 40 (by omega) (by omega)) (va_cwS 2 hts gL_act_L_below rfl rfl rfl (by decide +kernel) ⟨by decide, by decide⟩) hK hE rfl hl.1 rfl (Nat.le_of_ble_eq_true rfl) hS dL_act_66 ⟨show 0 ≤ 3 by omega, show 0 ≤ 35 by omega⟩ (fun locs hS => ?_)
    have hb3 := bl_lt (v := x >>> ((nI 3) &&& 31)) (N := 40) (by omega)
    refine lv_iadd hx hb dL_act_69 ?_
    refine li_topi (nI_add _ _) ?_
    refine lv_istore (lv' := [(5, .int (nI (1 + (bl (x >>> ((nI 3) &&& 31)) 40)))), (4, .ref (a 3 w)), (3, .int (nI w)), (0, .ref (a 0 40)), (1, .ref (a 1 0)), (2, .int x)]) hx hb dL_act_70 hl (by decide) rfl (fun ls hl => ?_)
    refine lv_aload hx hb dL_act_72 (lv_at hl 1 rfl) ?_
    refine lk_gf4 hx hb hX4 hown hK hP 3 w (show w < nw by omega) rfl 4 (by decide) f69 rfl dL_act_74 ?_
    refine lv_iconst (v := nI 2) hx hb dL_act_77 rfl ?_
    refine lv_icmp_ne (tgt := 83) hx hb dL_act_78 (by decide) (fun c4 => ?_) (fun c4 => ?_)
    · skip
      refine lv_aload hx hb dL_act_83 (lv_at hl 1 rfl) ?_
      refine lv_sipush (v := nI 200) hx hb dL_act_85 rfl ?_
      refine lv_aload hx hb dL_act_88 (lv_at hl 1 rfl) ?_
      refine lk_gf4 hx hb hX4 hown hK hP 3 w (show w < nw by omega) rfl 1 (by decide) f73 rfl dL_act_90 ?_
      refine lv_iload hx hb dL_act_93 (lv_at hl 0 rfl) ?_
      refine lv_iadd hx hb dL_act_95 ?_
      refine va_mmin hx hb (hml.trans hl.1.symm) hown g3 g4 g5 g6 (by decide) (Nat.le_of_ble_eq_true rfl) (show 0 ≤ 3 by omega) (show 0 ≤ 35 by omega) dL_act_96 ?_
      refine lk_pf4 hx hb hX4 hown hK hP hO hS 3 w (show w < nw by omega) rfl 1 (by decide) f73 rfl rfl rfl (Nat.le_of_ble_eq_true rfl) stS_10 dL_act_99 (fun G locs hP hS => ?_)
      refine lv_aload hx hb dL_act_102 (lv_at hl 1 rfl) ?_
      refine lv_iconst (v := nI 1) hx hb dL_act_104 rfl ?_
      refine lk_pf4 hx hb hX4 hown hK hP hO hS 3 w (show w < nw by omega) rfl 3 (by decide) f76 rfl rfl rfl (Nat.le_of_ble_eq_true rfl) stS_11 dL_act_105 (fun G locs hP hS => ?_)
      refine lv_aload_n hx hb dL_act_108 rfl (lv_at hl 3 rfl) ?_
      refine lv_iload_n hx hb dL_act_109 rfl (lv_at hl 2 rfl) ?_
      refine lv_iload hx hb dL_act_110 (lv_at hl 0 rfl) ?_
      have hk9 : kTrim nw σ (nI w) (nI (1 + (bl (x >>> ((nI 3) &&& 31)) 40))) = 0 := kTrim_0 (by omega) (by omega) (by omega) (by omega) (by assumption)
      refine ayK (As := [.int (nI w), .int (nI (1 + (bl (x >>> ((nI 3) &&& 31)) 40)))]) hx hb hml hown hts (c_X2_trim l D cI cZ cW cO (a 0) n pl nw ns σ u.1 u.2.1 u.2.2 G (nI w) (nI (1 + (bl (x >>> ((nI 3) &&& 31)) 40))) (kA [41] a) (okP_k hO rfl) (by omega) hk9) (cwV 2 hts gL_act_X2_trim rfl rfl rfl (by decide +kernel) ⟨by decide, by decide⟩) hK hE hO rfl hP rfl hl.1 rfl (Nat.le_of_ble_eq_true rfl) hS dL_act_112 ⟨show 0 ≤ 3 by omega, show 0 ≤ 35 by omega⟩ (fun u5 G locs hP hS => ?_)
      rw [show sTrim nw σ (nI w) (nI (1 + (bl (x >>> ((nI 3) &&& 31)) 40))) = up2 (up2 σ 10 w (if σ 10 w + (nI (1 + (bl (x >>> ((nI 3) &&& 31)) 40))) < nI 200 then σ 10 w + (nI (1 + (bl (x >>> ((nI 3) &&& 31)) 40))) else nI 200)) 11 w (nI 1) from by unfold sTrim wTrim; rw [if_pos hk9, nN_nI (by omega)]] at hP
      have hP : kP D [41, 10, n, nw, nw] a (eL cI cZ cW cO (xC cI cZ (a 0) n pl nw ns (up2 (up2 σ 10 w (if σ 10 w + (nI (1 + (bl (x >>> ((nI 3) &&& 31)) 40))) < nI 200 then σ 10 w + (nI (1 + (bl (x >>> ((nI 3) &&& 31)) 40))) else nI 200)) 11 w (nI 1)) u5) a n nw ns (up2 (up2 σ 10 w (if (σ 10 w) + (nI (1 + (bl (x >>> ((nI 3) &&& 31)) 40))) < nI 200 then (σ 10 w) + (nI (1 + (bl (x >>> ((nI 3) &&& 31)) 40))) else nI 200)) 11 w (nI 1)) η T) G := hP
      refine li_topi (x' := (if σ 10 w + (nI (1 + (bl (x >>> ((nI 3) &&& 31)) 40))) < nI 200 then σ 10 w + (nI (1 + (bl (x >>> ((nI 3) &&& 31)) 40))) else nI 200)) (by unfold vTrim wTrim; rw [if_pos hk9, nN_nI (by omega)]) ?_
      refine lv_aload hx hb dL_act_115 (lv_at hl 1 rfl) ?_
      refine lk_gf4 hx hb hX4 hown hK hP 3 w (show w < nw by omega) rfl 1 (by decide) f73 rfl dL_act_117 ?_
      refine lv_icmp_ne (tgt := 127) hx hb dL_act_120 (by decide) (fun c6 => ?_) (fun c6 => ?_)
      · exact absurd (by rw [up2_r (by decide)]; exact up2_in'.symm) c6
      · skip
        refine lv_iconst (v := nI 1) hx hb dL_act_123 rfl ?_
        refine lv_goto (tgt := 128) hx hb dL_act_124 (by decide) ?_
        exact hEnd 128 ls G locs _ _ a nw _ _ (show 0 ≤ 3 by omega) (show 0 ≤ 35 by omega) dL_act_128 (LV_trim hLV (by omega) (by omega) (by omega) (by assumption)) (by omega) rfl rfl hO hP hS
    · skip
      refine lv_iconst (v := nI 1) hx hb dL_act_81 rfl ?_
      exact hEnd 82 ls H locs _ _ a nw _ _ (show 0 ≤ 3 by omega) (show 0 ≤ 35 by omega) dL_act_82 (hLV) (by omega) rfl rfl hO hP hS
  · refine lv_tableIn (off := 102) (tgt := 129) hx hb dL_act_27 (by decide) (by decide) rfl (by decide) ?_
    refine lv_iload_n hx hb dL_act_129 rfl (lv_at hl 4 rfl) ?_
    refine lv_iconst (v := nI 3) hx hb dL_act_130 rfl ?_
    refine lv_ishr hx hb dL_act_131 ?_
    refine lv_iconst (v := nI 2) hx hb dL_act_132 rfl ?_
    refine roS0 (As := [.int (x >>> ((nI 3) &&& 31)), .int (nI 2)]) hx hb hml hown hts (c_L_below l D cI cZ cW cO H (x >>> ((nI 3) &&& 31)) 2 (by omega) (by omega)) (va_cwS 2 hts gL_act_L_below rfl rfl rfl (by decide +kernel) ⟨by decide, by decide⟩) hK hE rfl hl.1 rfl (Nat.le_of_ble_eq_true rfl) hS dL_act_133 ⟨show 0 ≤ 3 by omega, show 0 ≤ 35 by omega⟩ (fun locs hS => ?_)
    have hb7 := bl_lt (v := x >>> ((nI 3) &&& 31)) (N := 2) (by omega)
    refine lv_istore (lv' := [(6, .int (nI (bl (x >>> ((nI 3) &&& 31)) 2))), (4, .ref (a 3 w)), (3, .int (nI w)), (0, .ref (a 0 40)), (1, .ref (a 1 0)), (2, .int x)]) hx hb dL_act_136 hl (by decide) rfl (fun ls hl => ?_)
    refine lv_aload_n hx hb dL_act_138 rfl (lv_at hl 4 rfl) ?_
    refine lk_gf3 hx hb hX3 hown hK hP 1 0 (show 0 < 10 by decide) rfl 1 (by decide) f83 rfl dL_act_139 ?_
    refine lv_iload hx hb dL_act_142 (lv_at hl 0 rfl) ?_
    refine lk_ild hx hb hK hP 1 2 (show 2 < 10 by decide) rfl (by omega) (by decide) dL_act_144 ?_
    refine lv_istore (lv' := [(7, .int (σ 7 (bl (x >>> ((nI 3) &&& 31)) 2))), (6, .int (nI (bl (x >>> ((nI 3) &&& 31)) 2))), (4, .ref (a 3 w)), (3, .int (nI w)), (0, .ref (a 0 40)), (1, .ref (a 1 0)), (2, .int x)]) hx hb dL_act_145 hl (by decide) rfl (fun ls hl => ?_)
    refine lv_aload_n hx hb dL_act_147 rfl (lv_at hl 5 rfl) ?_
    refine lk_gf3 hx hb hX3 hown hK hP 1 0 (show 0 < 10 by decide) rfl 1 (by decide) f83 rfl dL_act_148 ?_
    refine lv_iload hx hb dL_act_151 (lv_at hl 1 rfl) ?_
    refine lv_iload_n hx hb dL_act_153 rfl (lv_at hl 6 rfl) ?_
    refine lv_iconst (v := nI 4) hx hb dL_act_154 rfl ?_
    refine lv_ishr hx hb dL_act_155 ?_
    refine lv_aload_n hx hb dL_act_156 rfl (lv_at hl 5 rfl) ?_
    refine lk_gf3 hx hb hX3 hown hK hP 1 0 (show 0 < 10 by decide) rfl 0 (by decide) f86 rfl dL_act_157 ?_
    refine lk_alen hx hb hK hP 1 1 (show 1 < 10 by decide) 3 rfl rfl dL_act_160 ?_
    refine lv_iconst (v := nI 1) hx hb dL_act_161 rfl ?_
    refine lv_iadd hx hb dL_act_162 ?_
    refine li_topi (nI_add _ _) ?_
    refine roS0 (As := [.int (x >>> ((nI 4) &&& 31)), .int (nI (n + 1))]) hx hb hml hown hts (c_L_below l D cI cZ cW cO H (x >>> ((nI 4) &&& 31)) (n + 1) (by omega) (by omega)) (va_cwS 2 hts gL_act_L_below rfl rfl rfl (by decide +kernel) ⟨by decide, by decide⟩) hK hE rfl hl.1 rfl (Nat.le_of_ble_eq_true rfl) hS dL_act_163 ⟨show 0 ≤ 3 by omega, show 0 ≤ 35 by omega⟩ (fun locs hS => ?_)
    have hb8 := bl_lt (v := x >>> ((nI 4) &&& 31)) (N := n + 1) (by omega)
    refine lv_iconst (v := nI 1) hx hb dL_act_166 rfl ?_
    refine lv_isub hx hb dL_act_167 ?_
    refine lk_ist hx hb hK hP hO hS 1 2 (show 2 < 10 by decide) rfl (by omega) (by decide) stS_7 dL_act_168 (fun G locs hP hS => ?_)
    refine lv_aload_n hx hb dL_act_169 rfl (lv_at hl 4 rfl) ?_
    refine lv_iload hx hb dL_act_170 (lv_at hl 1 rfl) ?_
    refine lv_aload_n hx hb dL_act_172 rfl (lv_at hl 5 rfl) ?_
    refine lk_gf3 hx hb hX3 hown hK hP 1 0 (show 0 < 10 by decide) rfl 1 (by decide) f83 rfl dL_act_173 ?_
    refine lv_iload hx hb dL_act_176 (lv_at hl 1 rfl) ?_
    refine lk_ild hx hb hK hP 1 2 (show 2 < 10 by decide) rfl (by omega) (by decide) dL_act_178 ?_
    refine li_topi (show (up2 σ 7 (bl (x >>> ((nI 3) &&& 31)) 2) ((nI (bl (x >>> ((nI 4) &&& 31)) (n + 1))) - (nI 1))) 7 (bl (x >>> ((nI 3) &&& 31)) 2) = (nI (bl (x >>> ((nI 4) &&& 31)) (n + 1))) - (nI 1) from by exact up2_in') ?_
    have hk9 : kPost n (nI (bl (x >>> ((nI 3) &&& 31)) 2)) ((nI (bl (x >>> ((nI 4) &&& 31)) (n + 1))) - (nI 1)) = 0 := kPost_0 (by omega) (by omega) (by omega)
    refine ayK (As := [.int (nI (bl (x >>> ((nI 3) &&& 31)) 2)), .int ((nI (bl (x >>> ((nI 4) &&& 31)) (n + 1))) - (nI 1))]) hx hb hml hown hts (c_X2_post l D cI cZ cW cO (a 0) n pl nw ns σ u.1 u.2.1 u.2.2 G (nI (bl (x >>> ((nI 3) &&& 31)) 2)) ((nI (bl (x >>> ((nI 4) &&& 31)) (n + 1))) - (nI 1)) (kA [41] a) (okP_k hO rfl) (by omega) hk9) (cwV 2 hts gL_act_X2_post rfl rfl rfl (by decide +kernel) ⟨by decide, by decide⟩) hK hE hO rfl hP rfl hl.1 rfl (Nat.le_of_ble_eq_true rfl) hS dL_act_179 ⟨show 0 ≤ 3 by omega, show 0 ≤ 35 by omega⟩ (fun u9 G locs hP hS => ?_)
    rw [show sPost n σ (nI (bl (x >>> ((nI 3) &&& 31)) 2)) ((nI (bl (x >>> ((nI 4) &&& 31)) (n + 1))) - (nI 1)) = up2 σ 7 (bl (x >>> ((nI 3) &&& 31)) 2) ((nI (bl (x >>> ((nI 4) &&& 31)) (n + 1))) - (nI 1)) from by unfold sPost; rw [if_pos hk9, nN_nI (by omega)]] at hP
    have hP : kP D [41, 10, n, nw, nw] a (eL cI cZ cW cO (xC cI cZ (a 0) n pl nw ns (up2 σ 7 (bl (x >>> ((nI 3) &&& 31)) 2) ((nI (bl (x >>> ((nI 4) &&& 31)) (n + 1))) - (nI 1))) u9) a n nw ns (up2 σ 7 (bl (x >>> ((nI 3) &&& 31)) 2) ((nI (bl (x >>> ((nI 4) &&& 31)) (n + 1))) - (nI 1))) η T) G := hP
    refine li_topi (x' := σ 7 (bl (x >>> ((nI 3) &&& 31)) 2)) (by unfold vPost; rw [if_pos hk9, nN_nI (by omega)]) ?_
    refine lv_iload hx hb dL_act_182 (lv_at hl 0 rfl) ?_
    refine lv_icmp_ne (tgt := 191) hx hb dL_act_184 (by decide) (fun c10 => ?_) (fun c10 => ?_)
    · exact absurd rfl c10
    · skip
      refine lv_iconst (v := nI 1) hx hb dL_act_187 rfl ?_
      refine lv_goto (tgt := 192) hx hb dL_act_188 (by decide) ?_
      exact hEnd 192 ls G locs _ _ a nw _ _ (show 0 ≤ 3 by omega) (show 0 ≤ 35 by omega) dL_act_192 (LV_post hLV (by omega) (by omega)) (by omega) rfl rfl hO hP hS
  · refine lv_tableIn (off := 102) (tgt := 129) hx hb dL_act_27 (by decide) (by decide) rfl (by decide) ?_
    refine lv_iload_n hx hb dL_act_129 rfl (lv_at hl 4 rfl) ?_
    refine lv_iconst (v := nI 3) hx hb dL_act_130 rfl ?_
    refine lv_ishr hx hb dL_act_131 ?_
    refine lv_iconst (v := nI 2) hx hb dL_act_132 rfl ?_
    refine roS0 (As := [.int (x >>> ((nI 3) &&& 31)), .int (nI 2)]) hx hb hml hown hts (c_L_below l D cI cZ cW cO H (x >>> ((nI 3) &&& 31)) 2 (by omega) (by omega)) (va_cwS 2 hts gL_act_L_below rfl rfl rfl (by decide +kernel) ⟨by decide, by decide⟩) hK hE rfl hl.1 rfl (Nat.le_of_ble_eq_true rfl) hS dL_act_133 ⟨show 0 ≤ 3 by omega, show 0 ≤ 35 by omega⟩ (fun locs hS => ?_)
    have hb11 := bl_lt (v := x >>> ((nI 3) &&& 31)) (N := 2) (by omega)
    refine lv_istore (lv' := [(6, .int (nI (bl (x >>> ((nI 3) &&& 31)) 2))), (4, .ref (a 3 w)), (3, .int (nI w)), (0, .ref (a 0 40)), (1, .ref (a 1 0)), (2, .int x)]) hx hb dL_act_136 hl (by decide) rfl (fun ls hl => ?_)
    refine lv_aload_n hx hb dL_act_138 rfl (lv_at hl 4 rfl) ?_
    refine lk_gf3 hx hb hX3 hown hK hP 1 0 (show 0 < 10 by decide) rfl 1 (by decide) f83 rfl dL_act_139 ?_
    refine lv_iload hx hb dL_act_142 (lv_at hl 0 rfl) ?_
    refine lk_ild hx hb hK hP 1 2 (show 2 < 10 by decide) rfl (by omega) (by decide) dL_act_144 ?_
    refine lv_istore (lv' := [(7, .int (σ 7 (bl (x >>> ((nI 3) &&& 31)) 2))), (6, .int (nI (bl (x >>> ((nI 3) &&& 31)) 2))), (4, .ref (a 3 w)), (3, .int (nI w)), (0, .ref (a 0 40)), (1, .ref (a 1 0)), (2, .int x)]) hx hb dL_act_145 hl (by decide) rfl (fun ls hl => ?_)
    refine lv_aload_n hx hb dL_act_147 rfl (lv_at hl 5 rfl) ?_
    refine lk_gf3 hx hb hX3 hown hK hP 1 0 (show 0 < 10 by decide) rfl 1 (by decide) f83 rfl dL_act_148 ?_
    refine lv_iload hx hb dL_act_151 (lv_at hl 1 rfl) ?_
    refine lv_iload_n hx hb dL_act_153 rfl (lv_at hl 6 rfl) ?_
    refine lv_iconst (v := nI 4) hx hb dL_act_154 rfl ?_
    refine lv_ishr hx hb dL_act_155 ?_
    refine lv_aload_n hx hb dL_act_156 rfl (lv_at hl 5 rfl) ?_
    refine lk_gf3 hx hb hX3 hown hK hP 1 0 (show 0 < 10 by decide) rfl 0 (by decide) f86 rfl dL_act_157 ?_
    refine lk_alen hx hb hK hP 1 1 (show 1 < 10 by decide) 3 rfl rfl dL_act_160 ?_
    refine lv_iconst (v := nI 1) hx hb dL_act_161 rfl ?_
    refine lv_iadd hx hb dL_act_162 ?_
    refine li_topi (nI_add _ _) ?_
    refine roS0 (As := [.int (x >>> ((nI 4) &&& 31)), .int (nI (n + 1))]) hx hb hml hown hts (c_L_below l D cI cZ cW cO H (x >>> ((nI 4) &&& 31)) (n + 1) (by omega) (by omega)) (va_cwS 2 hts gL_act_L_below rfl rfl rfl (by decide +kernel) ⟨by decide, by decide⟩) hK hE rfl hl.1 rfl (Nat.le_of_ble_eq_true rfl) hS dL_act_163 ⟨show 0 ≤ 3 by omega, show 0 ≤ 35 by omega⟩ (fun locs hS => ?_)
    have hb12 := bl_lt (v := x >>> ((nI 4) &&& 31)) (N := n + 1) (by omega)
    refine lv_iconst (v := nI 1) hx hb dL_act_166 rfl ?_
    refine lv_isub hx hb dL_act_167 ?_
    refine lk_ist hx hb hK hP hO hS 1 2 (show 2 < 10 by decide) rfl (by omega) (by decide) stS_7 dL_act_168 (fun G locs hP hS => ?_)
    refine lv_aload_n hx hb dL_act_169 rfl (lv_at hl 4 rfl) ?_
    refine lv_iload hx hb dL_act_170 (lv_at hl 1 rfl) ?_
    refine lv_aload_n hx hb dL_act_172 rfl (lv_at hl 5 rfl) ?_
    refine lk_gf3 hx hb hX3 hown hK hP 1 0 (show 0 < 10 by decide) rfl 1 (by decide) f83 rfl dL_act_173 ?_
    refine lv_iload hx hb dL_act_176 (lv_at hl 1 rfl) ?_
    refine lk_ild hx hb hK hP 1 2 (show 2 < 10 by decide) rfl (by omega) (by decide) dL_act_178 ?_
    refine li_topi (show (up2 σ 7 (bl (x >>> ((nI 3) &&& 31)) 2) ((nI (bl (x >>> ((nI 4) &&& 31)) (n + 1))) - (nI 1))) 7 (bl (x >>> ((nI 3) &&& 31)) 2) = (nI (bl (x >>> ((nI 4) &&& 31)) (n + 1))) - (nI 1) from by exact up2_in') ?_
    have hk9 : kPost n (nI (bl (x >>> ((nI 3) &&& 31)) 2)) ((nI (bl (x >>> ((nI 4) &&& 31)) (n + 1))) - (nI 1)) = 0 := kPost_0 (by omega) (by omega) (by omega)
    refine ayK (As := [.int (nI (bl (x >>> ((nI 3) &&& 31)) 2)), .int ((nI (bl (x >>> ((nI 4) &&& 31)) (n + 1))) - (nI 1))]) hx hb hml hown hts (c_X2_post l D cI cZ cW cO (a 0) n pl nw ns σ u.1 u.2.1 u.2.2 G (nI (bl (x >>> ((nI 3) &&& 31)) 2)) ((nI (bl (x >>> ((nI 4) &&& 31)) (n + 1))) - (nI 1)) (kA [41] a) (okP_k hO rfl) (by omega) hk9) (cwV 2 hts gL_act_X2_post rfl rfl rfl (by decide +kernel) ⟨by decide, by decide⟩) hK hE hO rfl hP rfl hl.1 rfl (Nat.le_of_ble_eq_true rfl) hS dL_act_179 ⟨show 0 ≤ 3 by omega, show 0 ≤ 35 by omega⟩ (fun u13 G locs hP hS => ?_)
    rw [show sPost n σ (nI (bl (x >>> ((nI 3) &&& 31)) 2)) ((nI (bl (x >>> ((nI 4) &&& 31)) (n + 1))) - (nI 1)) = up2 σ 7 (bl (x >>> ((nI 3) &&& 31)) 2) ((nI (bl (x >>> ((nI 4) &&& 31)) (n + 1))) - (nI 1)) from by unfold sPost; rw [if_pos hk9, nN_nI (by omega)]] at hP
    have hP : kP D [41, 10, n, nw, nw] a (eL cI cZ cW cO (xC cI cZ (a 0) n pl nw ns (up2 σ 7 (bl (x >>> ((nI 3) &&& 31)) 2) ((nI (bl (x >>> ((nI 4) &&& 31)) (n + 1))) - (nI 1))) u13) a n nw ns (up2 σ 7 (bl (x >>> ((nI 3) &&& 31)) 2) ((nI (bl (x >>> ((nI 4) &&& 31)) (n + 1))) - (nI 1))) η T) G := hP
    refine li_topi (x' := σ 7 (bl (x >>> ((nI 3) &&& 31)) 2)) (by unfold vPost; rw [if_pos hk9, nN_nI (by omega)]) ?_
    refine lv_iload hx hb dL_act_182 (lv_at hl 0 rfl) ?_
    refine lv_icmp_ne (tgt := 191) hx hb dL_act_184 (by decide) (fun c14 => ?_) (fun c14 => ?_)
    · exact absurd rfl c14
    · skip
      refine lv_iconst (v := nI 1) hx hb dL_act_187 rfl ?_
      refine lv_goto (tgt := 192) hx hb dL_act_188 (by decide) ?_
      exact hEnd 192 ls G locs _ _ a nw _ _ (show 0 ≤ 3 by omega) (show 0 ≤ 35 by omega) dL_act_192 (LV_post hLV (by omega) (by omega)) (by omega) rfl rfl hO hP hS
  · refine lv_tableIn (off := 166) (tgt := 193) hx hb dL_act_27 (by decide) (by decide) rfl (by decide) ?_
    refine lv_iload_n hx hb dL_act_193 rfl (lv_at hl 4 rfl) ?_
    refine lv_iconst (v := nI 3) hx hb dL_act_194 rfl ?_
    refine lv_ishr hx hb dL_act_195 ?_
    refine lv_bipush (v := nI 10) hx hb dL_act_196 rfl ?_
    refine roS0 (As := [.int (x >>> ((nI 3) &&& 31)), .int (nI 10)]) hx hb hml hown hts (c_L_below l D cI cZ cW cO H (x >>> ((nI 3) &&& 31)) 10 (by omega) (by omega)) (va_cwS 2 hts gL_act_L_below rfl rfl rfl (by decide +kernel) ⟨by decide, by decide⟩) hK hE rfl hl.1 rfl (Nat.le_of_ble_eq_true rfl) hS dL_act_198 ⟨show 0 ≤ 3 by omega, show 0 ≤ 35 by omega⟩ (fun locs hS => ?_)
    have hb15 := bl_lt (v := x >>> ((nI 3) &&& 31)) (N := 10) (by omega)
    refine lv_istore (lv' := [(8, .int (nI (bl (x >>> ((nI 3) &&& 31)) 10))), (4, .ref (a 3 w)), (3, .int (nI w)), (0, .ref (a 0 40)), (1, .ref (a 1 0)), (2, .int x)]) hx hb dL_act_201 hl (by decide) rfl (fun ls hl => ?_)
    refine lv_aload_n hx hb dL_act_203 rfl (lv_at hl 4 rfl) ?_
    refine lk_gf3 hx hb hX3 hown hK hP 1 0 (show 0 < 10 by decide) rfl 2 (by decide) f36 rfl dL_act_204 ?_
    refine lv_iload hx hb dL_act_207 (lv_at hl 0 rfl) ?_
    refine lk_ild hx hb hK hP 1 3 (show 3 < 10 by decide) rfl (by omega) (by decide) dL_act_209 ?_
    refine lv_istore (lv' := [(9, .int (σ 3 (bl (x >>> ((nI 3) &&& 31)) 10))), (8, .int (nI (bl (x >>> ((nI 3) &&& 31)) 10))), (4, .ref (a 3 w)), (3, .int (nI w)), (0, .ref (a 0 40)), (1, .ref (a 1 0)), (2, .int x)]) hx hb dL_act_210 hl (by decide) rfl (fun ls hl => ?_)
    refine lv_aload_n hx hb dL_act_212 rfl (lv_at hl 5 rfl) ?_
    refine lk_gf3 hx hb hX3 hown hK hP 1 0 (show 0 < 10 by decide) rfl 2 (by decide) f36 rfl dL_act_213 ?_
    refine lv_iload hx hb dL_act_216 (lv_at hl 1 rfl) ?_
    refine lv_iload_n hx hb dL_act_218 rfl (lv_at hl 6 rfl) ?_
    refine lv_iconst (v := nI 5) hx hb dL_act_219 rfl ?_
    refine lv_ishr hx hb dL_act_220 ?_
    refine lv_bipush (v := nI 10) hx hb dL_act_221 rfl ?_
    refine roS0 (As := [.int (x >>> ((nI 5) &&& 31)), .int (nI 10)]) hx hb hml hown hts (c_L_below l D cI cZ cW cO H (x >>> ((nI 5) &&& 31)) 10 (by omega) (by omega)) (va_cwS 2 hts gL_act_L_below rfl rfl rfl (by decide +kernel) ⟨by decide, by decide⟩) hK hE rfl hl.1 rfl (Nat.le_of_ble_eq_true rfl) hS dL_act_223 ⟨show 0 ≤ 3 by omega, show 0 ≤ 35 by omega⟩ (fun locs hS => ?_)
    have hb16 := bl_lt (v := x >>> ((nI 5) &&& 31)) (N := 10) (by omega)
    refine lk_ist hx hb hK hP hO hS 1 3 (show 3 < 10 by decide) rfl (by omega) (by decide) stS_3 dL_act_226 (fun G locs hP hS => ?_)
    refine lv_aload_n hx hb dL_act_227 rfl (lv_at hl 4 rfl) ?_
    refine lv_iload hx hb dL_act_228 (lv_at hl 1 rfl) ?_
    refine lv_aload_n hx hb dL_act_230 rfl (lv_at hl 5 rfl) ?_
    refine lk_gf3 hx hb hX3 hown hK hP 1 0 (show 0 < 10 by decide) rfl 2 (by decide) f36 rfl dL_act_231 ?_
    refine lv_iload hx hb dL_act_234 (lv_at hl 1 rfl) ?_
    refine lk_ild hx hb hK hP 1 3 (show 3 < 10 by decide) rfl (by omega) (by decide) dL_act_236 ?_
    refine li_topi (show (up2 σ 3 (bl (x >>> ((nI 3) &&& 31)) 10) (nI (bl (x >>> ((nI 5) &&& 31)) 10))) 3 (bl (x >>> ((nI 3) &&& 31)) 10) = nI (bl (x >>> ((nI 5) &&& 31)) 10) from by exact up2_in') ?_
    have hk9 : kWind (nI (bl (x >>> ((nI 3) &&& 31)) 10)) (nI (bl (x >>> ((nI 5) &&& 31)) 10)) = 0 := kWind_0 (by omega) (by omega)
    refine ayK (As := [.int (nI (bl (x >>> ((nI 3) &&& 31)) 10)), .int (nI (bl (x >>> ((nI 5) &&& 31)) 10))]) hx hb hml hown hts (c_X2_setWind l D cI cZ cW cO (a 0) n pl nw ns σ u.1 u.2.1 u.2.2 G (nI (bl (x >>> ((nI 3) &&& 31)) 10)) (nI (bl (x >>> ((nI 5) &&& 31)) 10)) (kA [41] a) (okP_k hO rfl) (by omega) hk9) (cwV 2 hts gL_act_X2_setWind rfl rfl rfl (by decide +kernel) ⟨by decide, by decide⟩) hK hE hO rfl hP rfl hl.1 rfl (Nat.le_of_ble_eq_true rfl) hS dL_act_237 ⟨show 0 ≤ 3 by omega, show 0 ≤ 35 by omega⟩ (fun u17 G locs hP hS => ?_)
    rw [show sWind σ (nI (bl (x >>> ((nI 3) &&& 31)) 10)) (nI (bl (x >>> ((nI 5) &&& 31)) 10)) = up2 σ 3 (bl (x >>> ((nI 3) &&& 31)) 10) (nI (bl (x >>> ((nI 5) &&& 31)) 10)) from by unfold sWind; rw [if_pos hk9, nN_nI (by omega)]] at hP
    have hP : kP D [41, 10, n, nw, nw] a (eL cI cZ cW cO (xC cI cZ (a 0) n pl nw ns (up2 σ 3 (bl (x >>> ((nI 3) &&& 31)) 10) (nI (bl (x >>> ((nI 5) &&& 31)) 10))) u17) a n nw ns (up2 σ 3 (bl (x >>> ((nI 3) &&& 31)) 10) (nI (bl (x >>> ((nI 5) &&& 31)) 10))) η T) G := hP
    refine li_topi (x' := σ 3 (bl (x >>> ((nI 3) &&& 31)) 10)) (by unfold vWind; rw [if_pos hk9, nN_nI (by omega)]) ?_
    refine lv_iload hx hb dL_act_240 (lv_at hl 0 rfl) ?_
    refine lv_icmp_ne (tgt := 249) hx hb dL_act_242 (by decide) (fun c18 => ?_) (fun c18 => ?_)
    · exact absurd rfl c18
    · skip
      refine lv_iconst (v := nI 1) hx hb dL_act_245 rfl ?_
      refine lv_goto (tgt := 250) hx hb dL_act_246 (by decide) ?_
      exact hEnd 250 ls G locs _ _ a nw _ _ (show 0 ≤ 3 by omega) (show 0 ≤ 35 by omega) dL_act_250 (LV_wind hLV (by omega) (by omega)) (by omega) rfl rfl hO hP hS
  · refine lv_tableIn (off := 224) (tgt := 251) hx hb dL_act_27 (by decide) (by decide) rfl (by decide) ?_
    refine lv_aload_n hx hb dL_act_251 rfl (lv_at hl 3 rfl) ?_
    refine lk_gf3 hx hb hX3 hown hK hP 1 0 (show 0 < 10 by decide) rfl 4 (by decide) f50 rfl dL_act_252 ?_
    refine lk_alen hx hb hK hP 1 5 (show 5 < 10 by decide) 0 rfl rfl dL_act_255 ?_
    refine li_ne0 (tgt := 261) hx hb dL_act_256 (by decide) (by omega) (fun c19 => ?_) (fun c19 => ?_)
    · skip
      refine lv_iload_n hx hb dL_act_261 rfl (lv_at hl 4 rfl) ?_
      refine lv_iconst (v := nI 3) hx hb dL_act_262 rfl ?_
      refine lv_ishr hx hb dL_act_263 ?_
      refine lv_aload_n hx hb dL_act_264 rfl (lv_at hl 3 rfl) ?_
      refine lk_gf3 hx hb hX3 hown hK hP 1 0 (show 0 < 10 by decide) rfl 4 (by decide) f50 rfl dL_act_265 ?_
      refine lk_alen hx hb hK hP 1 5 (show 5 < 10 by decide) 0 rfl rfl dL_act_268 ?_
      refine roS0 (As := [.int (x >>> ((nI 3) &&& 31)), .int (nI ns)]) hx hb hml hown hts (c_L_below l D cI cZ cW cO H (x >>> ((nI 3) &&& 31)) ns (by omega) (by omega)) (va_cwS 2 hts gL_act_L_below rfl rfl rfl (by decide +kernel) ⟨by decide, by decide⟩) hK hE rfl hl.1 rfl (Nat.le_of_ble_eq_true rfl) hS dL_act_269 ⟨show 0 ≤ 3 by omega, show 0 ≤ 35 by omega⟩ (fun locs hS => ?_)
      have hb20 := bl_lt (v := x >>> ((nI 3) &&& 31)) (N := ns) (by omega)
      refine lv_istore (lv' := [(10, .int (nI (bl (x >>> ((nI 3) &&& 31)) ns))), (4, .ref (a 3 w)), (3, .int (nI w)), (0, .ref (a 0 40)), (1, .ref (a 1 0)), (2, .int x)]) hx hb dL_act_272 hl (by decide) rfl (fun ls hl => ?_)
      refine lv_aload hx hb dL_act_274 (lv_at hl 1 rfl) ?_
      refine lk_gf4 hx hb hX4 hown hK hP 3 w (show w < nw by omega) rfl 8 (by decide) f64 rfl dL_act_276 ?_
      refine lv_iload hx hb dL_act_279 (lv_at hl 0 rfl) ?_
      refine lk_ild hx hb hK hP 4 w (show w < nw by omega) rfl (by omega) (by decide) dL_act_281 ?_
      refine li_topi (x' := σ 16 (6 * w + (bl (x >>> ((nI 3) &&& 31)) ns))) (kn6_at (by omega)) ?_
      refine lv_istore (lv' := [(11, .int (σ 16 (6 * w + (bl (x >>> ((nI 3) &&& 31)) ns)))), (10, .int (nI (bl (x >>> ((nI 3) &&& 31)) ns))), (4, .ref (a 3 w)), (3, .int (nI w)), (0, .ref (a 0 40)), (1, .ref (a 1 0)), (2, .int x)]) hx hb dL_act_282 hl (by decide) rfl (fun ls hl => ?_)
      refine lv_aload hx hb dL_act_284 (lv_at hl 2 rfl) ?_
      refine lk_gf4 hx hb hX4 hown hK hP 3 w (show w < nw by omega) rfl 8 (by decide) f64 rfl dL_act_286 ?_
      refine lv_iload hx hb dL_act_289 (lv_at hl 1 rfl) ?_
      refine lv_iload_n hx hb dL_act_291 rfl (lv_at hl 6 rfl) ?_
      refine lv_iconst (v := nI 4) hx hb dL_act_292 rfl ?_
      refine lv_ishr hx hb dL_act_293 ?_
      refine lv_iconst (v := nI 3) hx hb dL_act_294 rfl ?_
      refine roS0 (As := [.int (x >>> ((nI 4) &&& 31)), .int (nI 3)]) hx hb hml hown hts (c_L_below l D cI cZ cW cO H (x >>> ((nI 4) &&& 31)) 3 (by omega) (by omega)) (va_cwS 2 hts gL_act_L_below rfl rfl rfl (by decide +kernel) ⟨by decide, by decide⟩) hK hE rfl hl.1 rfl (Nat.le_of_ble_eq_true rfl) hS dL_act_295 ⟨show 0 ≤ 3 by omega, show 0 ≤ 35 by omega⟩ (fun locs hS => ?_)
      have hb21 := bl_lt (v := x >>> ((nI 4) &&& 31)) (N := 3) (by omega)
      refine li_ne0 (tgt := 305) hx hb dL_act_298 (by decide) (by omega) (fun c22 => ?_) (fun c22 => ?_)
      · skip
        refine lv_iload_n hx hb dL_act_305 rfl (lv_at hl 6 rfl) ?_
        refine lv_iconst (v := nI 2) hx hb dL_act_306 rfl ?_
        refine lv_ishr hx hb dL_act_307 ?_
        refine lv_bipush (v := nI 100) hx hb dL_act_308 rfl ?_
        refine roS0 (As := [.int (x >>> ((nI 2) &&& 31)), .int (nI 100)]) hx hb hml hown hts (c_L_below l D cI cZ cW cO H (x >>> ((nI 2) &&& 31)) 100 (by omega) (by omega)) (va_cwS 2 hts gL_act_L_below rfl rfl rfl (by decide +kernel) ⟨by decide, by decide⟩) hK hE rfl hl.1 rfl (Nat.le_of_ble_eq_true rfl) hS dL_act_310 ⟨show 0 ≤ 3 by omega, show 0 ≤ 35 by omega⟩ (fun locs hS => ?_)
        have hb23 := bl_lt (v := x >>> ((nI 2) &&& 31)) (N := 100) (by omega)
        refine lk_ist hx hb hK hP hO hS 4 w (show w < nw by omega) rfl (by omega) (by decide) (stS_16 (by omega)) dL_act_313 (fun G locs hP hS => ?_)
        refine lv_aload_n hx hb dL_act_314 rfl (lv_at hl 4 rfl) ?_
        refine lv_iload_n hx hb dL_act_315 rfl (lv_at hl 3 rfl) ?_
        refine lv_iload hx hb dL_act_316 (lv_at hl 1 rfl) ?_
        refine lv_aload hx hb dL_act_318 (lv_at hl 2 rfl) ?_
        refine lk_gf4 hx hb hX4 hown hK hP 3 w (show w < nw by omega) rfl 8 (by decide) f64 rfl dL_act_320 ?_
        refine lv_iload hx hb dL_act_323 (lv_at hl 1 rfl) ?_
        refine lk_ild hx hb hK hP 4 w (show w < nw by omega) rfl (by omega) (by decide) dL_act_325 ?_
        refine li_topi (x' := (up2 σ 16 (6 * w + (bl (x >>> ((nI 3) &&& 31)) ns)) (nI (bl (x >>> ((nI 2) &&& 31)) 100))) 16 (6 * w + (bl (x >>> ((nI 3) &&& 31)) ns))) (kn6_at (by omega)) ?_
        refine li_topi (show (up2 σ 16 (6 * w + (bl (x >>> ((nI 3) &&& 31)) ns)) (nI (bl (x >>> ((nI 2) &&& 31)) 100))) 16 (6 * w + (bl (x >>> ((nI 3) &&& 31)) ns)) = nI (bl (x >>> ((nI 2) &&& 31)) 100) from by exact up2_in') ?_
        have hk9 : kTeach nw ns (nI w) (nI (bl (x >>> ((nI 3) &&& 31)) ns)) (nI (bl (x >>> ((nI 2) &&& 31)) 100)) = 0 := kTeach_0 (by omega) (by omega) (by omega) (by omega) (by omega)
        refine ayK (As := [.int (nI w), .int (nI (bl (x >>> ((nI 3) &&& 31)) ns)), .int (nI (bl (x >>> ((nI 2) &&& 31)) 100))]) hx hb hml hown hts (c_X2_teach l D cI cZ cW cO (a 0) n pl nw ns σ u.1 u.2.1 u.2.2 G (nI w) (nI (bl (x >>> ((nI 3) &&& 31)) ns)) (nI (bl (x >>> ((nI 2) &&& 31)) 100)) (kA [41] a) (okP_k hO rfl) (by omega) hk9) (cwV 3 hts gL_act_X2_teach rfl rfl rfl (by decide +kernel) ⟨by decide, by decide⟩) hK hE hO rfl hP rfl hl.1 rfl (Nat.le_of_ble_eq_true rfl) hS dL_act_326 ⟨show 0 ≤ 3 by omega, show 0 ≤ 35 by omega⟩ (fun u24 G locs hP hS => ?_)
        rw [show sTeach nw ns σ (nI w) (nI (bl (x >>> ((nI 3) &&& 31)) ns)) (nI (bl (x >>> ((nI 2) &&& 31)) 100)) = up2 σ 16 (6 * w + (bl (x >>> ((nI 3) &&& 31)) ns)) (nI (bl (x >>> ((nI 2) &&& 31)) 100)) from by unfold sTeach; rw [if_pos hk9, nN_nI (by omega), nN_nI (by omega)]] at hP
        have hP : kP D [41, 10, n, nw, nw] a (eL cI cZ cW cO (xC cI cZ (a 0) n pl nw ns (up2 σ 16 (6 * w + (bl (x >>> ((nI 3) &&& 31)) ns)) (nI (bl (x >>> ((nI 2) &&& 31)) 100))) u24) a n nw ns (up2 σ 16 (6 * w + (bl (x >>> ((nI 3) &&& 31)) ns)) (nI (bl (x >>> ((nI 2) &&& 31)) 100))) η T) G := hP
        refine li_topi (x' := σ 16 (6 * w + (bl (x >>> ((nI 3) &&& 31)) ns))) (by unfold vTeach; rw [if_pos hk9, nN_nI (by omega), nN_nI (by omega)]) ?_
        refine lv_iload hx hb dL_act_329 (lv_at hl 0 rfl) ?_
        refine lv_icmp_ne (tgt := 338) hx hb dL_act_331 (by decide) (fun c25 => ?_) (fun c25 => ?_)
        · exact absurd rfl c25
        · skip
          refine lv_iconst (v := nI 1) hx hb dL_act_334 rfl ?_
          refine lv_goto (tgt := 339) hx hb dL_act_335 (by decide) ?_
          exact hEnd 339 ls G locs _ _ a nw _ _ (show 0 ≤ 3 by omega) (show 0 ≤ 35 by omega) dL_act_339 (LV_teach hLV (by omega) (by omega) (by omega)) (by omega) rfl rfl hO hP hS
      · skip
        refine lv_iconst (v := nI 0) hx hb dL_act_301 rfl ?_
        refine lv_goto (tgt := 313) hx hb dL_act_302 (by decide) ?_
        refine lk_ist hx hb hK hP hO hS 4 w (show w < nw by omega) rfl (by omega) (by decide) (stS_16 (by omega)) dL_act_313 (fun G locs hP hS => ?_)
        refine lv_aload_n hx hb dL_act_314 rfl (lv_at hl 4 rfl) ?_
        refine lv_iload_n hx hb dL_act_315 rfl (lv_at hl 3 rfl) ?_
        refine lv_iload hx hb dL_act_316 (lv_at hl 1 rfl) ?_
        refine lv_aload hx hb dL_act_318 (lv_at hl 2 rfl) ?_
        refine lk_gf4 hx hb hX4 hown hK hP 3 w (show w < nw by omega) rfl 8 (by decide) f64 rfl dL_act_320 ?_
        refine lv_iload hx hb dL_act_323 (lv_at hl 1 rfl) ?_
        refine lk_ild hx hb hK hP 4 w (show w < nw by omega) rfl (by omega) (by decide) dL_act_325 ?_
        refine li_topi (x' := (up2 σ 16 (6 * w + (bl (x >>> ((nI 3) &&& 31)) ns)) (nI 0)) 16 (6 * w + (bl (x >>> ((nI 3) &&& 31)) ns))) (kn6_at (by omega)) ?_
        refine li_topi (show (up2 σ 16 (6 * w + (bl (x >>> ((nI 3) &&& 31)) ns)) (nI 0)) 16 (6 * w + (bl (x >>> ((nI 3) &&& 31)) ns)) = nI 0 from by exact up2_in') ?_
        have hk9 : kTeach nw ns (nI w) (nI (bl (x >>> ((nI 3) &&& 31)) ns)) (nI 0) = 0 := kTeach_0 (by omega) (by omega) (by omega) (by omega) (by omega)
        refine ayK (As := [.int (nI w), .int (nI (bl (x >>> ((nI 3) &&& 31)) ns)), .int (nI 0)]) hx hb hml hown hts (c_X2_teach l D cI cZ cW cO (a 0) n pl nw ns σ u.1 u.2.1 u.2.2 G (nI w) (nI (bl (x >>> ((nI 3) &&& 31)) ns)) (nI 0) (kA [41] a) (okP_k hO rfl) (by omega) hk9) (cwV 3 hts gL_act_X2_teach rfl rfl rfl (by decide +kernel) ⟨by decide, by decide⟩) hK hE hO rfl hP rfl hl.1 rfl (Nat.le_of_ble_eq_true rfl) hS dL_act_326 ⟨show 0 ≤ 3 by omega, show 0 ≤ 35 by omega⟩ (fun u26 G locs hP hS => ?_)
        rw [show sTeach nw ns σ (nI w) (nI (bl (x >>> ((nI 3) &&& 31)) ns)) (nI 0) = up2 σ 16 (6 * w + (bl (x >>> ((nI 3) &&& 31)) ns)) (nI 0) from by unfold sTeach; rw [if_pos hk9, nN_nI (by omega), nN_nI (by omega)]] at hP
        have hP : kP D [41, 10, n, nw, nw] a (eL cI cZ cW cO (xC cI cZ (a 0) n pl nw ns (up2 σ 16 (6 * w + (bl (x >>> ((nI 3) &&& 31)) ns)) (nI 0)) u26) a n nw ns (up2 σ 16 (6 * w + (bl (x >>> ((nI 3) &&& 31)) ns)) (nI 0)) η T) G := hP
        refine li_topi (x' := σ 16 (6 * w + (bl (x >>> ((nI 3) &&& 31)) ns))) (by unfold vTeach; rw [if_pos hk9, nN_nI (by omega), nN_nI (by omega)]) ?_
        refine lv_iload hx hb dL_act_329 (lv_at hl 0 rfl) ?_
        refine lv_icmp_ne (tgt := 338) hx hb dL_act_331 (by decide) (fun c27 => ?_) (fun c27 => ?_)
        · exact absurd rfl c27
        · skip
          refine lv_iconst (v := nI 1) hx hb dL_act_334 rfl ?_
          refine lv_goto (tgt := 339) hx hb dL_act_335 (by decide) ?_
          exact hEnd 339 ls G locs _ _ a nw _ _ (show 0 ≤ 3 by omega) (show 0 ≤ 35 by omega) dL_act_339 (LV_teach hLV (by omega) (by omega) (by omega)) (by omega) rfl rfl hO hP hS
    · skip
      refine lv_iconst (v := nI 1) hx hb dL_act_259 rfl ?_
      exact hEnd 260 ls H locs _ _ a nw _ _ (show 0 ≤ 3 by omega) (show 0 ≤ 35 by omega) dL_act_260 (hLV) (by omega) rfl rfl hO hP hS
  · refine lv_tableOut (tgt := 340) hx hb dL_act_27 (by decide) (by decide) ?_
    refine lv_aload_n hx hb dL_act_340 rfl (lv_at hl 3 rfl) ?_
    refine lk_gf3 hx hb hX3 hown hK hP 1 0 (show 0 < 10 by decide) rfl 3 (by decide) f60 rfl dL_act_341 ?_
    refine lk_alen hx hb hK hP 1 4 (show 4 < 10 by decide) 2 rfl rfl dL_act_344 ?_
    refine lv_bipush (v := nI 20) hx hb dL_act_345 rfl ?_
    refine li_ne (tgt := 352) hx hb dL_act_347 (by decide) (by omega) (by omega) (fun c28 => ?_) (fun c28 => ?_)
    · skip
      have hq0 := ha0
      refine lv_aload_n hx hb dL_act_352 rfl (lv_at hl 3 rfl) ?_
      refine lv_iconst (v := nI 1) hx hb dL_act_353 rfl ?_
      refine lv_iload_n hx hb dL_act_354 rfl (lv_at hl 4 rfl) ?_
      refine lv_iconst (v := nI 3) hx hb dL_act_355 rfl ?_
      refine roS0 (As := [.int x, .int (nI 3)]) hx hb hml hown hts (c_L_below l D cI cZ cW cO H x 3 (by omega) (by omega)) (va_cwS 2 hts gL_act_L_below rfl rfl rfl (by decide +kernel) ⟨by decide, by decide⟩) hK hE rfl hl.1 rfl (Nat.le_of_ble_eq_true rfl) hS dL_act_356 ⟨show 0 ≤ 3 by omega, show 0 ≤ 35 by omega⟩ (fun locs hS => ?_)
      have hb29 := bl_lt (v := x) (N := 3) (by omega)
      refine lv_iadd hx hb dL_act_359 ?_
      refine li_topi (nI_add _ _) ?_
      refine lv_iload_n hx hb dL_act_360 rfl (lv_at hl 4 rfl) ?_
      refine lv_iconst (v := nI 2) hx hb dL_act_361 rfl ?_
      refine lv_ishr hx hb dL_act_362 ?_
      refine lv_bipush (v := nI 60) hx hb dL_act_363 rfl ?_
      refine roS0 (As := [.int (x >>> ((nI 2) &&& 31)), .int (nI 60)]) hx hb hml hown hts (c_L_below l D cI cZ cW cO H (x >>> ((nI 2) &&& 31)) 60 (by omega) (by omega)) (va_cwS 2 hts gL_act_L_below rfl rfl rfl (by decide +kernel) ⟨by decide, by decide⟩) hK hE rfl hl.1 rfl (Nat.le_of_ble_eq_true rfl) hS dL_act_365 ⟨show 0 ≤ 3 by omega, show 0 ≤ 35 by omega⟩ (fun locs hS => ?_)
      have hb30 := bl_lt (v := x >>> ((nI 2) &&& 31)) (N := 60) (by omega)
      refine lv_iload_n hx hb dL_act_368 rfl (lv_at hl 4 rfl) ?_
      refine lv_iconst (v := nI 4) hx hb dL_act_369 rfl ?_
      refine lv_ishr hx hb dL_act_370 ?_
      refine lv_bipush (v := nI 10) hx hb dL_act_371 rfl ?_
      refine roS0 (As := [.int (x >>> ((nI 4) &&& 31)), .int (nI 10)]) hx hb hml hown hts (c_L_below l D cI cZ cW cO H (x >>> ((nI 4) &&& 31)) 10 (by omega) (by omega)) (va_cwS 2 hts gL_act_L_below rfl rfl rfl (by decide +kernel) ⟨by decide, by decide⟩) hK hE rfl hl.1 rfl (Nat.le_of_ble_eq_true rfl) hS dL_act_373 ⟨show 0 ≤ 3 by omega, show 0 ≤ 35 by omega⟩ (fun locs hS => ?_)
      have hb31 := bl_lt (v := x >>> ((nI 4) &&& 31)) (N := 10) (by omega)
      have hO9 := hO.sub (M' := (MS n nw)) kLS
      have hF9 : ∀ q, kF (MS n nw) a H.size q → A q := fun q h => h.elim (kA_of hO9 q) (fun h => hA q (Nat.le_trans hS.1 h))
      refine knK (As := [.int (nI (1 + (bl x 3))), .int (nI (bl (x >>> ((nI 2) &&& 31)) 60)), .int (nI (bl (x >>> ((nI 4) &&& 31)) 10))]) hx hb hml hown hts (c_X3_come l D cI cZ cW cO (xC cI cZ (a 0) n pl nw ns σ u) a n nw ns σ η T H (nI (1 + (bl x 3))) (nI (bl (x >>> ((nI 2) &&& 31)) 60)) (nI (bl (x >>> ((nI 4) &&& 31)) 10)) (kF (MS n nw) a H.size) (hO9.kA.weak (fun _ h => Or.inl h)) (by omega) (by omega) (LV_CZ hLV) (fun _ h => Or.inr h)) (cwV 3 hts gL_act_X3_come rfl rfl rfl (by decide +kernel) ⟨by decide, by decide⟩) hK hE (hP.sub kLS) (show 0 < 10 by decide) rfl rfl hl.1 rfl (Nat.le_of_ble_eq_true rfl) hS hF9 dL_act_376 ⟨show 0 + 3 ≤ 3 by omega, show 0 + 35 ≤ 35 by omega⟩ (fun b9 G locs hP1 hO1 hf9 h19 hz9 hk8 hS => ?_)
      obtain ⟨a32, e0, e1, hP, hO⟩ := kt_mix hO hP hP1 hO1 hf9 hk8 hF9
      rw [h19] at e1
      have hP : kP D [41, 10, n, nw + 1, nw + 1] a32 (eL cI cZ cW cO (xC cI cZ (a32 0) n pl nw ns σ u) a32 n (nw + 1) ns (sCome nw σ (nI (1 + (bl x 3))) (nI (bl (x >>> ((nI 2) &&& 31)) 60)) (nI (bl (x >>> ((nI 4) &&& 31)) 10))) η T) G := hP
      have ha0 : a32 0 = a0 := e0.trans ha0
      have hl : lv_has ls 12 [(3, .int (nI w)), (0, .ref (a 0 40)), (1, .ref (a 1 0)), (2, .int x)] := lv_sub hl [1, 2, 3, 4] rfl
      have hl : lv_has ls 12 [(3, .int (nI w)), (0, .ref (a32 0 40)), (1, .ref (a32 1 0)), (2, .int x)] := by rw [congrFun e0 40, e1]; exact hl
      refine lv_aload_n hx hb dL_act_379 rfl (lv_at hl 1 rfl) ?_
      refine lv_iconst (v := nI 1) hx hb dL_act_380 rfl ?_
      refine lv_iload_n hx hb dL_act_381 rfl (lv_at hl 3 rfl) ?_
      refine lv_iconst (v := nI 3) hx hb dL_act_382 rfl ?_
      refine roS0 (As := [.int x, .int (nI 3)]) hx hb hml hown hts (c_L_below l D cI cZ cW cO G x 3 (by omega) (by omega)) (va_cwS 2 hts gL_act_L_below rfl rfl rfl (by decide +kernel) ⟨by decide, by decide⟩) hK hE rfl hl.1 rfl (Nat.le_of_ble_eq_true rfl) hS dL_act_383 ⟨show 0 + 3 ≤ 3 by omega, show 0 + 35 ≤ 35 by omega⟩ (fun locs hS => ?_)
      have hb33 := bl_lt (v := x) (N := 3) (by omega)
      refine lv_iadd hx hb dL_act_386 ?_
      refine li_topi (nI_add _ _) ?_
      refine lv_iload_n hx hb dL_act_387 rfl (lv_at hl 3 rfl) ?_
      refine lv_iconst (v := nI 2) hx hb dL_act_388 rfl ?_
      refine lv_ishr hx hb dL_act_389 ?_
      refine lv_bipush (v := nI 60) hx hb dL_act_390 rfl ?_
      refine roS0 (As := [.int (x >>> ((nI 2) &&& 31)), .int (nI 60)]) hx hb hml hown hts (c_L_below l D cI cZ cW cO G (x >>> ((nI 2) &&& 31)) 60 (by omega) (by omega)) (va_cwS 2 hts gL_act_L_below rfl rfl rfl (by decide +kernel) ⟨by decide, by decide⟩) hK hE rfl hl.1 rfl (Nat.le_of_ble_eq_true rfl) hS dL_act_392 ⟨show 0 + 3 ≤ 3 by omega, show 0 + 35 ≤ 35 by omega⟩ (fun locs hS => ?_)
      have hb34 := bl_lt (v := x >>> ((nI 2) &&& 31)) (N := 60) (by omega)
      refine lv_iload_n hx hb dL_act_395 rfl (lv_at hl 3 rfl) ?_
      refine lv_iconst (v := nI 4) hx hb dL_act_396 rfl ?_
      refine lv_ishr hx hb dL_act_397 ?_
      refine lv_bipush (v := nI 10) hx hb dL_act_398 rfl ?_
      refine roS0 (As := [.int (x >>> ((nI 4) &&& 31)), .int (nI 10)]) hx hb hml hown hts (c_L_below l D cI cZ cW cO G (x >>> ((nI 4) &&& 31)) 10 (by omega) (by omega)) (va_cwS 2 hts gL_act_L_below rfl rfl rfl (by decide +kernel) ⟨by decide, by decide⟩) hK hE rfl hl.1 rfl (Nat.le_of_ble_eq_true rfl) hS dL_act_400 ⟨show 0 + 3 ≤ 3 by omega, show 0 + 35 ≤ 35 by omega⟩ (fun locs hS => ?_)
      have hb35 := bl_lt (v := x >>> ((nI 4) &&& 31)) (N := 10) (by omega)
      have hk9 : kCome nw (nI (1 + (bl x 3))) (nI (bl (x >>> ((nI 2) &&& 31)) 60)) (nI (bl (x >>> ((nI 4) &&& 31)) 10)) = 0 := kCome_0 (by omega) (by omega) (by omega) (by omega) (by omega)
      refine ayK (As := [.int (nI (1 + (bl x 3))), .int (nI (bl (x >>> ((nI 2) &&& 31)) 60)), .int (nI (bl (x >>> ((nI 4) &&& 31)) 10))]) hx hb hml hown hts (c_X2_come l D cI cZ cW cO (a32 0) n pl nw ns σ u.1 u.2.1 u.2.2 G (nI (1 + (bl x 3))) (nI (bl (x >>> ((nI 2) &&& 31)) 60)) (nI (bl (x >>> ((nI 4) &&& 31)) 10)) (kA [41] a32) (okP_k hO rfl) (by omega) hk9) (cwV 3 hts gL_act_X2_come rfl rfl rfl (by decide +kernel) ⟨by decide, by decide⟩) hK hE hO rfl hP rfl hl.1 rfl (Nat.le_of_ble_eq_true rfl) hS dL_act_403 ⟨show 0 + 3 ≤ 3 by omega, show 0 + 35 ≤ 35 by omega⟩ (fun u36 G locs hP hS => ?_)
      rw [show nCome nw (nI (1 + (bl x 3))) (nI (bl (x >>> ((nI 2) &&& 31)) 60)) (nI (bl (x >>> ((nI 4) &&& 31)) 10)) = nw + 1 from if_pos hk9, show sComeK nw σ (nI (1 + (bl x 3))) (nI (bl (x >>> ((nI 2) &&& 31)) 60)) (nI (bl (x >>> ((nI 4) &&& 31)) 10)) = sCome nw σ (nI (1 + (bl x 3))) (nI (bl (x >>> ((nI 2) &&& 31)) 60)) (nI (bl (x >>> ((nI 4) &&& 31)) 10)) from if_pos hk9] at hP
      have hP : kP D [41, 10, n, nw + 1, nw + 1] a32 (eL cI cZ cW cO (xC cI cZ (a32 0) n pl (nw + 1) ns (sCome nw σ (nI (1 + (bl x 3))) (nI (bl (x >>> ((nI 2) &&& 31)) 60)) (nI (bl (x >>> ((nI 4) &&& 31)) 10))) u36) a32 n (nw + 1) ns (sCome nw σ (nI (1 + (bl x 3))) (nI (bl (x >>> ((nI 2) &&& 31)) 60)) (nI (bl (x >>> ((nI 4) &&& 31)) 10))) η T) G := hP
      refine li_topi (x' := nI nw) (if_pos hk9) ?_
      refine lv_aload_n hx hb dL_act_406 rfl (lv_at hl 2 rfl) ?_
      refine lk_gf3 hx hb hX3 hown hK hP 1 0 (show 0 < 10 by decide) rfl 3 (by decide) f60 rfl dL_act_407 ?_
      refine lk_alen hx hb hK hP 1 4 (show 4 < 10 by decide) 2 rfl rfl dL_act_410 ?_
      refine lv_iconst (v := nI 1) hx hb dL_act_411 rfl ?_
      refine lv_isub hx hb dL_act_412 ?_
      refine li_topi (show (nI (nw + 1)) - (nI 1) = nI nw from by rw [pk_sub (by omega), Nat.add_sub_cancel]) ?_
      refine li_ne (tgt := 420) hx hb dL_act_413 (by decide) (by omega) (by omega) (fun c37 => ?_) (fun c37 => ?_)
      · exact absurd rfl c37
      · skip
        refine lv_iconst (v := nI 1) hx hb dL_act_416 rfl ?_
        refine lv_goto (tgt := 421) hx hb dL_act_417 (by decide) ?_
        exact hEnd 421 ls G locs _ _ a32 (nw + 1) _ _ (show 0 + 3 ≤ 3 by omega) (show 0 + 35 ≤ 35 by omega) dL_act_421 (LV_come hLV (by omega) (by omega) (by omega) (by omega) (by omega)) (by omega) (ha0.trans hq0.symm) e1 hO hP hS
    · skip
      refine lv_iconst (v := nI 1) hx hb dL_act_350 rfl ?_
      exact hEnd 351 ls H locs _ _ a nw _ _ (show 0 ≤ 3 by omega) (show 0 ≤ 35 by omega) dL_act_351 (hLV) (by omega) rfl rfl hO hP hS
