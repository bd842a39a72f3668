/-! THE LAW'S START: what the tables and the premises give; the whole world (wL) of the law's loop -/
def LA (s : State) : Nat → Prop := fun q => s.heap.size ≤ q
theorem lw_E {s : State} {b : Nat} (hts : ∀ w ∈ lw_tbl, w.before #[Value.ref b] s = true) : lwE s := ⟨va_Nw.of rfl (hts _ (List.mem_of_getElem? (i := 509) (by decide +kernel))), va_Nw.of rfl (hts _ (List.mem_of_getElem? (i := 76) (by decide +kernel))), va_Nw.of rfl (hts _ (List.mem_of_getElem? (i := 914) (by decide +kernel))), (show (Cond.arrayOver (.array .int)).before #[Value.ref b] s = true from (hts _ (List.mem_of_getElem? (i := 908) (by decide +kernel))))⟩
theorem lw_W {s : State} {b : Nat} (hts : ∀ w ∈ lw_tbl, w.before #[Value.ref b] s = true) (hg : (Jvm.Cond.and given_1 narrow_1).before #[Value.ref b] s = true) : lwW s := by
  have hf := flat_of_before _ hg
  refine ⟨fun E hE => ?_, fun Y hY => ?_, fun E hE F hF hne => ?_, fun q hq => ?_⟩
  · rcases (show E = eA ∨ E = eS ∨ E = eI by simpa [xE] using hE) with rfl | rfl | rfl
    · exact va_Nw.of rfl (hts _ (List.mem_of_getElem? (i := 295) (by decide +kernel)))
    · exact va_Nw.of rfl (hts _ (List.mem_of_getElem? (i := 363) (by decide +kernel)))
    · exact va_Nw.of rfl (hts _ (List.mem_of_getElem? (i := 395) (by decide +kernel)))
  · rcases (show Y = "java/lang/RuntimeException" ∨ Y = "java/lang/Exception" ∨ Y = "java/lang/Throwable" by simpa [xY] using hY) with rfl | rfl | rfl
    · exact va_Nw.of rfl (hts _ (List.mem_of_getElem? (i := 297) (by decide +kernel)))
    · exact va_Nw.of rfl (hts _ (List.mem_of_getElem? (i := 299) (by decide +kernel)))
    · exact va_Nw.of rfl (hts _ (List.mem_of_getElem? (i := 301) (by decide +kernel)))
  · rcases (show E = eA ∨ E = eS ∨ E = eI by simpa [xE] using hE) with rfl | rfl | rfl <;> rcases (show F = eA ∨ F = eS ∨ F = eI by simpa [xE] using hF) with rfl | rfl | rfl
    · exact absurd rfl hne
    · exact va_Nc.of (hf _ (List.mem_of_getElem? (i := 16) (by decide +kernel)))
    · exact va_Nc.of (hf _ (List.mem_of_getElem? (i := 22) (by decide +kernel)))
    · exact va_Nc.of (hf _ (List.mem_of_getElem? (i := 10) (by decide +kernel)))
    · exact absurd rfl hne
    · exact va_Nc.of (hf _ (List.mem_of_getElem? (i := 23) (by decide +kernel)))
    · exact va_Nc.of (hf _ (List.mem_of_getElem? (i := 11) (by decide +kernel)))
    · exact va_Nc.of (hf _ (List.mem_of_getElem? (i := 17) (by decide +kernel)))
    · exact absurd rfl hne
  · rcases (show q = (30, "length is not 1 to 20, or lets is not 1 to 4") ∨ q = (44, "there are 10 stretches, or a step has gone by") ∨ q = (57, "no such steward or stretch") ∨ q = (64, "step is not 0 to 9") ∨ q = (66, "wind is not 0 to 9") ∨ q = (71, "pace is not 1 to 3, wick not 0 to 200, or voice not 0 to 9") ∨ q = (76, "there are 20 walkers") ∨ q = (91, "no such walker") ∨ q = (93, "wick is not 1 to 200") ∨ q = (98, "this walker is home") ∨ q = (105, "length is not 1 to 9") ∨ q = (110, "there are 6 songs") ∨ q = (119, "no such walker or song") ∨ q = (121, "version is not 0 to 99") ∨ q = (129, "no such stretch, or what is not 0 to 5") ∨ q = (134, "no such walker, or what is not 0 to 8") ∨ q = (139, "no such song, or what is not 0 to 3") ∨ q = (153, "steps is not 1 to 200") ∨ q = (155, "the route has no stretch") ∨ q = (164, "what is not 0 to 10") ∨ q = (169, "steps is not 1 to 150") ∨ q = (171, "what is not 0 to 2") ∨ q = (187, "steward is not 0 to 1") ∨ q = (189, "steps is not 1 to 100") by simpa [xStr] using hq) with rfl | rfl | rfl | rfl | rfl | rfl | rfl | rfl | rfl | rfl | rfl | rfl | rfl | rfl | rfl | rfl | rfl | rfl | rfl | rfl | rfl | rfl | rfl | rfl
    · obtain ⟨a, cq, cell, k, q1, -⟩ := Cond.exactly_spec (show (Jvm.Cond.exactly (Jvm.Term.string "LanternWalk" (30 : Nat)) "java/lang/String").before #[Value.ref b] s = true from (hf _ (List.mem_of_getElem? (i := 24) (by decide +kernel))))
      exact ⟨a, vk_R.of (hts _ (List.mem_of_getElem? (i := 334) (by decide +kernel))) q1⟩
    · obtain ⟨a, cq, cell, k, q1, -⟩ := Cond.exactly_spec (show (Jvm.Cond.exactly (Jvm.Term.string "LanternWalk" (44 : Nat)) "java/lang/String").before #[Value.ref b] s = true from (hf _ (List.mem_of_getElem? (i := 72) (by decide +kernel))))
      exact ⟨a, vk_R.of (hts _ (List.mem_of_getElem? (i := 370) (by decide +kernel))) q1⟩
    · obtain ⟨a, cq, cell, k, q1, -⟩ := Cond.exactly_spec (show (Jvm.Cond.exactly (Jvm.Term.string "LanternWalk" (57 : Nat)) "java/lang/String").before #[Value.ref b] s = true from (hf _ (List.mem_of_getElem? (i := 122) (by decide +kernel))))
      exact ⟨a, vk_R.of (hts _ (List.mem_of_getElem? (i := 402) (by decide +kernel))) q1⟩
    · obtain ⟨a, cq, cell, k, q1, -⟩ := Cond.exactly_spec (show (Jvm.Cond.exactly (Jvm.Term.string "LanternWalk" (64 : Nat)) "java/lang/String").before #[Value.ref b] s = true from (hf _ (List.mem_of_getElem? (i := 154) (by decide +kernel))))
      exact ⟨a, vk_R.of (hts _ (List.mem_of_getElem? (i := 416) (by decide +kernel))) q1⟩
    · obtain ⟨a, cq, cell, k, q1, -⟩ := Cond.exactly_spec (show (Jvm.Cond.exactly (Jvm.Term.string "LanternWalk" (66 : Nat)) "java/lang/String").before #[Value.ref b] s = true from (hf _ (List.mem_of_getElem? (i := 179) (by decide +kernel))))
      exact ⟨a, vk_R.of (hts _ (List.mem_of_getElem? (i := 417) (by decide +kernel))) q1⟩
    · obtain ⟨a, cq, cell, k, q1, -⟩ := Cond.exactly_spec (show (Jvm.Cond.exactly (Jvm.Term.string "LanternWalk" (71 : Nat)) "java/lang/String").before #[Value.ref b] s = true from (hf _ (List.mem_of_getElem? (i := 205) (by decide +kernel))))
      exact ⟨a, vk_R.of (hts _ (List.mem_of_getElem? (i := 425) (by decide +kernel))) q1⟩
    · obtain ⟨a, cq, cell, k, q1, -⟩ := Cond.exactly_spec (show (Jvm.Cond.exactly (Jvm.Term.string "LanternWalk" (76 : Nat)) "java/lang/String").before #[Value.ref b] s = true from (hf _ (List.mem_of_getElem? (i := 272) (by decide +kernel))))
      exact ⟨a, vk_R.of (hts _ (List.mem_of_getElem? (i := 426) (by decide +kernel))) q1⟩
    · obtain ⟨a, cq, cell, k, q1, -⟩ := Cond.exactly_spec (show (Jvm.Cond.exactly (Jvm.Term.string "LanternWalk" (91 : Nat)) "java/lang/String").before #[Value.ref b] s = true from (hf _ (List.mem_of_getElem? (i := 302) (by decide +kernel))))
      exact ⟨a, vk_R.of (hts _ (List.mem_of_getElem? (i := 442) (by decide +kernel))) q1⟩
    · obtain ⟨a, cq, cell, k, q1, -⟩ := Cond.exactly_spec (show (Jvm.Cond.exactly (Jvm.Term.string "LanternWalk" (93 : Nat)) "java/lang/String").before #[Value.ref b] s = true from (hf _ (List.mem_of_getElem? (i := 327) (by decide +kernel))))
      exact ⟨a, vk_R.of (hts _ (List.mem_of_getElem? (i := 443) (by decide +kernel))) q1⟩
    · obtain ⟨a, cq, cell, k, q1, -⟩ := Cond.exactly_spec (show (Jvm.Cond.exactly (Jvm.Term.string "LanternWalk" (98 : Nat)) "java/lang/String").before #[Value.ref b] s = true from (hf _ (List.mem_of_getElem? (i := 359) (by decide +kernel))))
      exact ⟨a, vk_R.of (hts _ (List.mem_of_getElem? (i := 444) (by decide +kernel))) q1⟩
    · obtain ⟨a, cq, cell, k, q1, -⟩ := Cond.exactly_spec (show (Jvm.Cond.exactly (Jvm.Term.string "LanternWalk" (105 : Nat)) "java/lang/String").before #[Value.ref b] s = true from (hf _ (List.mem_of_getElem? (i := 391) (by decide +kernel))))
      exact ⟨a, vk_R.of (hts _ (List.mem_of_getElem? (i := 455) (by decide +kernel))) q1⟩
    · obtain ⟨a, cq, cell, k, q1, -⟩ := Cond.exactly_spec (show (Jvm.Cond.exactly (Jvm.Term.string "LanternWalk" (110 : Nat)) "java/lang/String").before #[Value.ref b] s = true from (hf _ (List.mem_of_getElem? (i := 425) (by decide +kernel))))
      exact ⟨a, vk_R.of (hts _ (List.mem_of_getElem? (i := 456) (by decide +kernel))) q1⟩
    · obtain ⟨a, cq, cell, k, q1, -⟩ := Cond.exactly_spec (show (Jvm.Cond.exactly (Jvm.Term.string "LanternWalk" (119 : Nat)) "java/lang/String").before #[Value.ref b] s = true from (hf _ (List.mem_of_getElem? (i := 457) (by decide +kernel))))
      exact ⟨a, vk_R.of (hts _ (List.mem_of_getElem? (i := 472) (by decide +kernel))) q1⟩
    · obtain ⟨a, cq, cell, k, q1, -⟩ := Cond.exactly_spec (show (Jvm.Cond.exactly (Jvm.Term.string "LanternWalk" (121 : Nat)) "java/lang/String").before #[Value.ref b] s = true from (hf _ (List.mem_of_getElem? (i := 495) (by decide +kernel))))
      exact ⟨a, vk_R.of (hts _ (List.mem_of_getElem? (i := 473) (by decide +kernel))) q1⟩
    · obtain ⟨a, cq, cell, k, q1, -⟩ := Cond.exactly_spec (show (Jvm.Cond.exactly (Jvm.Term.string "LanternWalk" (129 : Nat)) "java/lang/String").before #[Value.ref b] s = true from (hf _ (List.mem_of_getElem? (i := 534) (by decide +kernel))))
      exact ⟨a, vk_R.of (hts _ (List.mem_of_getElem? (i := 481) (by decide +kernel))) q1⟩
    · obtain ⟨a, cq, cell, k, q1, -⟩ := Cond.exactly_spec (show (Jvm.Cond.exactly (Jvm.Term.string "LanternWalk" (134 : Nat)) "java/lang/String").before #[Value.ref b] s = true from (hf _ (List.mem_of_getElem? (i := 590) (by decide +kernel))))
      exact ⟨a, vk_R.of (hts _ (List.mem_of_getElem? (i := 489) (by decide +kernel))) q1⟩
    · obtain ⟨a, cq, cell, k, q1, -⟩ := Cond.exactly_spec (show (Jvm.Cond.exactly (Jvm.Term.string "LanternWalk" (139 : Nat)) "java/lang/String").before #[Value.ref b] s = true from (hf _ (List.mem_of_getElem? (i := 646) (by decide +kernel))))
      exact ⟨a, vk_R.of (hts _ (List.mem_of_getElem? (i := 504) (by decide +kernel))) q1⟩
    · obtain ⟨a, cq, cell, k, q1, -⟩ := Cond.exactly_spec (show (Jvm.Cond.exactly (Jvm.Term.string "LanternWalk" (153 : Nat)) "java/lang/String").before #[Value.ref b] s = true from (hf _ (List.mem_of_getElem? (i := 701) (by decide +kernel))))
      exact ⟨a, vk_R.of (hts _ (List.mem_of_getElem? (i := 529) (by decide +kernel))) q1⟩
    · obtain ⟨a, cq, cell, k, q1, -⟩ := Cond.exactly_spec (show (Jvm.Cond.exactly (Jvm.Term.string "LanternWalk" (155 : Nat)) "java/lang/String").before #[Value.ref b] s = true from (hf _ (List.mem_of_getElem? (i := 743) (by decide +kernel))))
      exact ⟨a, vk_R.of (hts _ (List.mem_of_getElem? (i := 530) (by decide +kernel))) q1⟩
    · obtain ⟨a, cq, cell, k, q1, -⟩ := Cond.exactly_spec (show (Jvm.Cond.exactly (Jvm.Term.string "LanternWalk" (164 : Nat)) "java/lang/String").before #[Value.ref b] s = true from (hf _ (List.mem_of_getElem? (i := 789) (by decide +kernel))))
      exact ⟨a, vk_R.of (hts _ (List.mem_of_getElem? (i := 628) (by decide +kernel))) q1⟩
    · obtain ⟨a, cq, cell, k, q1, -⟩ := Cond.exactly_spec (show (Jvm.Cond.exactly (Jvm.Term.string "LanternWalk" (169 : Nat)) "java/lang/String").before #[Value.ref b] s = true from (hf _ (List.mem_of_getElem? (i := 831) (by decide +kernel))))
      exact ⟨a, vk_R.of (hts _ (List.mem_of_getElem? (i := 636) (by decide +kernel))) q1⟩
    · obtain ⟨a, cq, cell, k, q1, -⟩ := Cond.exactly_spec (show (Jvm.Cond.exactly (Jvm.Term.string "LanternWalk" (171 : Nat)) "java/lang/String").before #[Value.ref b] s = true from (hf _ (List.mem_of_getElem? (i := 876) (by decide +kernel))))
      exact ⟨a, vk_R.of (hts _ (List.mem_of_getElem? (i := 637) (by decide +kernel))) q1⟩
    · obtain ⟨a, cq, cell, k, q1, -⟩ := Cond.exactly_spec (show (Jvm.Cond.exactly (Jvm.Term.string "LanternWalk" (187 : Nat)) "java/lang/String").before #[Value.ref b] s = true from (hf _ (List.mem_of_getElem? (i := 919) (by decide +kernel))))
      exact ⟨a, vk_R.of (hts _ (List.mem_of_getElem? (i := 669) (by decide +kernel))) q1⟩
    · obtain ⟨a, cq, cell, k, q1, -⟩ := Cond.exactly_spec (show (Jvm.Cond.exactly (Jvm.Term.string "LanternWalk" (189 : Nat)) "java/lang/String").before #[Value.ref b] s = true from (hf _ (List.mem_of_getElem? (i := 966) (by decide +kernel))))
      exact ⟨a, vk_R.of (hts _ (List.mem_of_getElem? (i := 670) (by decide +kernel))) q1⟩
theorem lw_Z9 {s : State} {b : Nat} (hts : ∀ w ∈ lw_tbl, w.before #[Value.ref b] s = true) (hg : (Jvm.Cond.and given_1 narrow_1).before #[Value.ref b] s = true) : lwZ (LA s) s s.heap := by
  have hf := flat_of_before _ hg
  exact ⟨vx_Zqof (hts _ (List.mem_of_getElem? (i := 320) (by decide +kernel))) (hts _ (List.mem_of_getElem? (i := 58) (by decide +kernel))) (hf _ (List.mem_of_getElem? (i := 4) (by decide +kernel))) (fun a ha => Nat.not_le.mpr ha), vx_Zqof (hts _ (List.mem_of_getElem? (i := 322) (by decide +kernel))) (hts _ (List.mem_of_getElem? (i := 58) (by decide +kernel))) (hf _ (List.mem_of_getElem? (i := 5) (by decide +kernel))) (fun a ha => Nat.not_le.mpr ha)⟩
theorem lw_arr {s : State} {args : Array Value} {ty : FieldType} (h : (Cond.arrayClass ty).before args s = true) : ∃ cA, ArrOfT s cA ty ∧ s.vm.findClass ("[" ++ ty.toString) = some cA := by
  obtain ⟨cA, kA, comp, h1, h2, h3⟩ := Cond.arrayClass_spec h
  exact ⟨cA, fun n z => ⟨fun k h => (by cases h), kA, h2, comp, h3⟩, h1⟩
theorem lw_arrO {s : State} (h : lwA s) : ∃ cA, ArrOfT s cA (.array .int) ∧ s.vm.findClass ("[" ++ (FieldType.array .int).toString) = some cA := by
  obtain ⟨comp, c, k, h1, h2, h3, h4, h5⟩ := arrayOverA_spec (args := #[]) (first := s) (o := none) (idx := []) (t := .int) h
  exact ⟨c, fun n z => ⟨fun k h => (by cases h), k, h3, comp, h4⟩, h5⟩
theorem lw_K {s : State} {b : Nat} (hts : ∀ w ∈ lw_tbl, w.before #[Value.ref b] s = true) : ∃ (D : va_G) (cI cZ cL cO : ClassId), va_K D vwCl (T4 cI cZ cL cO) s := by
  obtain ⟨c0, i0, h0⟩ := u_known (C := RX0) (T := TX0) (N := 17) (n := 17) hts inX0 (hts _ (List.mem_of_getElem? (i := 137) (by decide +kernel)))
  obtain ⟨c1, i1, h1⟩ := u_known (C := RX1) (T := TX1) (N := 11) (n := 11) hts inX1 (hts _ (List.mem_of_getElem? (i := 75) (by decide +kernel)))
  obtain ⟨c2, i2, h2⟩ := u_known (C := RX2) (T := TX2) (N := 3) (n := 3) hts inX2 (hts _ (List.mem_of_getElem? (i := 67) (by decide +kernel)))
  obtain ⟨c3, i3, h3⟩ := u_known (C := RX3) (T := TX3) (N := 16) (n := 16) hts inX3 (hts _ (List.mem_of_getElem? (i := 672) (by decide +kernel)))
  obtain ⟨cI, acI, ncI⟩ := lw_arr (ty := .int) (hts _ (List.mem_of_getElem? (i := 135) (by decide +kernel)))
  obtain ⟨cZ, acZ, ncZ⟩ := lw_arr (ty := .boolean) (hts _ (List.mem_of_getElem? (i := 208) (by decide +kernel)))
  obtain ⟨cL, acL, ncL⟩ := lw_arr (ty := .long) (hts _ (List.mem_of_getElem? (i := 945) (by decide +kernel)))
  obtain ⟨cO, acO, ncO⟩ := lw_arrO (lw_E hts).2.2.2
  refine ⟨(fun k => if k = 0 then c0 else if k = 1 then c1 else if k = 2 then c2 else c3, fun k => if k = 0 then i0 else if k = 1 then i1 else if k = 2 then i2 else i3), cI, cZ, cL, cO, fun k q hq => ?_, fun k q hq => ?_⟩
  · match k, hq with
    | 0, hq => cases hq; exact h0
    | 1, hq => cases hq; exact h1
    | 2, hq => cases hq; exact h2
    | 3, hq => cases hq; exact h3
    | k + 4, hq => simp [vwCl] at hq
  · match k, hq with
    | 0, hq => cases hq; exact ⟨acI, ncI⟩
    | 1, hq => cases hq; exact ⟨acZ, ncZ⟩
    | 2, hq => cases hq; exact ⟨acL, ncL⟩
    | 3, hq => cases hq; exact ⟨acO, ncO⟩
    | k + 4, hq => simp at hq
/-- the class, the note of an answer, the model -/
def wL (cI cZ cL : ClassId) (a am : Nat → Nat) (qo : Nat) (n pl nw ns : Nat) (σ κ σ' κ' : Sg) (f : Nat → Int64) (n2 nw2 ns2 : Nat) (σ2 : Sg) (th : Int32) (η : Sg) : va_W := wXo cI cZ cL a n pl nw ns σ κ σ' κ' qo f ++ wM cI cZ am th n2 nw2 ns2 σ2 η
def al (a am : Nat → Nat) (qo : Nat) : Nat → Nat := fun i => if i < 41 then a i else if i = 41 then qo else am (i - 42)
def i42 : List Nat := [0, 1, 2, 3, 4, 5, 6, 7, 8, 9, 10, 11, 12, 13, 14, 15, 16, 17, 18, 19, 20, 21, 22, 23, 24, 25, 26, 27, 28, 29, 30, 31, 32, 33, 34, 35, 36, 37, 38, 39, 40, 41]
def m13 : List Nat := [42, 43, 44, 45, 46, 47, 48, 49, 50, 51, 52, 53, 54]
section LWL
variable {D : va_G} {H H1 : Heap} {A : Nat → Prop} {cI cZ cL : ClassId} {a am : Nat → Nat} {qo n pl nw ns n2 nw2 ns2 n3 nw3 ns3 : Nat} {σ κ σ' κ' σ2 σ3 η η3 : Sg} {f : Nat → Int64} {th th3 : Int32} {w1 : va_W}
theorem wL_adr (k : Nat) (q : Nat × va_E) (h : (wL cI cZ cL a am qo n pl nw ns σ κ σ' κ' f n2 nw2 ns2 σ2 th η)[k]? = some q) : k < 55 ∧ q.1 = al a am qo k := by
  unfold wL wXo at h
  have h1 : (wX cI cZ a n pl nw ns σ κ σ' κ').length = 41 := rfl
  rw [List.append_assoc] at h
  unfold al
  by_cases c : k < 41
  · rw [List.getElem?_append_left (by rw [h1]; exact c)] at h
    exact ⟨by omega, by rw [if_pos c]; exact (wX_adr k q h).2⟩
  · rw [List.getElem?_append_right (by rw [h1]; omega), h1] at h
    by_cases d : k = 41
    · subst d
      cases h
      exact ⟨by decide, rfl⟩
    · rw [List.getElem?_append_right (by show 1 ≤ k - 41; omega)] at h
      obtain ⟨e1, e2⟩ := wM_adr _ q h
      have e1 : k - 41 - 1 < 13 := e1
      exact ⟨by omega, by rw [if_neg c, if_neg d, e2]; show am (k - 41 - 1) = am (k - 42); rw [show k - 41 - 1 = k - 42 by omega]⟩
theorem okP.DL (h : okP A (al a am qo) 55) : va_D A (wL cI cZ cL a am qo n pl nw ns σ κ σ' κ' f n2 nw2 ns2 σ2 th η) := by
  refine ⟨fun i j p q hi hj hpq => ?_, fun k q hk => ?_⟩
  · obtain ⟨h1, h2⟩ := wL_adr i p hi
    obtain ⟨h3, h4⟩ := wL_adr j q hj
    exact h.1 i j h1 h3 (by rw [← h2, ← h4]; exact hpq)
  · obtain ⟨h1, h2⟩ := wL_adr k q hk
    rw [h2]
    exact h.2 k h1
theorem al_a {k : Nat} (h : k < 41) : al a am qo k = a k := if_pos h
theorem al_o : al a am qo 41 = qo := rfl
theorem al_m {k : Nat} : al a am qo (42 + k) = am k := by
  unfold al
  rw [if_neg (by omega), if_neg (by omega)]
  congr 1
  omega
theorem oka41 (h : okP A (al a am qo) 55) : okP (A_ (al a am qo) 42) a 41 := ⟨fun i j hi hj e => h.1 i j (by omega) (by omega) (by rw [al_a hi, al_a hj]; exact e), fun k hk => ⟨k, by omega, (al_a hk).symm⟩⟩
theorem okm13 (h : okP A (al a am qo) 55) : okP (A_ am 13) am 13 := ⟨fun i j hi hj e => by
  have := h.1 (42 + i) (42 + j) (by omega) (by omega) (by rw [al_m, al_m]; exact e)
  omega, fun k hk => ⟨k, hk, rfl⟩⟩
theorem okmA (h : okP A (al a am qo) 55) : ∀ q, A_ am 13 q → A q := fun q ⟨k, hk, e⟩ => by
  rw [e, ← al_m (a := a) (am := am) (qo := qo)]
  exact h.2 _ (by omega)
theorem okaA (h : okP A (al a am qo) 55) : ∀ q, A_ a 41 q → A q := fun q ⟨k, hk, e⟩ => by
  rw [e, ← al_a (a := a) (am := am) (qo := qo) hk]
  exact h.2 _ (by omega)
theorem okP.ao (h : okP A (al a am qo) 55) : ∀ k, k < 41 → a k ≠ qo := fun k hk e => by
  have := h.1 k 41 (by omega) (by omega) (by rw [al_a hk, al_o]; exact e)
  omega
theorem okDo (h : okP A (al a am qo) 55) : va_D (A_ (al a am qo) 42) (wXo cI cZ cL a n pl nw ns σ κ σ' κ' qo f) := by
  have hL := h.DL (cI := cI) (cZ := cZ) (cL := cL) (n := n) (pl := pl) (nw := nw) (ns := ns) (σ := σ) (κ := κ) (σ' := σ') (κ' := κ') (f := f) (n2 := 0) (nw2 := 0) (ns2 := 0) (σ2 := σ) (th := 0) (η := σ)
  have hl : (wXo cI cZ cL a n pl nw ns σ κ σ' κ' qo f).length = 42 := rfl
  have key : ∀ (k : Nat) (q : Nat × va_E), (wXo cI cZ cL a n pl nw ns σ κ σ' κ' qo f)[k]? = some q → k < 42 ∧ q.1 = al a am qo k := fun k q hk => by
    have hk2 : k < 42 := by rw [← hl]; exact (List.getElem?_eq_some_iff.mp hk).1
    exact ⟨hk2, (wL_adr (am := am) (n2 := 0) (nw2 := 0) (ns2 := 0) (σ2 := σ) (th := 0) (η := σ) k q (by unfold wL; rw [List.getElem?_append_left (by rw [hl]; exact hk2)]; exact hk)).2⟩
  refine ⟨fun i j p q hi hj hpq => ?_, fun k q hk => ?_⟩
  · obtain ⟨h1, h2⟩ := key i p hi
    obtain ⟨h3, h4⟩ := key j q hj
    exact h.1 i j (by omega) (by omega) (by rw [← h2, ← h4]; exact hpq)
  · obtain ⟨h1, h2⟩ := key k q hk
    exact ⟨k, h1, h2⟩
theorem jnH (h : okP A (al a am qo) 55) (hP : va_P D vwCl (wL cI cZ cL a am qo n pl nw ns σ κ σ' κ' f n2 nw2 ns2 σ2 th η) H) (hP1 : va_P D vwCl w1 H1) (hk : ∀ q : Nat, q < H.size → ¬ A_ (al a am qo) 42 q → H1[q]? = H[q]?) : va_P D vwCl (w1 ++ wM cI cZ am th n2 nw2 ns2 σ2 η) H1 := by
  refine va_P.app hP1 (fun k q hq => ?_)
  have hl : (wXo cI cZ cL a n pl nw ns σ κ σ' κ' qo f).length = 42 := rfl
  have h0 : (wL cI cZ cL a am qo n pl nw ns σ κ σ' κ' f n2 nw2 ns2 σ2 th η)[42 + k]? = some q := by
    unfold wL
    rw [List.getElem?_append_right (by rw [hl]; omega), hl, show 42 + k - 42 = k by omega]
    exact hq
  obtain ⟨e1, e2⟩ := wL_adr _ q h0
  refine (hP _ q h0).kept (hk q.1 (hP _ q h0).lt (fun z => ?_))
  obtain ⟨j, hj, e⟩ := z
  have := h.1 (42 + k) j e1 (by omega) (by rw [← e2]; exact e)
  omega
theorem jnM (h : okP A (al a am qo) 55) (hP : va_P D vwCl (wL cI cZ cL a am qo n pl nw ns σ κ σ' κ' f n2 nw2 ns2 σ2 th η) H) (hP1 : va_P D vwCl (wM cI cZ am th3 n3 nw3 ns3 σ3 η3) H1) (hk : ∀ q : Nat, q < H.size → ¬ A_ am 13 q → H1[q]? = H[q]?) : va_P D vwCl (wL cI cZ cL a am qo n pl nw ns σ κ σ' κ' f n3 nw3 ns3 σ3 th3 η3) H1 := by
  refine va_P.app (fun k q hq => ?_) hP1
  have hl : (wXo cI cZ cL a n pl nw ns σ κ σ' κ' qo f).length = 42 := rfl
  have hk2 : k < 42 := by rw [← hl]; exact (List.getElem?_eq_some_iff.mp hq).1
  have h0 : (wL cI cZ cL a am qo n pl nw ns σ κ σ' κ' f n2 nw2 ns2 σ2 th η)[k]? = some q := by
    unfold wL
    rw [List.getElem?_append_left (by rw [hl]; exact hk2)]
    exact hq
  obtain ⟨e1, e2⟩ := wL_adr _ q h0
  refine (hP _ q h0).kept (hk q.1 (hP _ q h0).lt (fun z => ?_))
  obtain ⟨j, hj, e⟩ := z
  have := h.1 k (42 + j) e1 (by omega) (by rw [← e2, al_m]; exact e)
  omega
end LWL
section LWQ
variable {p : Program} {l : Launch} {e : Env} {R : Room} {s : State} {m : MethodId} {args : Array Value} {below : List Frame} {meth : Method} {c : Code} {H : Heap} {locs : List Loc} {cells slots : Nat} {Q : State → Prop}
variable {cc : ByteArray} {pc : Nat} {ls : Array Slot} {rest st0 As : List Value} {D : va_G} {tys : List (ClassId × FieldType)} {w w' : va_W} {A A0 A1 : Nat → Prop} {H0 : Heap} {b : Nat}
variable {y : MethodName} {ws Ts : List Cond} {rm : Room} {v : Int32} {own C : String} {index maxL nL n mc ms ci q0 : Nat} {bytes : ByteArray} {ret : Option FieldType} {q9 : vw_C} {fs : List Value}
theorem li_sld {L : Nat} {xs : Nat → Int32} (hx : p.tables.exec = Jvm.exec) (hb : c.code = cc) (hX : va_X b L xs s H0) (hbl : b < H0.size) (hbA : ¬ A b) (hS : va_S A H0 H locs) {i : Nat} (hi : i < L) (hL : L < 2 ^ 31) (hdg : decode cc pc = .ok (.iaload, 1))
    (kk : W p l e R s m args below meth c H locs cells slots Q (F0 m (pc + 1) ls (.int (xs i) :: rest))) : W p l e R s m args below meth c H locs cells slots Q (F0 m pc ls (.int (nI i) :: .ref b :: rest)) := by
  refine va_sld hx hb hX hbl hbA hS (vp_in_nI hi hL) hdg ?_
  rw [li_nC (by omega)]
  exact kk
theorem mezV {cI cZ : ClassId} {a : Nat → Nat} {th : Int32} {n0 nw ns : Nat} {σ : Sg} (hx : p.tables.exec = Jvm.exec) (hb : c.code = cc) (hml : c.maxLocals = nL) (hown : s.vm.findClass own = some m.cls) (hts : ∀ w ∈ Ts, w.before args s = true) (hM : Met l y ws rm (ro_P D tys w H (.ref b :: As)) (me_Q D v cI cZ a th n0 nw ns σ A1) mc ms A1) (cw : CallW R s args own C index y bytes maxL ret ws rm mc ms n)
    (hK : va_K D vwCl tys s) (hE : lwE s) (hP : va_P D vwCl w H) (hc : vwCl[ci]? = some q9) (hq : q9.1 = C) (he : w[q0]? = some (b, .inr (ci, fs))) (hn : As.length = n) (hsz : ls.size = nL) (hst : st0 = As.reverse ++ .ref b :: rest) (hW : (rest.map fun v => v.category).sum ≤ 8) (hS : va_S A0 H0 H locs) (hA : ∀ q, A1 q → A0 q) (hdg : decode cc pc = .ok (.invokevirtual index, 3)) (hf : cells + mc ≤ R.cells ∧ slots + ms ≤ R.slots)
    (kk : ∀ (e9 : Sg) (H1 : Heap) (locs1 : List Loc), LZ nw ns e9 → va_P D vwCl (wM cI cZ a th n0 nw ns σ e9) H1 → H.size ≤ H1.size → (∀ q : Nat, q < H.size → ¬ A1 q → H1[q]? = H[q]?) → va_S A0 H0 H1 locs1 → W p l e R s m args below meth c H1 locs1 (cells + mc) (slots + ms) Q (F0 m (pc + 3) ls (.int v :: rest))) : W p l e R s m args below meth c H locs cells slots Q (F0 m pc ls st0) := by
  subst hq
  refine va_calli (va_runV (As := As) (rest := rest) ⟨hx, hb, hml, hown, hts⟩ hM cw ⟨ro_blind, va_recv hK hP hc he, fun U hU hW => ⟨rfl, hU, hP, va_K.moved hW.alike hK, lwE.warm hW hE⟩⟩ rfl hn hsz hst (lv_room hW) hdg hf) hS (fun q _ h => hA q h) hA (fun r u t H1 locs1 ht hvm hw hB hz1 hk1 hS => ?_)
  have h1 : va_P D vwCl (wM cI cZ a th n0 nw ns σ u) t.heap := hB
  rw [ht] at h1
  obtain ⟨h3, h4⟩ := hw
  subst h3
  exact kk u H1 locs1 h4 h1 hz1 hk1 hS
theorem mlV {v : Int64} (hx : p.tables.exec = Jvm.exec) (hb : c.code = cc) (hml : c.maxLocals = nL) (hown : s.vm.findClass own = some m.cls) (hts : ∀ w ∈ Ts, w.before args s = true) (hM : Met l y ws rm (ro_P D tys w H (.ref b :: As)) (ml_Q D v w' A1) 0 0 A1) (cw : CallW R s args own C index y bytes maxL ret ws rm 0 0 n)
    (hK : va_K D vwCl tys s) (hE : lwE s) (hP : va_P D vwCl w H) (hc : vwCl[ci]? = some q9) (hq : q9.1 = C) (he : w[q0]? = some (b, .inr (ci, fs))) (hn : As.length = n) (hsz : ls.size = nL) (hst : st0 = As.reverse ++ .ref b :: rest) (hW : (rest.map fun v => v.category).sum ≤ 8) (hS : va_S A0 H0 H locs) (hA : ∀ q, A1 q → A0 q) (hdg : decode cc pc = .ok (.invokevirtual index, 3)) (hf : cells ≤ R.cells ∧ slots ≤ R.slots)
    (kk : ∀ (H1 : Heap) (locs1 : List Loc), va_P D vwCl w' H1 → H.size ≤ H1.size → (∀ q : Nat, q < H.size → ¬ A1 q → H1[q]? = H[q]?) → va_S A0 H0 H1 locs1 → W p l e R s m args below meth c H1 locs1 cells slots Q (F0 m (pc + 3) ls (.long v :: rest))) : W p l e R s m args below meth c H locs cells slots Q (F0 m pc ls st0) := by
  subst hq
  refine va_calll (va_runV (As := As) (rest := rest) ⟨hx, hb, hml, hown, hts⟩ hM cw ⟨ro_blind, va_recv hK hP hc he, fun U hU hW => ⟨rfl, hU, hP, va_K.moved hW.alike hK, lwE.warm hW hE⟩⟩ rfl hn hsz hst (lv_room hW) hdg hf) hS (fun q _ h => hA q h) hA (fun r u t H1 locs1 ht hvm hw hB hz1 hk1 hS => ?_)
  have h1 : va_P D vwCl w' t.heap := hB
  rw [ht] at h1
  have h3 : r = v := hw
  subst h3
  exact kk H1 locs1 h1 hz1 hk1 hS
theorem mdV {v : UInt64} (hx : p.tables.exec = Jvm.exec) (hb : c.code = cc) (hml : c.maxLocals = nL) (hown : s.vm.findClass own = some m.cls) (hts : ∀ w ∈ Ts, w.before args s = true) (hM : Met l y ws rm (ro_P D tys w H (.ref b :: As)) (md_Q D v w' A1) 0 0 A1) (cw : CallW R s args own C index y bytes maxL ret ws rm 0 0 n)
    (hK : va_K D vwCl tys s) (hE : lwE s) (hP : va_P D vwCl w H) (hc : vwCl[ci]? = some q9) (hq : q9.1 = C) (he : w[q0]? = some (b, .inr (ci, fs))) (hn : As.length = n) (hsz : ls.size = nL) (hst : st0 = As.reverse ++ .ref b :: rest) (hW : (rest.map fun v => v.category).sum ≤ 8) (hS : va_S A0 H0 H locs) (hA : ∀ q, A1 q → A0 q) (hdg : decode cc pc = .ok (.invokevirtual index, 3)) (hf : cells ≤ R.cells ∧ slots ≤ R.slots)
    (kk : ∀ (H1 : Heap) (locs1 : List Loc), va_P D vwCl w' H1 → H.size ≤ H1.size → (∀ q : Nat, q < H.size → ¬ A1 q → H1[q]? = H[q]?) → va_S A0 H0 H1 locs1 → W p l e R s m args below meth c H1 locs1 cells slots Q (F0 m (pc + 3) ls (.double v :: rest))) : W p l e R s m args below meth c H locs cells slots Q (F0 m pc ls st0) := by
  subst hq
  refine va_calld (va_runV (As := As) (rest := rest) ⟨hx, hb, hml, hown, hts⟩ hM cw ⟨ro_blind, va_recv hK hP hc he, fun U hU hW => ⟨rfl, hU, hP, va_K.moved hW.alike hK, lwE.warm hW hE⟩⟩ rfl hn hsz hst (lv_room hW) hdg hf) hS (fun q _ h => hA q h) hA (fun r u t H1 locs1 ht hvm hw hB hz1 hk1 hS => ?_)
  have h1 : va_P D vwCl w' t.heap := hB
  rw [ht] at h1
  have h3 : r = v := hw
  subst h3
  exact kk H1 locs1 h1 hz1 hk1 hS
end LWQ
theorem lg_cmp_rf (x : Int64) : lg_cmp x x = nI 0 := by
  unfold lg_cmp
  rw [if_neg (by rw [gt_iff_lt, Int64.lt_iff_toInt_lt]; omega), if_pos rfl]
  rfl
/-- no light is a NaN -/
theorem dc_all : ∀ a : Fin 21, ∀ b : Fin 21, 0 < b.1 → Op.cmpValue (FP.dcmp (FP.ddiv (FP.i2d (nI a.1)) (FP.i2d (nI b.1))) (FP.ddiv (FP.i2d (nI a.1)) (FP.i2d (nI b.1)))) .l = nI 0 := by decide +kernel
theorem dc_li {nw : Nat} {σ : Sg} (h : nw ≤ 20) : Op.cmpValue (FP.dcmp (liV nw σ) (liV nw σ)) .l = nI 0 := by
  unfold liV
  by_cases c : hm σ nw (nI 1) = 0
  · rw [if_pos c]
    decide +kernel
  · rw [if_neg c]
    have a1 := lb_le (σ := σ) (nw := nw)
    have a2 := hm_le (σ := σ) (nw := nw) (x := nI 1)
    exact dc_all ⟨lb σ nw, by omega⟩ ⟨hm σ nw (nI 1), by omega⟩ (by show 0 < hm σ nw (nI 1); omega)
/-- what the model's pass answers is what the way says -/
theorem vPass_T {n pl nw ns t : Nat} {σ η : Sg} {p0 : Int32} (hI : INV n pl nw ns t σ) (hL : LZ nw ns η) : vPass n pl nw ns (σ, η) p0 = vPassT n pl nw ns σ p0 := by
  unfold vPass vPassT
  by_cases c : kPass n p0 = 0
  · have hn : 0 < n := by
      rcases Nat.eq_zero_or_pos n with q | q
      · subst q
        unfold kPass at c
        split at c
        · exact absurd c (by decide)
        · exact absurd c (by decide)
      · exact q
    rw [ifk_0 c, ifk_0 c, trj_me hn hI hL]
  · rw [ifk_n c, ifk_n c]
theorem sPass_T {n pl nw ns t : Nat} {σ η : Sg} {p0 : Int32} (hI : INV n pl nw ns t σ) (hL : LZ nw ns η) : (sPass n pl nw ns (σ, η) p0).1 = sPassT n pl nw ns σ p0 ∧ LZ nw ns (sPass n pl nw ns (σ, η) p0).2 := by
  unfold sPass sPassT
  by_cases c : kPass n p0 = 0
  · have hn : 0 < n := by
      rcases Nat.eq_zero_or_pos n with q | q
      · subst q
        unfold kPass at c
        split at c
        · exact absurd c (by decide)
        · exact absurd c (by decide)
      · exact q
    rw [if_pos c, if_pos c]
    exact ⟨trj_me hn hI hL _, (meN_inv (x := (σ, η)) η hn hI hL _).2.1⟩
  · rw [if_neg c, if_neg c]
    exact ⟨rfl, hL⟩
theorem nCome_le {nw : Nat} {x y z : Int32} : nw ≤ nCome nw x y z := by unfold nCome; split <;> omega
theorem nSong_le {ns : Nat} {x : Int32} : ns ≤ nSong ns x := by unfold nSong; split <;> omega
