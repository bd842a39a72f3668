/-! THE LAW'S START: what the tables give -/
theorem lw_E {s : State} {b : Nat} (hts : ∀ w ∈ lw_tbl, w.before #[Value.ref b] s = true) : lwE s := ⟨va_Nw.of rfl (hts _ (List.mem_of_getElem? (i := 407) (by decide +kernel))), va_Nw.of rfl (hts _ (List.mem_of_getElem? (i := 48) (by decide +kernel))), va_Nw.of rfl (hts _ (List.mem_of_getElem? (i := 576) (by decide +kernel))), va_Nw.of rfl (hts _ (List.mem_of_getElem? (i := 656) (by decide +kernel))), (show (Cond.arrayOver (.array .int)).before #[Value.ref b] s = true from (hts _ (List.mem_of_getElem? (i := 581) (by decide +kernel)))), (show (Cond.arrayOver tyWk).before #[Value.ref b] s = true from (hts _ (List.mem_of_getElem? (i := 583) (by decide +kernel))))⟩
theorem lw_arr {s : State} {args : Array Value} {ty : FieldType} (h : (Cond.arrayClass ty).before args s = true) : ∃ cA, ArrOfT s cA ty ∧ s.vm.findClass ("[" ++ ty.toString) = some cA := by
  obtain ⟨cA, kA, comp, h1, h2, h3⟩ := Cond.arrayClass_spec h
  exact ⟨cA, fun n z => ⟨fun k h => (by cases h), kA, h2, comp, h3⟩, h1⟩
theorem lw_arrO {s : State} (h : lwO (.array .int) s) : ∃ cA, ArrOfT s cA (.array .int) ∧ va_RA s cA (.array .int) := by
  obtain ⟨comp, c, k, h1, h2, h3, h4, h5⟩ := arrayOverA_spec (args := #[]) (first := s) (o := none) (idx := []) (t := .int) h
  exact ⟨c, fun n z => ⟨fun k h => (by cases h), k, h3, comp, h4⟩, h5⟩
theorem lw_arrW {s : State} (h : lwO tyWk s) : ∃ cA, ArrOfT s cA tyWk ∧ va_RA s cA tyWk := by
  obtain ⟨comp, c, k, h1, h2, h3, h4, h5⟩ := Cond.arrayOver_spec (args := #[]) (first := s) (o := none) (idx := []) (n := "LanternWalkLaw$Walker") h
  exact ⟨c, fun n z => ⟨fun k h => (by cases h), k, h3, comp, h4⟩, k, comp, h3, h4, h1, h5⟩
theorem lw_K {s : State} {b : Nat} (hts : ∀ w ∈ lw_tbl, w.before #[Value.ref b] s = true) : ∃ (D : va_G) (cI cZ cW cO : ClassId), va_K D vwCl (T4 cI cZ cW cO) s := by
  obtain ⟨c0, i0, h0⟩ := u_known (C := RX0) (T := TX0) (N := 17) (n := 17) hts in_wsX00 (hts _ (List.mem_of_getElem? (i := 109) (by decide +kernel)))
  obtain ⟨c1, i1, h1⟩ := u_known (C := RX1) (T := TX1) (N := 11) (n := 11) hts in_wsX10 (hts _ (List.mem_of_getElem? (i := 47) (by decide +kernel)))
  obtain ⟨c2, i2, h2⟩ := u_known (C := RX2) (T := TX2) (N := 3) (n := 3) hts in_wsX20 (hts _ (List.mem_of_getElem? (i := 39) (by decide +kernel)))
  obtain ⟨c3, i3, h3⟩ := u_known (C := RX3) (T := TX3) (N := 10) (n := 10) hts in_wsX30 (hts _ (List.mem_of_getElem? (i := 506) (by decide +kernel)))
  obtain ⟨c4, i4, h4⟩ := u_known (C := RX4) (T := TX4) (N := 9) (n := 9) hts in_wsX40 (hts _ (List.mem_of_getElem? (i := 655) (by decide +kernel)))
  obtain ⟨cI, acI, ncI⟩ := lw_arr (ty := .int) (hts _ (List.mem_of_getElem? (i := 107) (by decide +kernel)))
  obtain ⟨cZ, acZ, ncZ⟩ := lw_arr (ty := .boolean) (hts _ (List.mem_of_getElem? (i := 180) (by decide +kernel)))
  obtain ⟨cW, acW, ncW⟩ := lw_arrW (lw_E hts).2.2.2.2.2
  obtain ⟨cO, acO, ncO⟩ := lw_arrO (lw_E hts).2.2.2.2.1
  refine ⟨(fun k => if k = 0 then c0 else if k = 1 then c1 else if k = 2 then c2 else if k = 3 then c3 else c4, fun k => if k = 0 then i0 else if k = 1 then i1 else if k = 2 then i2 else if k = 3 then i3 else i4), cI, cZ, cW, cO, fun k q hq => ?_, fun k q hq => ?_⟩
  · match k, hq with
    | 0, hq => cases hq; exact h0
    | 1, hq => cases hq; exact h1
    | 2, hq => cases hq; exact h2
    | 3, hq => cases hq; exact h3
    | 4, hq => cases hq; exact h4
    | k + 5, hq => simp [vwCl] at hq
  · match k, hq with
    | 0, hq => cases hq; exact ⟨acI, ncI⟩
    | 1, hq => cases hq; exact ⟨acZ, ncZ⟩
    | 2, hq => cases hq; exact ⟨acW, ncW⟩
    | 3, hq => cases hq; exact ⟨acO, ncO⟩
    | k + 4, hq => simp at hq
