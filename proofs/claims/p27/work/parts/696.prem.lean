/-! THE CLAIM'S PREMISES IN THE WORDS OF THE WORLD -/
theorem arr_prim {ty : FieldType} {A : Array Value} {s : State} (h : (Cond.arrayClass ty).before A s = true) : ∃ cA : ClassId, ArrOfT s cA ty ∧ s.vm.findClass ("[" ++ ty.toString) = some cA := by
  obtain ⟨cA, kA, comp, h1, h2, h3⟩ := Cond.arrayClass_spec h
  exact ⟨cA, fun n z => ⟨fun k h => (by cases h), kA, h2, comp, h3⟩, h1⟩
theorem arr_obj {Cn : String} {A : Array Value} {s : State} (h : (Cond.arrayOver (.object Cn)).before A s = true) : ∃ cA : ClassId, ArrOfT s cA (.object Cn) ∧ va_RA s cA (.object Cn) := by
  obtain ⟨comp, c, k, h1, h2, h3, h4, h5⟩ := Cond.arrayOver_spec h
  exact ⟨c, fun N z => ⟨fun k h => (by cases h), k, h3, comp, h4⟩, k, comp, h3, h4, h1, h5⟩
theorem arr_grid {A : Array Value} {s : State} (h : (Cond.arrayOver (.array .int)).before A s = true) : ∃ cA : ClassId, ArrOfT s cA (.array .int) ∧ va_RA s cA (.array .int) := by
  obtain ⟨comp, c, k, h1, h2, h3, h4, h5⟩ := ag_sp (U := s) h
  have e : ("[" ++ (FieldType.array .int).toString) = "[[I" := by decide +kernel
  exact ⟨c, fun N z => ⟨fun k h => (by cases h), k, h3, comp, h4⟩, (show s.vm.findClass ("[" ++ (FieldType.array .int).toString) = some c by rw [e]; exact h5)⟩
set_option maxHeartbeats 4000000 in
set_option maxRecDepth 100000 in
theorem pm_K {A : Array Value} {s : State} (hts : ∀ w ∈ lw_tbl, w.before A s = true) : ∃ G : iG, va_K G.1 vwB (iT G) s := by
  obtain ⟨c0, i0, hk0⟩ := u_known (C := RX0) (T := TX0) (N := 3) (n := 3) hts in_wsX00 (hts (Cond.instantiable RX0 3) (mT1 (List.mem_of_getElem? (i := 74) rfl)))
  obtain ⟨c1, i1, hk1⟩ := u_known (C := RX1) (T := TX1) (N := 5) (n := 5) hts in_wsX10 (hts (Cond.instantiable RX1 5) (mT1 (List.mem_of_getElem? (i := 68) rfl)))
  obtain ⟨c2, i2, hk2⟩ := u_known (C := RX2) (T := TX2) (N := 2) (n := 2) hts in_wsX20 (hts (Cond.instantiable RX2 2) (mT1 (List.mem_of_getElem? (i := 116) rfl)))
  obtain ⟨c3, i3, hk3⟩ := u_known (C := RX3) (T := TX3) (N := 3) (n := 3) hts in_wsX30 (hts (Cond.instantiable RX3 3) (mT1 (List.mem_of_getElem? (i := 28) rfl)))
  obtain ⟨c4, i4, hk4⟩ := u_known (C := RX4) (T := TX4) (N := 3) (n := 3) hts in_wsX40 (hts (Cond.instantiable RX4 3) (mT1 (List.mem_of_getElem? (i := 46) rfl)))
  obtain ⟨c5, i5, hk5⟩ := u_known (C := RX5) (T := TX5) (N := 3) (n := 3) hts in_wsX50 (hts (Cond.instantiable RX5 3) (mT1 (List.mem_of_getElem? (i := 129) rfl)))
  obtain ⟨c6, i6, hk6⟩ := u_known (C := RX6) (T := TX6) (N := 9) (n := 9) hts in_wsX60 (hts (Cond.instantiable RX6 9) (mT1 (List.mem_of_getElem? (i := 20) rfl)))
  obtain ⟨c7, i7, hk7⟩ := u_known (C := RX7) (T := TX7) (N := 12) (n := 12) hts in_wsX70 (hts (Cond.instantiable RX7 12) (mT3 (List.mem_of_getElem? (i := 82) rfl)))
  obtain ⟨a0, ha0⟩ := arr_prim (hts (Cond.arrayClass .int) (mT1 (List.mem_of_getElem? (i := 43) rfl)))
  obtain ⟨a1, ha1⟩ := arr_prim (hts (Cond.arrayClass .float) (mT1 (List.mem_of_getElem? (i := 44) rfl)))
  obtain ⟨a2, ha2⟩ := arr_prim (hts (Cond.arrayClass .boolean) (mT1 (List.mem_of_getElem? (i := 63) rfl)))
  obtain ⟨a3, ha3⟩ := arr_obj (hts (Cond.arrayOver (.object RX1)) (mT1 (List.mem_of_getElem? (i := 65) rfl)))
  obtain ⟨a4, ha4⟩ := arr_obj (hts (Cond.arrayOver (.object RX5)) (mT1 (List.mem_of_getElem? (i := 67) rfl)))
  obtain ⟨a5, ha5⟩ := arr_grid (hts (Cond.arrayOver (.array .int)) (mT3 (List.mem_of_getElem? (i := 90) rfl)))
  obtain ⟨a6, ha6⟩ := arr_prim (hts (Cond.arrayClass .double) (mT4 (List.mem_of_getElem? (i := 12) rfl)))
  refine ⟨((fun k => match k with | 0 => c0 | 1 => c1 | 2 => c2 | 3 => c3 | 4 => c4 | 5 => c5 | 6 => c6 | _ => c7, fun k => match k with | 0 => i0 | 1 => i1 | 2 => i2 | 3 => i3 | 4 => i4 | 5 => i5 | 6 => i6 | _ => i7), fun k => match k with | 0 => a0 | 1 => a1 | 2 => a2 | 3 => a3 | 4 => a4 | 5 => a5 | _ => a6), fun k q hq => ?_, fun k q hq => ?_⟩
  · match k, hq with
    | 0, hq => cases hq; exact hk0
    | 1, hq => cases hq; exact hk1
    | 2, hq => cases hq; exact hk2
    | 3, hq => cases hq; exact hk3
    | 4, hq => cases hq; exact hk4
    | 5, hq => cases hq; exact hk5
    | 6, hq => cases hq; exact hk6
    | 7, hq => cases hq; exact hk7
    | k + 8, hq => simp [vwB] at hq
  · match k, hq with
    | 0, hq => cases hq; exact ha0
    | 1, hq => cases hq; exact ha1
    | 2, hq => cases hq; exact ha2
    | 3, hq => cases hq; exact ha3
    | 4, hq => cases hq; exact ha4
    | 5, hq => cases hq; exact ha5
    | 6, hq => cases hq; exact ha6
    | k + 7, hq => simp [iT] at hq
set_option maxRecDepth 20000 in
theorem pm_N {A : Array Value} {s : State} (hts : ∀ w ∈ lw_tbl, w.before A s = true) : NW s := by
  have h : ∀ w ∈ nestW, w ∈ lw_tbl := (List.forall_mem_cons.mpr ⟨(mT1 (List.mem_of_getElem? (i := 75) rfl)), (List.forall_mem_cons.mpr ⟨(mT2 (List.mem_of_getElem? (i := 236) rfl)), (List.forall_mem_cons.mpr ⟨(mT2 (List.mem_of_getElem? (i := 237) rfl)), (List.forall_mem_cons.mpr ⟨(mT1 (List.mem_of_getElem? (i := 80) rfl)), (List.forall_mem_cons.mpr ⟨(mT1 (List.mem_of_getElem? (i := 82) rfl)), (List.forall_mem_cons.mpr ⟨(mT2 (List.mem_of_getElem? (i := 163) rfl)), (List.forall_mem_cons.mpr ⟨(mT2 (List.mem_of_getElem? (i := 167) rfl)), (List.forall_mem_cons.mpr ⟨(mT2 (List.mem_of_getElem? (i := 172) rfl)), (List.forall_mem_cons.mpr ⟨(mT2 (List.mem_of_getElem? (i := 86) rfl)), (List.forall_mem_cons.mpr ⟨(mT2 (List.mem_of_getElem? (i := 87) rfl)), (List.forall_mem_cons.mpr ⟨(mT1 (List.mem_of_getElem? (i := 92) rfl)), (List.forall_mem_cons.mpr ⟨(mT1 (List.mem_of_getElem? (i := 97) rfl)), (List.forall_mem_cons.mpr ⟨(mT1 (List.mem_of_getElem? (i := 100) rfl)), (List.forall_mem_cons.mpr ⟨(mT1 (List.mem_of_getElem? (i := 135) rfl)), (List.forall_mem_cons.mpr ⟨(mT1 (List.mem_of_getElem? (i := 47) rfl)), (List.forall_mem_cons.mpr ⟨(mT1 (List.mem_of_getElem? (i := 69) rfl)), (List.forall_mem_cons.mpr ⟨(mT1 (List.mem_of_getElem? (i := 117) rfl)), (List.forall_mem_cons.mpr ⟨(mT1 (List.mem_of_getElem? (i := 130) rfl)), (List.forall_mem_cons.mpr ⟨(mT1 (List.mem_of_getElem? (i := 95) rfl)), (List.forall_mem_cons.mpr ⟨(mT1 (List.mem_of_getElem? (i := 93) rfl)), (List.forall_mem_cons.mpr ⟨(mT1 (List.mem_of_getElem? (i := 122) rfl)), (List.forall_mem_cons.mpr ⟨(mT1 (List.mem_of_getElem? (i := 98) rfl)), (List.forall_mem_cons.mpr ⟨(mT1 (List.mem_of_getElem? (i := 101) rfl)), (List.forall_mem_cons.mpr ⟨(mT1 (List.mem_of_getElem? (i := 103) rfl)), (List.forall_mem_cons.mpr ⟨(mT1 (List.mem_of_getElem? (i := 139) rfl)), (List.forall_mem_cons.mpr ⟨(mT1 (List.mem_of_getElem? (i := 141) rfl)), (List.forall_mem_cons.mpr ⟨(mT1 (List.mem_of_getElem? (i := 137) rfl)), (List.forall_mem_cons.mpr ⟨(mT1 (List.mem_of_getElem? (i := 55) rfl)), (List.forall_mem_cons.mpr ⟨(mT1 (List.mem_of_getElem? (i := 53) rfl)), (List.forall_mem_cons.mpr ⟨(mT3 (List.mem_of_getElem? (i := 136) rfl)), (List.forall_mem_cons.mpr ⟨(mT3 (List.mem_of_getElem? (i := 140) rfl)), (fun _ h => absurd h List.not_mem_nil)⟩)⟩)⟩)⟩)⟩)⟩)⟩)⟩)⟩)⟩)⟩)⟩)⟩)⟩)⟩)⟩)⟩)⟩)⟩)⟩)⟩)⟩)⟩)⟩)⟩)⟩)⟩)⟩)⟩)⟩)⟩)
  have ho : ∀ w ∈ nestW, w.onTables = true := by decide +kernel
  exact fun w hw => va_Nw.of (ho w hw) (hts w (h w hw))
set_option maxRecDepth 20000 in
theorem pm_V {A : Array Value} {s : State} (hts : ∀ w ∈ lw_tbl, w.before A s = true) : VX s := ⟨va_AO.of (hts (Cond.arrayOver (.object RX1)) (mT1 (List.mem_of_getElem? (i := 65) rfl))), va_AO.of (hts (Cond.arrayOver (.object RX5)) (mT1 (List.mem_of_getElem? (i := 67) rfl))), (hts (Cond.arrayOver (.array .int)) (mT3 (List.mem_of_getElem? (i := 90) rfl)))⟩
