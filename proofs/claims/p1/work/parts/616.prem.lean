/-! THE CLAIM'S PREMISES IN THE WORDS OF THE WORLD -/
theorem arr_prim {ty : FieldType} {A : Array Value} {s : State} (h : (Cond.arrayClass ty).before A s = true) : ∃ cA : ClassId, ArrOfT s cA ty ∧ s.vm.findClass ("[" ++ ty.toString) = some cA := by
  obtain ⟨cA, kA, comp, h1, h2, h3⟩ := Cond.arrayClass_spec h
  exact ⟨cA, fun n z => ⟨fun k h => (by cases h), kA, h2, comp, h3⟩, h1⟩
theorem arr_obj {Cn : String} {A : Array Value} {s : State} (h : (Cond.arrayOver (.object Cn)).before A s = true) : ∃ cA : ClassId, ArrOfT s cA (.object Cn) ∧ va_RA s cA (.object Cn) := by
  obtain ⟨comp, c, k, h1, h2, h3, h4, h5⟩ := Cond.arrayOver_spec h
  exact ⟨c, fun N z => ⟨fun k h => (by cases h), k, h3, comp, h4⟩, k, comp, h3, h4, h1, h5⟩
theorem pm_str {own tx : String} {k : Nat} {A : Array Value} {s : State} (h1 : (Cond.stringRef own k tx).before A s = true) (h2 : (Cond.exactly (.string own k) "java/lang/String").before A s = true) : ∃ a : Nat, vk_R own k tx a s := by
  obtain ⟨a, c, cell, kk, he, -⟩ := Cond.exactly_spec h2
  exact ⟨a, vk_R.of h1 he⟩
set_option maxHeartbeats 4000000 in
set_option maxRecDepth 100000 in
theorem pm_K {A : Array Value} {s : State} (hts : ∀ w ∈ lw_tbl, w.before A s = true) : ∃ G : iG, va_K G.1 vwB (iT G) s := by
  obtain ⟨c0, i0, hk0⟩ := u_known (C := RX0) (T := TX0) (N := 3) (n := 3) hts in_wsX00 (hts (Cond.instantiable RX0 3) (mT1 (List.mem_of_getElem? (i := 85) rfl)))
  obtain ⟨c1, i1, hk1⟩ := u_known (C := RX1) (T := TX1) (N := 5) (n := 5) hts in_wsX10 (hts (Cond.instantiable RX1 5) (mT1 (List.mem_of_getElem? (i := 79) rfl)))
  obtain ⟨c2, i2, hk2⟩ := u_known (C := RX2) (T := TX2) (N := 2) (n := 2) hts in_wsX20 (hts (Cond.instantiable RX2 2) (mT1 (List.mem_of_getElem? (i := 129) rfl)))
  obtain ⟨c3, i3, hk3⟩ := u_known (C := RX3) (T := TX3) (N := 3) (n := 3) hts in_wsX30 (hts (Cond.instantiable RX3 3) (mT1 (List.mem_of_getElem? (i := 39) rfl)))
  obtain ⟨c4, i4, hk4⟩ := u_known (C := RX4) (T := TX4) (N := 3) (n := 3) hts in_wsX40 (hts (Cond.instantiable RX4 3) (mT1 (List.mem_of_getElem? (i := 57) rfl)))
  obtain ⟨c5, i5, hk5⟩ := u_known (C := RX5) (T := TX5) (N := 3) (n := 3) hts in_wsX50 (hts (Cond.instantiable RX5 3) (mT1 (List.mem_of_getElem? (i := 142) rfl)))
  obtain ⟨c6, i6, hk6⟩ := u_known (C := RX6) (T := TX6) (N := 9) (n := 9) hts in_wsX60 (hts (Cond.instantiable RX6 9) (mT1 (List.mem_of_getElem? (i := 31) rfl)))
  obtain ⟨c7, i7, hk7⟩ := u_known (C := RX7) (T := TX7) (N := 5) (n := 5) hts in_wsX70 (hts (Cond.instantiable RX7 5) (mT4 (List.mem_of_getElem? (i := 136) rfl)))
  obtain ⟨c8, i8, hk8⟩ := u_known (C := RX8) (T := TX8) (N := 3) (n := 3) hts in_wsX80 (hts (Cond.instantiable RX8 3) (mT5 (List.mem_of_getElem? (i := 44) rfl)))
  obtain ⟨c9, i9, hk9⟩ := u_known (C := RX9) (T := TX9) (N := 8) (n := 8) hts in_wsX90 (hts (Cond.instantiable RX9 8) (mT4 (List.mem_of_getElem? (i := 15) rfl)))
  obtain ⟨c10, i10, hk10⟩ := u_known (C := RJx4a65c) (T := TJx4a65c) (N := 3) (n := 3) hts in_wsJx4a65c0 (hts (Cond.instantiable RJx4a65c 3) (mT4 (List.mem_of_getElem? (i := 21) rfl)))
  obtain ⟨a0, ha0⟩ := arr_prim (hts (Cond.arrayClass .int) (mT1 (List.mem_of_getElem? (i := 54) rfl)))
  obtain ⟨a1, ha1⟩ := arr_prim (hts (Cond.arrayClass .float) (mT1 (List.mem_of_getElem? (i := 55) rfl)))
  obtain ⟨a2, ha2⟩ := arr_prim (hts (Cond.arrayClass .boolean) (mT1 (List.mem_of_getElem? (i := 74) rfl)))
  obtain ⟨a3, ha3⟩ := arr_obj (hts (Cond.arrayOver (.object RX1)) (mT1 (List.mem_of_getElem? (i := 76) rfl)))
  obtain ⟨a4, ha4⟩ := arr_obj (hts (Cond.arrayOver (.object RX5)) (mT1 (List.mem_of_getElem? (i := 78) rfl)))
  obtain ⟨a5, ha5⟩ := arr_obj (hts (Cond.arrayOver (.object "java/lang/Object")) (mT4 (List.mem_of_getElem? (i := 217) rfl)))
  obtain ⟨a6, ha6⟩ := arr_prim (hts (Cond.arrayClass .long) (mT5 (List.mem_of_getElem? (i := 229) rfl)))
  obtain ⟨a7, ha7⟩ := arr_prim (hts (Cond.arrayClass .double) (mT5 (List.mem_of_getElem? (i := 230) rfl)))
  refine ⟨((fun k => match k with | 0 => c0 | 1 => c1 | 2 => c2 | 3 => c3 | 4 => c4 | 5 => c5 | 6 => c6 | 7 => c7 | 8 => c8 | 9 => c9 | _ => c10, fun k => match k with | 0 => i0 | 1 => i1 | 2 => i2 | 3 => i3 | 4 => i4 | 5 => i5 | 6 => i6 | 7 => i7 | 8 => i8 | 9 => i9 | _ => i10), fun k => match k with | 0 => a0 | 1 => a1 | 2 => a2 | 3 => a3 | 4 => a4 | 5 => a5 | 6 => a6 | _ => a7), fun k q hq => ?_, fun k q hq => ?_⟩
  · match k, hq with
    | 0, hq => cases hq; exact hk0
    | 1, hq => cases hq; exact hk1
    | 2, hq => cases hq; exact hk2
    | 3, hq => cases hq; exact hk3
    | 4, hq => cases hq; exact hk4
    | 5, hq => cases hq; exact hk5
    | 6, hq => cases hq; exact hk6
    | 7, hq => cases hq; exact hk7
    | 8, hq => cases hq; exact hk8
    | 9, hq => cases hq; exact hk9
    | 10, hq => cases hq; exact hk10
    | k + 11, hq => simp [vwB] at hq
  · match k, hq with
    | 0, hq => cases hq; exact ha0
    | 1, hq => cases hq; exact ha1
    | 2, hq => cases hq; exact ha2
    | 3, hq => cases hq; exact ha3
    | 4, hq => cases hq; exact ha4
    | 5, hq => cases hq; exact ha5
    | 6, hq => cases hq; exact ha6
    | 7, hq => cases hq; exact ha7
    | k + 8, hq => simp [iT] at hq
set_option maxRecDepth 20000 in
theorem pm_N {A : Array Value} {s : State} (hts : ∀ w ∈ lw_tbl, w.before A s = true) : NW s := by
  have h : ∀ w ∈ nestW, w ∈ lw_tbl := (List.forall_mem_cons.mpr ⟨(mT1 (List.mem_of_getElem? (i := 86) rfl)), (List.forall_mem_cons.mpr ⟨(mT2 (List.mem_of_getElem? (i := 79) rfl)), (List.forall_mem_cons.mpr ⟨(mT2 (List.mem_of_getElem? (i := 82) rfl)), (List.forall_mem_cons.mpr ⟨(mT1 (List.mem_of_getElem? (i := 91) rfl)), (List.forall_mem_cons.mpr ⟨(mT1 (List.mem_of_getElem? (i := 94) rfl)), (List.forall_mem_cons.mpr ⟨(mT2 (List.mem_of_getElem? (i := 126) rfl)), (List.forall_mem_cons.mpr ⟨(mT2 (List.mem_of_getElem? (i := 130) rfl)), (List.forall_mem_cons.mpr ⟨(mT2 (List.mem_of_getElem? (i := 137) rfl)), (List.forall_mem_cons.mpr ⟨(mT2 (List.mem_of_getElem? (i := 214) rfl)), (List.forall_mem_cons.mpr ⟨(mT2 (List.mem_of_getElem? (i := 215) rfl)), (List.forall_mem_cons.mpr ⟨(mT1 (List.mem_of_getElem? (i := 105) rfl)), (List.forall_mem_cons.mpr ⟨(mT1 (List.mem_of_getElem? (i := 110) rfl)), (List.forall_mem_cons.mpr ⟨(mT1 (List.mem_of_getElem? (i := 113) rfl)), (List.forall_mem_cons.mpr ⟨(mT1 (List.mem_of_getElem? (i := 148) rfl)), (List.forall_mem_cons.mpr ⟨(mT1 (List.mem_of_getElem? (i := 58) rfl)), (List.forall_mem_cons.mpr ⟨(mT1 (List.mem_of_getElem? (i := 80) rfl)), (List.forall_mem_cons.mpr ⟨(mT1 (List.mem_of_getElem? (i := 130) rfl)), (List.forall_mem_cons.mpr ⟨(mT1 (List.mem_of_getElem? (i := 143) rfl)), (List.forall_mem_cons.mpr ⟨(mT1 (List.mem_of_getElem? (i := 108) rfl)), (List.forall_mem_cons.mpr ⟨(mT1 (List.mem_of_getElem? (i := 106) rfl)), (List.forall_mem_cons.mpr ⟨(mT1 (List.mem_of_getElem? (i := 135) rfl)), (List.forall_mem_cons.mpr ⟨(mT1 (List.mem_of_getElem? (i := 111) rfl)), (List.forall_mem_cons.mpr ⟨(mT1 (List.mem_of_getElem? (i := 114) rfl)), (List.forall_mem_cons.mpr ⟨(mT1 (List.mem_of_getElem? (i := 116) rfl)), (List.forall_mem_cons.mpr ⟨(mT1 (List.mem_of_getElem? (i := 92) rfl)), (List.forall_mem_cons.mpr ⟨(mT1 (List.mem_of_getElem? (i := 95) rfl)), (List.forall_mem_cons.mpr ⟨(mT1 (List.mem_of_getElem? (i := 152) rfl)), (List.forall_mem_cons.mpr ⟨(mT1 (List.mem_of_getElem? (i := 154) rfl)), (List.forall_mem_cons.mpr ⟨(mT1 (List.mem_of_getElem? (i := 150) rfl)), (List.forall_mem_cons.mpr ⟨(mT1 (List.mem_of_getElem? (i := 66) rfl)), (List.forall_mem_cons.mpr ⟨(mT1 (List.mem_of_getElem? (i := 64) rfl)), (fun _ h => absurd h List.not_mem_nil)⟩)⟩)⟩)⟩)⟩)⟩)⟩)⟩)⟩)⟩)⟩)⟩)⟩)⟩)⟩)⟩)⟩)⟩)⟩)⟩)⟩)⟩)⟩)⟩)⟩)⟩)⟩)⟩)⟩)⟩)⟩)
  have ho : ∀ w ∈ nestW, w.onTables = true := by decide +kernel
  exact fun w hw => va_Nw.of (ho w hw) (hts w (h w hw))
set_option maxRecDepth 20000 in
theorem nr_0 : (Cond.not (Cond.castable "java/lang/IllegalArgumentException" "java/lang/IndexOutOfBoundsException")) ∈ flatC (Jvm.Cond.and given_1 narrow_1) := by decide +kernel
set_option maxRecDepth 20000 in
theorem nr_1 : (Cond.not (Cond.castable "java/lang/IllegalStateException" "java/lang/IndexOutOfBoundsException")) ∈ flatC (Jvm.Cond.and given_1 narrow_1) := by decide +kernel
set_option maxRecDepth 20000 in
theorem nr_2 : (Cond.not (Cond.castable "java/lang/IllegalStateException" "java/lang/IllegalArgumentException")) ∈ flatC (Jvm.Cond.and given_1 narrow_1) := by decide +kernel
set_option maxRecDepth 20000 in
theorem nr_3 : (Cond.exactly (.string RX6 64) "java/lang/String") ∈ flatC (Jvm.Cond.and given_1 narrow_1) := by decide +kernel
set_option maxRecDepth 20000 in
theorem nr_4 : (Cond.exactly (.string RX6 121) "java/lang/String") ∈ flatC (Jvm.Cond.and given_1 narrow_1) := by decide +kernel
set_option maxRecDepth 20000 in
theorem nr_5 : (Cond.exactly (.string RX6 286) "java/lang/String") ∈ flatC (Jvm.Cond.and given_1 narrow_1) := by decide +kernel
set_option maxRecDepth 20000 in
theorem nr_6 : (Cond.exactly (.string RX6 293) "java/lang/String") ∈ flatC (Jvm.Cond.and given_1 narrow_1) := by decide +kernel
set_option maxRecDepth 20000 in
theorem nr_7 : (Cond.exactly (.string RX6 295) "java/lang/String") ∈ flatC (Jvm.Cond.and given_1 narrow_1) := by decide +kernel
set_option maxRecDepth 20000 in
theorem nr_8 : (Cond.exactly (.string RX6 297) "java/lang/String") ∈ flatC (Jvm.Cond.and given_1 narrow_1) := by decide +kernel
set_option maxRecDepth 20000 in
theorem nr_9 : (Cond.exactly (.string RX6 301) "java/lang/String") ∈ flatC (Jvm.Cond.and given_1 narrow_1) := by decide +kernel
set_option maxRecDepth 20000 in
theorem nr_10 : (Cond.isRef (.static "java/lang/Throwable" "UNASSIGNED_STACK" "[Ljava/lang/StackTraceElement;")) ∈ flatC (Jvm.Cond.and given_1 narrow_1) := by decide +kernel
set_option maxRecDepth 20000 in
theorem nr_11 : (Cond.isRef (.static "java/lang/Throwable" "SUPPRESSED_SENTINEL" "Ljava/util/List;")) ∈ flatC (Jvm.Cond.and given_1 narrow_1) := by decide +kernel
set_option maxRecDepth 20000 in
theorem nr_12 : (Cond.arrayOf (.static "java/util/ArrayList" "DEFAULTCAPACITY_EMPTY_ELEMENTDATA" "[Ljava/lang/Object;") (.object "java/lang/Object")) ∈ flatC (Jvm.Cond.and given_1 narrow_1) := by decide +kernel
set_option maxRecDepth 20000 in
theorem nr_13 : (Cond.eq (.length (.static "java/util/ArrayList" "DEFAULTCAPACITY_EMPTY_ELEMENTDATA" "[Ljava/lang/Object;")) (.int 0)) ∈ flatC (Jvm.Cond.and given_1 narrow_1) := by decide +kernel
set_option maxRecDepth 20000 in
theorem pm_V {A : Array Value} {s : State} (hts : ∀ w ∈ lw_tbl, w.before A s = true) (hs : ∀ w ∈ flatC (Jvm.Cond.and given_1 narrow_1), w.before A s = true) : VX s := ⟨va_AO.of (hts (Cond.arrayOver (.object RX1)) (mT1 (List.mem_of_getElem? (i := 76) rfl))), va_AO.of (hts (Cond.arrayOver (.object RX5)) (mT1 (List.mem_of_getElem? (i := 78) rfl))), va_AO.of (hts (Cond.arrayOver (.object "java/lang/Object")) (mT4 (List.mem_of_getElem? (i := 217) rfl))), va_Nw.of rfl (hts (Cond.declares ⟨"java/lang/RuntimeException", "<init>", "(Ljava/lang/String;)V"⟩) (mT1 (List.mem_of_getElem? (i := 207) rfl))), va_Nw.of rfl (hts (Cond.declares ⟨"java/lang/Exception", "<init>", "(Ljava/lang/String;)V"⟩) (mT1 (List.mem_of_getElem? (i := 209) rfl))), va_Nw.of rfl (hts (Cond.declares ⟨"java/lang/Throwable", "<init>", "(Ljava/lang/String;)V"⟩) (mT1 (List.mem_of_getElem? (i := 211) rfl))), va_Nw.of rfl (hts (Cond.castable "java/lang/IndexOutOfBoundsException" "java/lang/IndexOutOfBoundsException") (mT2 (List.mem_of_getElem? (i := 57) rfl))), va_Nw.of rfl (hts (Cond.castable "java/lang/IllegalArgumentException" "java/lang/IllegalArgumentException") (mT1 (List.mem_of_getElem? (i := 205) rfl))), va_Nw.of rfl (hts (Cond.castable "java/lang/IllegalStateException" "java/lang/IllegalStateException") (mT3 (List.mem_of_getElem? (i := 66) rfl))), va_Nc.of (hs _ nr_0), va_Nc.of (hs _ nr_1), va_Nc.of (hs _ nr_2), pm_str (hts (Cond.stringRef RX6 64 "the last place lies ahead of the first") (mT3 (List.mem_of_getElem? (i := 4) rfl))) (hs _ nr_3), pm_str (hts (Cond.stringRef RX6 121 "fewer than two frames") (mT3 (List.mem_of_getElem? (i := 97) rfl))) (hs _ nr_4), pm_str (hts (Cond.stringRef RX6 286 "there is no such number") (mT2 (List.mem_of_getElem? (i := 202) rfl))) (hs _ nr_5), pm_str (hts (Cond.stringRef RX6 293 "there is no such place") (mT3 (List.mem_of_getElem? (i := 3) rfl))) (hs _ nr_6), pm_str (hts (Cond.stringRef RX6 295 "there is no such frame") (mT2 (List.mem_of_getElem? (i := 64) rfl))) (hs _ nr_7), pm_str (hts (Cond.stringRef RX6 297 "the number is out of its range") (mT2 (List.mem_of_getElem? (i := 4) rfl))) (hs _ nr_8), pm_str (hts (Cond.stringRef RX6 301 "there is no room for one more") (mT3 (List.mem_of_getElem? (i := 73) rfl))) (hs _ nr_9), va_Fw.of (hts (Cond.declares ⟨"java/util/List", "size", "()I"⟩) (mT4 (List.mem_of_getElem? (i := 117) rfl))) (hts (Cond.interfaceMethod "java/util/List" "java/util/List" "size" "()I") (mT4 (List.mem_of_getElem? (i := 116) rfl))) (hts (Cond.publicMethod yJx4a65c_size_8abf5) (mT4 (List.mem_of_getElem? (i := 122) rfl))) (hts (Cond.unhidden RJx4a65c "size" "()I") (mT4 (List.mem_of_getElem? (i := 120) rfl))) (hts (Cond.castable RJx4a65c "java/util/List") (mT4 (List.mem_of_getElem? (i := 118) rfl))), va_Fw.of (hts (Cond.declares ⟨"java/util/List", "add", "(Ljava/lang/Object;)Z"⟩) (mT4 (List.mem_of_getElem? (i := 166) rfl))) (hts (Cond.interfaceMethod "java/util/List" "java/util/List" "add" "(Ljava/lang/Object;)Z") (mT4 (List.mem_of_getElem? (i := 165) rfl))) (hts (Cond.publicMethod yJx4a65c_add_9ea2d) (mT4 (List.mem_of_getElem? (i := 170) rfl))) (hts (Cond.unhidden RJx4a65c "add" "(Ljava/lang/Object;)Z") (mT4 (List.mem_of_getElem? (i := 168) rfl))) (hts (Cond.castable RJx4a65c "java/util/List") (mT4 (List.mem_of_getElem? (i := 118) rfl))), va_Nw.of rfl (hts (Cond.castable RX7 "java/lang/Object") (mT6 (List.mem_of_getElem? (i := 4) rfl)))⟩
set_option maxRecDepth 20000 in
theorem pm_T {A : Array Value} {s : State} (hts : ∀ w ∈ lw_tbl, w.before A s = true) (hs : ∀ w ∈ flatC (Jvm.Cond.and given_1 narrow_1), w.before A s = true) : ZT (fun q : Nat => s.heap.size ≤ q) s s.heap := ⟨vx_Zqof (hts (Cond.laysStatic "java/lang/Throwable" "UNASSIGNED_STACK" "[Ljava/lang/StackTraceElement;") (mT1 (List.mem_of_getElem? (i := 230) rfl))) (hts (Cond.initialized "java/lang/Throwable") (mT1 (List.mem_of_getElem? (i := 12) rfl))) (hs _ nr_10) (fun a h => Nat.not_le.mpr h), vx_Zqof (hts (Cond.laysStatic "java/lang/Throwable" "SUPPRESSED_SENTINEL" "Ljava/util/List;") (mT1 (List.mem_of_getElem? (i := 232) rfl))) (hts (Cond.initialized "java/lang/Throwable") (mT1 (List.mem_of_getElem? (i := 12) rfl))) (hs _ nr_11) (fun a h => Nat.not_le.mpr h)⟩
set_option maxRecDepth 20000 in
theorem pm_Z {A : Array Value} {s : State} (hts : ∀ w ∈ lw_tbl, w.before A s = true) (hs : ∀ w ∈ flatC (Jvm.Cond.and given_1 narrow_1), w.before A s = true) : ∃ dz : Nat, ZD dz (fun q : Nat => s.heap.size ≤ q) s s.heap := by
  obtain ⟨t, ht, hT⟩ := va_Tof (N := 0) (f := fun _ => .null) (A := fun q : Nat => s.heap.size ≤ q) (by decide) (hs _ nr_12) (va_eqt (hs _ nr_13)) (fun j h => absurd h (Nat.not_lt_zero _)) (fun a h => Nat.not_le.mpr h)
  exact ⟨t, va_Zof (hts (Cond.laysStatic "java/util/ArrayList" "DEFAULTCAPACITY_EMPTY_ELEMENTDATA" "[Ljava/lang/Object;") (mT4 (List.mem_of_getElem? (i := 33) rfl))) (hts (Cond.initialized RJx4a65c) (mT1 (List.mem_of_getElem? (i := 11) rfl))) ht (fun a h => Nat.not_le.mpr h), hT, va_Nw.of rfl (hts (Cond.methodLinkNest RX7 29 yX9_colour RX9) (mT5 (List.mem_of_getElem? (i := 134) rfl)))⟩
