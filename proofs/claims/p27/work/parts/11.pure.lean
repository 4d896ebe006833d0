def isPl (x y : Int32) : Bool := !decide (x < 0) && !decide (nI 8 ≤ x) && !decide (y < 0) && !decide (nI 8 ≤ y)
def colN (x y : Nat) : Nat := if x % 2 = y % 2 then (if x % 2 = 0 then 0 else 2) else 1
theorem colN_lt (x y : Nat) : colN x y < 3 := by unfold colN; split <;> (try split) <;> omega
/-- a number held to 0f to 255f -/
def bdF (x : UInt32) : UInt32 := if Op.cmpValue (FP.fcmp x 1132396544) .l ≤ 0 then (if Op.cmpValue (FP.fcmp x FP.fconst0) .l ≤ 0 then FP.fconst0 else x) else 1132396544
def leastI (kind : Int32) : Int32 := if kind = nI 1 ∨ kind = nI 2 then nI 1 else nI 0
def minI (x y : Int32) : Int32 := if y < x then y else x
def maxI (x y : Int32) : Int32 := if x < y then y else x
/-- RAW out of how a place is, the light, the gain and the draw -/
def rawI (how : Int32) (light : UInt32) (gain : Int32) (drawn : Nat) : Int32 := if how = nI 1 then nI 0 else if how = nI 2 then nI 255 else maxI (nI 0) (minI (nI 255) (nI 16 + minI (FP.f2i light) (nI 255) * gain + nI (drawn % 8) - nI 4))
abbrev rmX6_placeOf : Room := { frames := 0, cells := 0, slots := 0, locals := 0 }
set_option maxHeartbeats 4000000 in
set_option maxRecDepth 100000 in
theorem kX6_placeOf (l : Launch) (x y : Nat) : Met l yX6_placeOf wsX6_placeOf rmX6_placeOf (va_Pc [.int (nI x), .int (nI y)] (fun _ => True)) (va_Qi (fun (r : Int32) (_ : Unit) => r = nI (8 * y + x)) (fun _ _ => True) (fun _ => False)) 0 0 (fun _ => False) := by
  refine Met.ofW (cc := cX6_placeOf) (maxL := 2) (ret := (some .int)) (by decide) rfl ?_
  intro p e s m args below meth c s₁ B hml hv
  obtain ⟨rfl, -⟩ := hv
  have hx := B.exec
  have hb := B.bytes
  have hr := B.returns
  have hts := atoms_spec (ws := wsX6_placeOf) B.pre
  have hown : s.vm.findClass RX6 = some m.cls := findClass_of_methodNamed B.named
  have hlocks := B.notSynchronized
  have hS : va_S (fun _ => False) s.heap s.heap [] := va_S.rf
  have hP : va_P (fun _ => 0, fun _ _ => 0) [] [] s.heap := fun k q h => by simp at h
  have hl := lv_entry ([.int (nI x), .int (nI y)]) (n := 2) (Nat.le_of_ble_eq_true rfl)
  rw [lg_entry_eq]
  generalize (lg_sl ([.int (nI x), .int (nI y)]) ++ List.replicate (2 - (lg_sl ([.int (nI x), .int (nI y)])).length) Slot.unset).toArray = ls at hl ⊢
  have hl : lv_has ls 2 [(0, .int (nI x)), (1, .int (nI y))] := hl
  refine lv_bipush (v := nI 8) hx hb dX6_placeOf_0 (by decide) ?_
  refine lv_iload_n hx hb dX6_placeOf_2 rfl (lv_at hl 1 rfl) ?_
  refine lv_imul hx hb dX6_placeOf_3 ?_
  refine lv_asI (y := nI (8 * y)) (pk_mul _ _) ?_
  refine lv_iload_n hx hb dX6_placeOf_4 rfl (lv_at hl 0 rfl) ?_
  refine lv_iadd hx hb dX6_placeOf_5 ?_
  refine lv_asI (y := nI ((8 * y) + x)) (nI_add _ _) ?_
  exact W.iret (v := (nI ((8 * y) + x))) hx hb hr (fun t ht hW => ⟨⟨_, (), rfl, rfl, trivial⟩, hS.F ht⟩) hS.2.2 dX6_placeOf_6
abbrev rmX2_indexOf : Room := { frames := 0, cells := 0, slots := 0, locals := 0 }
set_option maxHeartbeats 4000000 in
set_option maxRecDepth 100000 in
theorem kX2_indexOf (l : Launch) (z k : Nat) : Met l yX2_indexOf wsX2_indexOf rmX2_indexOf (va_Pc [.int (nI z), .int (nI k)] (fun _ => True)) (va_Qi (fun (r : Int32) (_ : Unit) => r = nI (3 * z + k)) (fun _ _ => True) (fun _ => False)) 0 0 (fun _ => False) := by
  refine Met.ofW (cc := cX2_indexOf) (maxL := 2) (ret := (some .int)) (by decide) rfl ?_
  intro p e s m args below meth c s₁ B hml hv
  obtain ⟨rfl, -⟩ := hv
  have hx := B.exec
  have hb := B.bytes
  have hr := B.returns
  have hts := atoms_spec (ws := wsX2_indexOf) B.pre
  have hown : s.vm.findClass RX2 = some m.cls := findClass_of_methodNamed B.named
  have hlocks := B.notSynchronized
  have hS : va_S (fun _ => False) s.heap s.heap [] := va_S.rf
  have hP : va_P (fun _ => 0, fun _ _ => 0) [] [] s.heap := fun k q h => by simp at h
  have hl := lv_entry ([.int (nI z), .int (nI k)]) (n := 2) (Nat.le_of_ble_eq_true rfl)
  rw [lg_entry_eq]
  generalize (lg_sl ([.int (nI z), .int (nI k)]) ++ List.replicate (2 - (lg_sl ([.int (nI z), .int (nI k)])).length) Slot.unset).toArray = ls at hl ⊢
  have hl : lv_has ls 2 [(0, .int (nI z)), (1, .int (nI k))] := hl
  refine lv_iconst (v := nI 3) hx hb dX2_indexOf_0 (by decide) ?_
  refine lv_iload_n hx hb dX2_indexOf_1 rfl (lv_at hl 0 rfl) ?_
  refine lv_imul hx hb dX2_indexOf_2 ?_
  refine lv_asI (y := nI (3 * z)) (pk_mul _ _) ?_
  refine lv_iload_n hx hb dX2_indexOf_3 rfl (lv_at hl 1 rfl) ?_
  refine lv_iadd hx hb dX2_indexOf_4 ?_
  refine lv_asI (y := nI ((3 * z) + k)) (nI_add _ _) ?_
  exact W.iret (v := (nI ((3 * z) + k))) hx hb hr (fun t ht hW => ⟨⟨_, (), rfl, rfl, trivial⟩, hS.F ht⟩) hS.2.2 dX2_indexOf_5
abbrev rmX6_isPlace : Room := { frames := 0, cells := 0, slots := 0, locals := 0 }
set_option maxHeartbeats 4000000 in
set_option maxRecDepth 100000 in
theorem kX6_isPlace (l : Launch) (x y : Int32) : Met l yX6_isPlace wsX6_isPlace rmX6_isPlace (va_Pc [.int x, .int y] (fun _ => True)) (va_Qi (fun (r : Int32) (_ : Unit) => r = if isPl x y then nI 1 else nI 0) (fun _ _ => True) (fun _ => False)) 0 0 (fun _ => False) := by
  refine Met.ofW (cc := cX6_isPlace) (maxL := 2) (ret := (some .boolean)) (by decide) rfl ?_
  intro p e s m args below meth c s₁ B hml hv
  obtain ⟨rfl, -⟩ := hv
  have hx := B.exec
  have hb := B.bytes
  have hr := B.returns
  have hts := atoms_spec (ws := wsX6_isPlace) B.pre
  have hown : s.vm.findClass RX6 = some m.cls := findClass_of_methodNamed B.named
  have hlocks := B.notSynchronized
  have hS : va_S (fun _ => False) s.heap s.heap [] := va_S.rf
  have hP : va_P (fun _ => 0, fun _ _ => 0) [] [] s.heap := fun k q h => by simp at h
  have hl := lv_entry ([.int x, .int y]) (n := 2) (Nat.le_of_ble_eq_true rfl)
  rw [lg_entry_eq]
  generalize (lg_sl ([.int x, .int y]) ++ List.replicate (2 - (lg_sl ([.int x, .int y])).length) Slot.unset).toArray = ls at hl ⊢
  have hl : lv_has ls 2 [(0, .int x), (1, .int y)] := hl
  refine lv_iload_n hx hb dX6_isPlace_0 rfl (lv_at hl 0 rfl) ?_
  refine lv_if_lt (tgt := 24) hx hb dX6_isPlace_1 (by decide) (fun c1 => ?_) (fun c1 => ?_)
  · refine lv_iconst (v := nI 0) hx hb dX6_isPlace_24 (by decide) ?_
    exact W.zret (v := (nI 0)) (ty := .boolean) hx hb hr (by decide) (fun t ht hW => ⟨⟨_, (), rfl, by simp [isPl, *], trivial⟩, hS.F ht⟩) hS.2.2 dX6_isPlace_25
  · refine lv_iload_n hx hb dX6_isPlace_4 rfl (lv_at hl 0 rfl) ?_
    refine lv_bipush (v := nI 8) hx hb dX6_isPlace_5 (by decide) ?_
    refine lv_icmp_ge (tgt := 24) hx hb dX6_isPlace_7 (by decide) (fun c7 => ?_) (fun c7 => ?_)
    · refine lv_iconst (v := nI 0) hx hb dX6_isPlace_24 (by decide) ?_
      exact W.zret (v := (nI 0)) (ty := .boolean) hx hb hr (by decide) (fun t ht hW => ⟨⟨_, (), rfl, by simp [isPl, *], trivial⟩, hS.F ht⟩) hS.2.2 dX6_isPlace_25
    · refine lv_iload_n hx hb dX6_isPlace_10 rfl (lv_at hl 1 rfl) ?_
      refine lv_if_lt (tgt := 24) hx hb dX6_isPlace_11 (by decide) (fun c11 => ?_) (fun c11 => ?_)
      · refine lv_iconst (v := nI 0) hx hb dX6_isPlace_24 (by decide) ?_
        exact W.zret (v := (nI 0)) (ty := .boolean) hx hb hr (by decide) (fun t ht hW => ⟨⟨_, (), rfl, by simp [isPl, *], trivial⟩, hS.F ht⟩) hS.2.2 dX6_isPlace_25
      · refine lv_iload_n hx hb dX6_isPlace_14 rfl (lv_at hl 1 rfl) ?_
        refine lv_bipush (v := nI 8) hx hb dX6_isPlace_15 (by decide) ?_
        refine lv_icmp_ge (tgt := 24) hx hb dX6_isPlace_17 (by decide) (fun c17 => ?_) (fun c17 => ?_)
        · refine lv_iconst (v := nI 0) hx hb dX6_isPlace_24 (by decide) ?_
          exact W.zret (v := (nI 0)) (ty := .boolean) hx hb hr (by decide) (fun t ht hW => ⟨⟨_, (), rfl, by simp [isPl, *], trivial⟩, hS.F ht⟩) hS.2.2 dX6_isPlace_25
        · refine lv_iconst (v := nI 1) hx hb dX6_isPlace_20 (by decide) ?_
          refine lv_goto (tgt := 25) hx hb dX6_isPlace_21 (by decide) ?_
          exact W.zret (v := (nI 1)) (ty := .boolean) hx hb hr (by decide) (fun t ht hW => ⟨⟨_, (), rfl, by simp [isPl, *], trivial⟩, hS.F ht⟩) hS.2.2 dX6_isPlace_25
abbrev rmX6_colourSeen : Room := { frames := 0, cells := 0, slots := 0, locals := 0 }
set_option maxHeartbeats 4000000 in
set_option maxRecDepth 100000 in
theorem kX6_colourSeen (l : Launch) (x y : Nat) (hx0 : x < 2 ^ 31) (hy0 : y < 2 ^ 31) : Met l yX6_colourSeen wsX6_colourSeen rmX6_colourSeen (va_Pc [.int (nI x), .int (nI y)] (fun _ => True)) (va_Qi (fun (r : Int32) (_ : Unit) => r = nI (colN x y)) (fun _ _ => True) (fun _ => False)) 0 0 (fun _ => False) := by
  refine Met.ofW (cc := cX6_colourSeen) (maxL := 2) (ret := (some .int)) (by decide) rfl ?_
  intro p e s m args below meth c s₁ B hml hv
  obtain ⟨rfl, -⟩ := hv
  have hx := B.exec
  have hb := B.bytes
  have hr := B.returns
  have hts := atoms_spec (ws := wsX6_colourSeen) B.pre
  have hown : s.vm.findClass RX6 = some m.cls := findClass_of_methodNamed B.named
  have hlocks := B.notSynchronized
  have hS : va_S (fun _ => False) s.heap s.heap [] := va_S.rf
  have hP : va_P (fun _ => 0, fun _ _ => 0) [] [] s.heap := fun k q h => by simp at h
  have hl := lv_entry ([.int (nI x), .int (nI y)]) (n := 2) (Nat.le_of_ble_eq_true rfl)
  rw [lg_entry_eq]
  generalize (lg_sl ([.int (nI x), .int (nI y)]) ++ List.replicate (2 - (lg_sl ([.int (nI x), .int (nI y)])).length) Slot.unset).toArray = ls at hl ⊢
  have hl : lv_has ls 2 [(0, .int (nI x)), (1, .int (nI y))] := hl
  refine lv_iload_n hx hb dX6_colourSeen_0 rfl (lv_at hl 0 rfl) ?_
  refine lv_iconst (v := nI 2) hx hb dX6_colourSeen_1 (by decide) ?_
  refine lv_irem hx hb dX6_colourSeen_2 (by decide) ?_
  refine lv_asI (y := nI (x % 2)) (pk_rem (by omega) (by omega) (by omega)) ?_
  refine lv_iload_n hx hb dX6_colourSeen_3 rfl (lv_at hl 1 rfl) ?_
  refine lv_iconst (v := nI 2) hx hb dX6_colourSeen_4 (by decide) ?_
  refine lv_irem hx hb dX6_colourSeen_5 (by decide) ?_
  refine lv_asI (y := nI (y % 2)) (pk_rem (by omega) (by omega) (by omega)) ?_
  refine lv_icmp_eq (tgt := 11) hx hb dX6_colourSeen_6 (by decide) (fun c6 => ?_) (fun c6 => ?_)
  · rw [nI_eq (by omega) (by omega)] at c6
    refine lv_iload_n hx hb dX6_colourSeen_11 rfl (lv_at hl 0 rfl) ?_
    refine lv_iconst (v := nI 2) hx hb dX6_colourSeen_12 (by decide) ?_
    refine lv_irem hx hb dX6_colourSeen_13 (by decide) ?_
    refine lv_asI (y := nI (x % 2)) (pk_rem (by omega) (by omega) (by omega)) ?_
    refine lv_if_ne (tgt := 21) hx hb dX6_colourSeen_14 (by decide) (fun c14 => ?_) (fun c14 => ?_)
    · rw [← nI_0, nI_eq (by omega) (by omega)] at c14
      refine lv_iconst (v := nI 2) hx hb dX6_colourSeen_21 (by decide) ?_
      exact W.iret (v := (nI 2)) hx hb hr (fun t ht hW => ⟨⟨_, (), rfl, by unfold colN; (first | rw [if_pos c6, if_pos c14] | rw [if_pos c6, if_neg c14] | rw [if_neg c6]), trivial⟩, hS.F ht⟩) hS.2.2 dX6_colourSeen_22
    · rw [← nI_0, nI_eq (by omega) (by omega)] at c14
      refine lv_iconst (v := nI 0) hx hb dX6_colourSeen_17 (by decide) ?_
      refine lv_goto (tgt := 22) hx hb dX6_colourSeen_18 (by decide) ?_
      exact W.iret (v := (nI 0)) hx hb hr (fun t ht hW => ⟨⟨_, (), rfl, by unfold colN; (first | rw [if_pos c6, if_pos c14] | rw [if_pos c6, if_neg c14] | rw [if_neg c6]), trivial⟩, hS.F ht⟩) hS.2.2 dX6_colourSeen_22
  · rw [nI_eq (by omega) (by omega)] at c6
    refine lv_iconst (v := nI 1) hx hb dX6_colourSeen_9 (by decide) ?_
    exact W.iret (v := (nI 1)) hx hb hr (fun t ht hW => ⟨⟨_, (), rfl, by unfold colN; (first | rw [if_pos c6, if_pos c14] | rw [if_pos c6, if_neg c14] | rw [if_neg c6]), trivial⟩, hS.F ht⟩) hS.2.2 dX6_colourSeen_10
abbrev rmX6_leastNumber : Room := { frames := 0, cells := 0, slots := 0, locals := 0 }
set_option maxHeartbeats 4000000 in
set_option maxRecDepth 100000 in
theorem kX6_leastNumber (l : Launch) (kind : Int32) : Met l yX6_leastNumber wsX6_leastNumber rmX6_leastNumber (va_Pc [.int kind] (fun _ => True)) (va_Qi (fun (r : Int32) (_ : Unit) => r = leastI kind) (fun _ _ => True) (fun _ => False)) 0 0 (fun _ => False) := by
  refine Met.ofW (cc := cX6_leastNumber) (maxL := 1) (ret := (some .int)) (by decide) rfl ?_
  intro p e s m args below meth c s₁ B hml hv
  obtain ⟨rfl, -⟩ := hv
  have hx := B.exec
  have hb := B.bytes
  have hr := B.returns
  have hts := atoms_spec (ws := wsX6_leastNumber) B.pre
  have hown : s.vm.findClass RX6 = some m.cls := findClass_of_methodNamed B.named
  have hlocks := B.notSynchronized
  have hS : va_S (fun _ => False) s.heap s.heap [] := va_S.rf
  have hP : va_P (fun _ => 0, fun _ _ => 0) [] [] s.heap := fun k q h => by simp at h
  have hl := lv_entry ([.int kind]) (n := 1) (Nat.le_of_ble_eq_true rfl)
  rw [lg_entry_eq]
  generalize (lg_sl ([.int kind]) ++ List.replicate (1 - (lg_sl ([.int kind])).length) Slot.unset).toArray = ls at hl ⊢
  have hl : lv_has ls 1 [(0, .int kind)] := hl
  refine lv_iload_n hx hb dX6_leastNumber_0 rfl (lv_at hl 0 rfl) ?_
  refine lv_iconst (v := nI 1) hx hb dX6_leastNumber_1 (by decide) ?_
  refine lv_icmp_eq (tgt := 10) hx hb dX6_leastNumber_2 (by decide) (fun c2 => ?_) (fun c2 => ?_)
  · refine lv_iconst (v := nI 1) hx hb dX6_leastNumber_10 (by decide) ?_
    refine lv_goto (tgt := 15) hx hb dX6_leastNumber_11 (by decide) ?_
    exact W.iret (v := (nI 1)) hx hb hr (fun t ht hW => ⟨⟨_, (), rfl, by simp [leastI, *], trivial⟩, hS.F ht⟩) hS.2.2 dX6_leastNumber_15
  · refine lv_iload_n hx hb dX6_leastNumber_5 rfl (lv_at hl 0 rfl) ?_
    refine lv_iconst (v := nI 2) hx hb dX6_leastNumber_6 (by decide) ?_
    refine lv_icmp_ne (tgt := 14) hx hb dX6_leastNumber_7 (by decide) (fun c7 => ?_) (fun c7 => ?_)
    · refine lv_iconst (v := nI 0) hx hb dX6_leastNumber_14 (by decide) ?_
      exact W.iret (v := (nI 0)) hx hb hr (fun t ht hW => ⟨⟨_, (), rfl, by simp [leastI, *], trivial⟩, hS.F ht⟩) hS.2.2 dX6_leastNumber_15
    · refine lv_iconst (v := nI 1) hx hb dX6_leastNumber_10 (by decide) ?_
      refine lv_goto (tgt := 15) hx hb dX6_leastNumber_11 (by decide) ?_
      exact W.iret (v := (nI 1)) hx hb hr (fun t ht hW => ⟨⟨_, (), rfl, by simp [leastI, *], trivial⟩, hS.F ht⟩) hS.2.2 dX6_leastNumber_15
abbrev rmX2_bounded : Room := { frames := 0, cells := 0, slots := 0, locals := 0 }
set_option maxRecDepth 20000 in
theorem il_X2_bounded_53 : (Cond.constantFloat RX2 53 (1132396544)) ∈ wsX2_bounded := by decide +kernel
set_option maxHeartbeats 4000000 in
set_option maxRecDepth 100000 in
theorem kX2_bounded (l : Launch) (x : UInt32) : Met l yX2_bounded wsX2_bounded rmX2_bounded (va_Pc [.float x] (fun _ => True)) (va_Qf (fun (r : UInt32) (_ : Unit) => r = bdF x) (fun _ _ => True) (fun _ => False)) 0 0 (fun _ => False) := by
  refine Met.ofW (cc := cX2_bounded) (maxL := 1) (ret := (some .float)) (by decide) rfl ?_
  intro p e s m args below meth c s₁ B hml hv
  obtain ⟨rfl, -⟩ := hv
  have hx := B.exec
  have hb := B.bytes
  have hr := B.returns
  have hts := atoms_spec (ws := wsX2_bounded) B.pre
  have hown : s.vm.findClass RX2 = some m.cls := findClass_of_methodNamed B.named
  have hlocks := B.notSynchronized
  have hS : va_S (fun _ => False) s.heap s.heap [] := va_S.rf
  have hP : va_P (fun _ => 0, fun _ _ => 0) [] [] s.heap := fun k q h => by simp at h
  have hl := lv_entry ([.float x]) (n := 1) (Nat.le_of_ble_eq_true rfl)
  rw [lg_entry_eq]
  generalize (lg_sl ([.float x]) ++ List.replicate (1 - (lg_sl ([.float x])).length) Slot.unset).toArray = ls at hl ⊢
  have hl : lv_has ls 1 [(0, .float x)] := hl
  refine lv_fload_n hx hb dX2_bounded_0 rfl (lv_at hl 0 rfl) ?_
  refine lv_ldcf hx hb hown (hts _ il_X2_bounded_53) dX2_bounded_1 ?_
  refine lv_fcmp hx hb dX2_bounded_3 ?_
  refine lv_if_le (tgt := 10) hx hb dX2_bounded_4 (by decide) (fun c4 => ?_) (fun c4 => ?_)
  · refine lv_fload_n hx hb dX2_bounded_10 rfl (lv_at hl 0 rfl) ?_
    refine lv_fconst0 hx hb dX2_bounded_11 ?_
    refine lv_fcmp hx hb dX2_bounded_12 ?_
    refine lv_if_le (tgt := 20) hx hb dX2_bounded_13 (by decide) (fun c13 => ?_) (fun c13 => ?_)
    · refine lv_fconst0 hx hb dX2_bounded_20 ?_
      exact W.fret (v := FP.fconst0) hx hb hr (fun t ht hW => ⟨⟨_, (), rfl, by simp [bdF, *], trivial⟩, hS.F ht⟩) hS.2.2 dX2_bounded_21
    · refine lv_fload_n hx hb dX2_bounded_16 rfl (lv_at hl 0 rfl) ?_
      refine lv_goto (tgt := 21) hx hb dX2_bounded_17 (by decide) ?_
      exact W.fret (v := x) hx hb hr (fun t ht hW => ⟨⟨_, (), rfl, by simp [bdF, *], trivial⟩, hS.F ht⟩) hS.2.2 dX2_bounded_21
  · refine lv_ldcf hx hb hown (hts _ il_X2_bounded_53) dX2_bounded_7 ?_
    exact W.fret (v := (1132396544)) hx hb hr (fun t ht hW => ⟨⟨_, (), rfl, by simp [bdF, *], trivial⟩, hS.F ht⟩) hS.2.2 dX2_bounded_9
abbrev rmX4_rawOf : Room := { frames := 1, cells := 0, slots := 0, locals := 21 }
set_option maxRecDepth 20000 in
theorem il_X4_rawOf_51 : (Cond.methodLink RX4 51 Lib.Math.min.name) ∈ wsX4_rawOf := by decide +kernel
set_option maxRecDepth 20000 in
theorem il_X4_rawOf_st_min : (Cond.static Lib.Math.min.name) ∈ wsX4_rawOf := by decide +kernel
set_option maxRecDepth 20000 in
theorem il_X4_rawOf_ini_Math : (Cond.initialized "java/lang/Math") ∈ wsX4_rawOf := by decide +kernel
set_option maxRecDepth 20000 in
theorem il_X4_rawOf_code_min : (Cond.code Lib.Math.min.name Lib.Math.min.code 2 (some .int)) ∈ wsX4_rawOf := by decide +kernel
set_option maxRecDepth 20000 in
theorem il_X4_rawOf_56 : (Cond.methodLink RX4 56 Lib.Math.max.name) ∈ wsX4_rawOf := by decide +kernel
set_option maxRecDepth 20000 in
theorem il_X4_rawOf_st_max : (Cond.static Lib.Math.max.name) ∈ wsX4_rawOf := by decide +kernel
set_option maxRecDepth 20000 in
theorem il_X4_rawOf_code_max : (Cond.code Lib.Math.max.name Lib.Math.max.code 2 (some .int)) ∈ wsX4_rawOf := by decide +kernel
set_option maxHeartbeats 4000000 in
set_option maxRecDepth 100000 in
theorem kX4_rawOf (l : Launch) (how : Int32) (light : UInt32) (gain : Int32) (drawn : Nat) (hd0 : drawn < 2 ^ 31) : Met l yX4_rawOf wsX4_rawOf rmX4_rawOf (va_Pc [.int how, .float light, .int gain, .int (nI drawn)] (fun _ => True)) (va_Qi (fun (r : Int32) (_ : Unit) => r = rawI how light gain drawn) (fun _ _ => True) (fun _ => False)) 0 0 (fun _ => False) := by
  refine Met.ofW (cc := cX4_rawOf) (maxL := 5) (ret := (some .int)) (by decide) rfl ?_
  intro p e s m args below meth c s₁ B hml hv
  obtain ⟨rfl, -⟩ := hv
  have hx := B.exec
  have hb := B.bytes
  have hr := B.returns
  have hts := atoms_spec (ws := wsX4_rawOf) B.pre
  have hown : s.vm.findClass RX4 = some m.cls := findClass_of_methodNamed B.named
  have hlocks := B.notSynchronized
  have hS : va_S (fun _ => False) s.heap s.heap [] := va_S.rf
  have hP : va_P (fun _ => 0, fun _ _ => 0) [] [] s.heap := fun k q h => by simp at h
  have hl := lv_entry ([.int how, .float light, .int gain, .int (nI drawn)]) (n := 5) (Nat.le_of_ble_eq_true rfl)
  rw [lg_entry_eq]
  generalize (lg_sl ([.int how, .float light, .int gain, .int (nI drawn)]) ++ List.replicate (5 - (lg_sl ([.int how, .float light, .int gain, .int (nI drawn)])).length) Slot.unset).toArray = ls at hl ⊢
  have hl : lv_has ls 5 [(0, .int how), (1, .float light), (2, .int gain), (3, .int (nI drawn))] := hl
  refine lv_iload_n hx hb dX4_rawOf_0 rfl (lv_at hl 0 rfl) ?_
  refine lv_iconst (v := nI 1) hx hb dX4_rawOf_1 (by decide) ?_
  refine lv_icmp_ne (tgt := 7) hx hb dX4_rawOf_2 (by decide) (fun c2 => ?_) (fun c2 => ?_)
  · refine lv_iload_n hx hb dX4_rawOf_7 rfl (lv_at hl 0 rfl) ?_
    refine lv_iconst (v := nI 2) hx hb dX4_rawOf_8 (by decide) ?_
    refine lv_icmp_ne (tgt := 16) hx hb dX4_rawOf_9 (by decide) (fun c9 => ?_) (fun c9 => ?_)
    · refine lv_fload_n hx hb dX4_rawOf_16 rfl (lv_at hl 1 rfl) ?_
      refine lv_f2i hx hb dX4_rawOf_17 ?_
      refine lv_sipush (v := nI 255) hx hb dX4_rawOf_18 (by decide) ?_
      refine va_mmin hx hb (hml.trans hl.1.symm) hown (hts _ il_X4_rawOf_51) (hts _ il_X4_rawOf_st_min) (hts _ il_X4_rawOf_ini_Math) (hts _ il_X4_rawOf_code_min) (Nat.le_of_ble_eq_true rfl) (Nat.le_of_ble_eq_true rfl) (Nat.le_of_ble_eq_true rfl) (Nat.le_of_ble_eq_true rfl) dX4_rawOf_21 ?_
      refine lv_istore (lv' := [(4, .int (if (nI 255) < (FP.f2i light) then (nI 255) else (FP.f2i light))), (0, .int how), (1, .float light), (2, .int gain), (3, .int (nI drawn))]) hx hb dX4_rawOf_24 hl (by decide) rfl (fun ls hl => ?_)
      refine lv_iconst (v := nI 0) hx hb dX4_rawOf_26 (by decide) ?_
      refine lv_sipush (v := nI 255) hx hb dX4_rawOf_27 (by decide) ?_
      refine lv_bipush (v := nI 16) hx hb dX4_rawOf_30 (by decide) ?_
      refine lv_iload hx hb dX4_rawOf_32 (lv_at hl 0 rfl) ?_
      refine lv_iload_n hx hb dX4_rawOf_34 rfl (lv_at hl 3 rfl) ?_
      refine lv_imul hx hb dX4_rawOf_35 ?_
      refine lv_iadd hx hb dX4_rawOf_36 ?_
      refine lv_iload_n hx hb dX4_rawOf_37 rfl (lv_at hl 4 rfl) ?_
      refine lv_bipush (v := nI 8) hx hb dX4_rawOf_38 (by decide) ?_
      refine lv_irem hx hb dX4_rawOf_40 (by decide) ?_
      refine lv_asI (y := nI (drawn % 8)) (pk_rem (by omega) (by omega) (by omega)) ?_
      refine lv_iadd hx hb dX4_rawOf_41 ?_
      refine lv_iconst (v := nI 4) hx hb dX4_rawOf_42 (by decide) ?_
      refine lv_isub hx hb dX4_rawOf_43 ?_
      refine va_mmin hx hb (hml.trans hl.1.symm) hown (hts _ il_X4_rawOf_51) (hts _ il_X4_rawOf_st_min) (hts _ il_X4_rawOf_ini_Math) (hts _ il_X4_rawOf_code_min) (Nat.le_of_ble_eq_true rfl) (Nat.le_of_ble_eq_true rfl) (Nat.le_of_ble_eq_true rfl) (Nat.le_of_ble_eq_true rfl) dX4_rawOf_44 ?_
      refine va_mmax hx hb (hml.trans hl.1.symm) hown (hts _ il_X4_rawOf_56) (hts _ il_X4_rawOf_st_max) (hts _ il_X4_rawOf_ini_Math) (hts _ il_X4_rawOf_code_max) (Nat.le_of_ble_eq_true rfl) (Nat.le_of_ble_eq_true rfl) (Nat.le_of_ble_eq_true rfl) (Nat.le_of_ble_eq_true rfl) dX4_rawOf_47 ?_
      exact W.iret (v := (if (nI 0) < (if ((((nI 16) + ((if (nI 255) < (FP.f2i light) then (nI 255) else (FP.f2i light)) * gain)) + (nI (drawn % 8))) - (nI 4)) < (nI 255) then ((((nI 16) + ((if (nI 255) < (FP.f2i light) then (nI 255) else (FP.f2i light)) * gain)) + (nI (drawn % 8))) - (nI 4)) else (nI 255)) then (if ((((nI 16) + ((if (nI 255) < (FP.f2i light) then (nI 255) else (FP.f2i light)) * gain)) + (nI (drawn % 8))) - (nI 4)) < (nI 255) then ((((nI 16) + ((if (nI 255) < (FP.f2i light) then (nI 255) else (FP.f2i light)) * gain)) + (nI (drawn % 8))) - (nI 4)) else (nI 255)) else (nI 0))) hx hb hr (fun t ht hW => ⟨⟨_, (), rfl, by unfold rawI; (first | rw [if_pos c2] | rw [if_neg c2, if_pos c9] | (rw [if_neg c2, if_neg c9]; rfl)), trivial⟩, hS.F ht⟩) hS.2.2 dX4_rawOf_50
    · refine lv_sipush (v := nI 255) hx hb dX4_rawOf_12 (by decide) ?_
      exact W.iret (v := (nI 255)) hx hb hr (fun t ht hW => ⟨⟨_, (), rfl, by unfold rawI; (first | rw [if_pos c2] | rw [if_neg c2, if_pos c9] | (rw [if_neg c2, if_neg c9]; rfl)), trivial⟩, hS.F ht⟩) hS.2.2 dX4_rawOf_15
  · refine lv_iconst (v := nI 0) hx hb dX4_rawOf_5 (by decide) ?_
    exact W.iret (v := (nI 0)) hx hb hr (fun t ht hW => ⟨⟨_, (), rfl, by unfold rawI; (first | rw [if_pos c2] | rw [if_neg c2, if_pos c9] | (rw [if_neg c2, if_neg c9]; rfl)), trivial⟩, hS.F ht⟩) hS.2.2 dX4_rawOf_6
