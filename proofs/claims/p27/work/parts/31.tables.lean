/-- what the tables say beside the words: the classes of arrays of references -/
def VX (U : State) : Prop := va_AO RX1 U ∧ va_AO RX5 U ∧ va_AG U
theorem VX_warm {s U : State} (hW : s.WarmedH U.vm) (h : VX s) : VX U := ⟨va_AO.moved hW.alike h.1, va_AO.moved hW.alike h.2.1, va_AG.moved hW.alike h.2.2⟩
theorem VX_same {u U : State} (hv : u.vm = U.vm) (h : VX u) : VX U := ⟨va_AO.moved (u := u) (U := U) (by rw [hv]; exact Vm.Alike.refl _) h.1, va_AO.moved (u := u) (U := U) (by rw [hv]; exact Vm.Alike.refl _) h.2.1, va_AG.moved (u := u) (U := U) (by rw [hv]; exact Vm.Alike.refl _) h.2.2⟩
theorem vx_ao1 {U : State} (h : VX U) : va_AO RX1 U := h.1
theorem vx_ao5 {U : State} (h : VX U) : va_AO RX5 U := h.2.1
theorem vx_ag {U : State} (h : VX U) : va_AG U := h.2.2
/-- a start that also knows the tables -/
abbrev iPreV (G : iG) (N : Nat) (ad : Nat → Nat) (C : Nat → va_E) (sz : Nat) (av : List Value) : Array Value → State → Prop := va_Pc av (fun U => (U.heap.size = sz ∧ va_P G.1 vwB (wl N ad C) U.heap ∧ KB G U ∧ va_D (fun _ => True) (wl N ad C)) ∧ VX U)
theorem iblindV {G : iG} {N : Nat} {ad : Nat → Nat} {C : Nat → va_E} {sz : Nat} {av : List Value} : FrameBlind (iPreV G N ad C sz av) := fun a U g mk q => by
  obtain ⟨q0, ⟨q1, q2, qK, qD⟩, qV⟩ := q
  exact ⟨q0, ⟨q1, q2, ⟨va_K.moved (u := U) (U := U.calling g mk a) (Vm.Alike.refl U.vm) qK.1, NW_same (u := U) (U := U.calling g mk a) rfl qK.2⟩, qD⟩, VX_same (u := U) (U := U.calling g mk a) rfl qV⟩
theorem iPSV {G : iG} {N : Nat} {ad : Nat → Nat} {C : Nat → va_E} {s : State} {H : Heap} {A : Nat → Prop} (hK : KB G s) (hV : VX s) (hP : va_P G.1 vwB (wl N ad C) H) (hD : va_D A (wl N ad C)) (As : List Value) : PreS s H (iPreV G N ad C H.size As) As := ⟨iblindV, fun U hU hW => ⟨rfl, ⟨by rw [hU], by rw [hU]; exact hP, KB_warm hW hK, hD.weaken (fun _ _ _ _ => trivial)⟩, VX_warm hW hV⟩⟩
theorem iPVV {G : iG} {N : Nat} {ad : Nat → Nat} {C : Nat → va_E} {s : State} {H : Heap} {A : Nat → Prop} (hK : KB G s) (hV : VX s) (hP : va_P G.1 vwB (wl N ad C) H) (hD : va_D A (wl N ad C)) {j ci : Nat} {q : vw_C} {fs : List Value} (hj : j < N) (hc : C j = ob ci fs) (hq : vwB[ci]? = some q) (As : List Value) : PreV s H q.1 (ad j) (iPreV G N ad C H.size (.ref (ad j) :: As)) As := ⟨iblindV, va_recv hK.1 hP hq (wl_get hj hc), fun U hU hW => ⟨rfl, ⟨by rw [hU], by rw [hU]; exact hP, KB_warm hW hK, hD.weaken (fun _ _ _ _ => trivial)⟩, VX_warm hW hV⟩⟩
/-- the script: L ints at the cell b, which is none of the world's -/
def XS (b L : Nat) (xs : Nat → Int32) (N : Nat) (ad : Nat → Nat) (U : State) (H : Heap) : Prop := va_X b L xs U H ∧ b < H.size ∧ L ≤ 260 ∧ ∀ j, j < N → ad j ≠ b
theorem XS_out {b L : Nat} {xs : Nat → Int32} {N : Nat} {ad : Nat → Nat} {U : State} {H : Heap} (h : XS b L xs N ad U H) : ¬ iA N ad H.size b := fun q => by
  rcases q with ⟨j, hj, e⟩ | q
  · exact h.2.2.2 j hj e.symm
  · exact absurd h.2.1 (Nat.not_lt.mpr q)
/-- it stays while the world grows -/
theorem XS_gr {b L : Nat} {xs : Nat → Int32} {N M : Nat} {ad ad1 : Nat → Nat} {s U : State} {H : Heap} {A : Nat → Prop} {C1 : Nat → va_E} {locs : List Loc} (h : XS b L xs N ad s s.heap) (hb : ¬ A b) (hS : va_S A s.heap H locs) (hD : va_D A (wl M ad1 C1)) (hvm : s.vm.Alike U.vm) : XS b L xs M ad1 U H := by
  refine ⟨(h.1.kept (hS.2.1 b h.2.1 hb)).moved hvm, Nat.lt_of_lt_of_le h.2.1 hS.1, h.2.2.1, fun j hj e => hb ?_⟩
  rw [← e]
  exact hD.2 j _ (wl_get hj rfl)
abbrev iPreX (G : iG) (N : Nat) (ad : Nat → Nat) (C : Nat → va_E) (b L : Nat) (xs : Nat → Int32) (sz : Nat) (av : List Value) : Array Value → State → Prop := va_Pc av (fun U => (U.heap.size = sz ∧ va_P G.1 vwB (wl N ad C) U.heap ∧ KB G U ∧ va_D (fun _ => True) (wl N ad C)) ∧ VX U ∧ XS b L xs N ad U U.heap)
theorem iblindX {G : iG} {N : Nat} {ad : Nat → Nat} {C : Nat → va_E} {b L : Nat} {xs : Nat → Int32} {sz : Nat} {av : List Value} : FrameBlind (iPreX G N ad C b L xs sz av) := fun a U g mk q => by
  obtain ⟨q0, ⟨q1, q2, qK, qD⟩, qV, x1, x2⟩ := q
  exact ⟨q0, ⟨q1, q2, ⟨va_K.moved (u := U) (U := U.calling g mk a) (Vm.Alike.refl U.vm) qK.1, NW_same (u := U) (U := U.calling g mk a) rfl qK.2⟩, qD⟩, VX_same (u := U) (U := U.calling g mk a) rfl qV, va_X.moved (u := U) (U := U.calling g mk a) (Vm.Alike.refl U.vm) x1, x2⟩
theorem iPSX {G : iG} {N M : Nat} {ad ad0 : Nat → Nat} {C : Nat → va_E} {b L : Nat} {xs : Nat → Int32} {s : State} {H : Heap} {A : Nat → Prop} {locs : List Loc} (hK : KB G s) (hV : VX s) (hX : XS b L xs M ad0 s s.heap) (hbA : ¬ A b) (hS : va_S A s.heap H locs) (hP : va_P G.1 vwB (wl N ad C) H) (hD : va_D A (wl N ad C)) (As : List Value) : PreS s H (iPreX G N ad C b L xs H.size As) As := ⟨iblindX, fun U hU hW => ⟨rfl, ⟨by rw [hU], by rw [hU]; exact hP, KB_warm hW hK, hD.weaken (fun _ _ _ _ => trivial)⟩, VX_warm hW hV, by rw [hU]; exact XS_gr hX hbA hS hD hW.alike⟩⟩
theorem iPVX {G : iG} {N M : Nat} {ad ad0 : Nat → Nat} {C : Nat → va_E} {b L : Nat} {xs : Nat → Int32} {s : State} {H : Heap} {A : Nat → Prop} {locs : List Loc} (hK : KB G s) (hV : VX s) (hX : XS b L xs M ad0 s s.heap) (hbA : ¬ A b) (hS : va_S A s.heap H locs) (hP : va_P G.1 vwB (wl N ad C) H) (hD : va_D A (wl N ad C)) {j ci : Nat} {q : vw_C} {fs : List Value} (hj : j < N) (hc : C j = ob ci fs) (hq : vwB[ci]? = some q) (As : List Value) : PreV s H q.1 (ad j) (iPreX G N ad C b L xs H.size (.ref (ad j) :: As)) As := ⟨iblindX, va_recv hK.1 hP hq (wl_get hj hc), fun U hU hW => ⟨rfl, ⟨by rw [hU], by rw [hU]; exact hP, KB_warm hW hK, hD.weaken (fun _ _ _ _ => trivial)⟩, VX_warm hW hV, by rw [hU]; exact XS_gr hX hbA hS hD hW.alike⟩⟩
