set_option maxRecDepth 20000 in
theorem ggX9_isPlace_X9_in : GoodIn wsX9_isPlace wsX9_in := goodIn_r _ [4] (by decide +kernel) (by decide +kernel)
set_option maxRecDepth 20000 in
theorem gX9_isPlace_X9_in : GoodIn wsX9_isPlace (va_wsS RX9 37 yX9_in wsX9_in) := goodIn_app (goodIn_of _ (by decide +kernel)) ggX9_isPlace_X9_in
set_option maxRecDepth 20000 in
theorem ggX9_isFrame_Jx4a65c_size_8abf5 : GoodIn wsX9_isFrame wsJx4a65c_size_8abf5 := goodIn_r _ [6, 7, 20, 21, 22] (by decide +kernel) (by decide +kernel)
set_option maxRecDepth 20000 in
theorem gX9_isFrame_Jx4a65c_size_8abf5_f41Jx4a65c : GoodIn wsX9_isFrame (va_wsF RX9 41 RJx4a65c ⟨"java/util/List", "size", "()I"⟩ yJx4a65c_size_8abf5 wsJx4a65c_size_8abf5) := goodIn_app (goodIn_of _ (by decide +kernel)) ggX9_isFrame_Jx4a65c_size_8abf5
set_option maxRecDepth 20000 in
theorem ggX9_isFrame_X9_in : GoodIn wsX9_isFrame wsX9_in := goodIn_r _ [11] (by decide +kernel) (by decide +kernel)
set_option maxRecDepth 20000 in
theorem gX9_isFrame_X9_in : GoodIn wsX9_isFrame (va_wsS RX9 37 yX9_in wsX9_in) := goodIn_app (goodIn_of _ (by decide +kernel)) ggX9_isFrame_X9_in
/-! THE REFERENCE, small things; a new one: its seven cells -/
theorem iw_alenZ {p : Program} {l : Launch} {e : Env} {R : Room} {s : State} {m : MethodId} {args : Array Value} {below : List Frame} {meth : Method} {c : Code} {H : Heap} {locs : List Loc} {cells slots : Nat} {Q : State → Prop} {pc : Nat} {ls : Array Slot} {rest : List Value} {G : iG} {N : Nat} {ad : Nat → Nat} {C : Nat → va_E} {cc : ByteArray} (hexec : p.tables.exec = Jvm.exec) (hb : c.code = cc) (hK : KB G s) (hP : va_P G.1 vwB (wl N ad C) H) {j n : Nat} {f : Nat → Int32} (hj : j < N) (hc : C j = za G n f) {v : Int32} (hv : Int32.ofNat n = v) (hdg : decode cc pc = .ok (.arraylength, 1))
    (kk : W p l e R s m args below meth c H locs cells slots Q (F0 m (pc + 1) ls (.int v :: rest))) : W p l e R s m args below meth c H locs cells slots Q (F0 m pc ls (.ref (ad j) :: rest)) :=
  va_alen hexec hb hK.1 hP j 2 (wl_get hj hc) rfl hv hdg kk
theorem iw5_i {p : Program} {l : Launch} {e : Env} {R : Room} {s : State} {m : MethodId} {args : Array Value} {below : List Frame} {meth : Method} {c : Code} {H : Heap} {locs : List Loc} {cells slots : Nat} {Q : State → Prop} {pc : Nat} {ls : Array Slot} {rest st0 : List Value} {a : Array Value} {A : Nat → Prop} {H0 : Heap} {G : iG} {N : Nat} {ad : Nat → Nat} {C : Nat → va_E} {post : Int32 → (Nat → va_E) → Prop} (hr : va_Run5 p l e R s m args below meth c H locs cells slots 0 0 (F0 m pc ls st0) rest (va_Qi post (iB G N ad) (iA N ad H.size) a) (iA N ad H.size)) (hD : va_D A (wl N ad C)) (hS : va_S A H0 H locs) (hA : ∀ q, H0.size ≤ q → A q)
    (kk : ∀ (r : Int32) (u : Nat → va_E) (H1 : Heap) (locs1 : List Loc), post r u → va_P G.1 vwB (wl N ad u) H1 → va_D A (wl N ad u) → va_S A H0 H1 locs1 → W p l e R s m args below meth c H1 locs1 cells slots Q (F0 m (pc + 5) ls (.int r :: rest))) : W p l e R s m args below meth c H locs cells slots Q (F0 m pc ls st0) :=
  va_callFi hr hS (fun q _ h => iA_free hD hS hA q h) (iA_free hD hS hA) (fun r u t H1 locs1 ht hvm hw hB hz1 hk1 hS => kk r u H1 locs1 hw (by rw [← ht]; exact hB) (wl_D hD u) hS)
def Mod (G : iG) (N : Nat) (ad : Nat → Nat) (C : Nat → va_E) (mo dz : Nat) (th : Int32) : Prop :=
  mo + 7 ≤ N ∧ C mo = ob 9 [.int th, .ref (ad (mo + 1)), .ref (ad (mo + 2)), .ref (ad (mo + 3)), .ref (ad (mo + 4)), .int (nI 0), .ref (ad (mo + 5)), .ref (ad (mo + 6))] ∧ C (mo + 1) = ia G 192 (fun _ => nI 0) ∧ C (mo + 2) = ia G 3 (fun _ => nI 4) ∧ C (mo + 3) = ia G 64 (fun _ => nI 0) ∧ C (mo + 4) = za G 64 (fun _ => nI 0) ∧ C (mo + 5) = ob 10 [.int (nI 0), .ref dz, .int (nI 0)] ∧ C (mo + 6) = ob 10 [.int (nI 0), .ref dz, .int (nI 0)]
def sameM (C u : Nat → va_E) (mo : Nat) : Prop := ∀ i, i < mo ∨ mo + 7 ≤ i → u i = C i
theorem sameM_rf {C : Nat → va_E} {mo : Nat} : sameM C C mo := fun _ _ => rfl
theorem sameM_up {C u : Nat → va_E} {mo j : Nat} (h : sameM C u mo) (e : va_E) (h1 : mo ≤ j) (h2 : j < mo + 7) : sameM C (va_up u j e) mo := fun i hi => (va_un _ _ (by omega)).trans (h i hi)
/-- what is told of the reference behind a call: the field 'thrown', the rest of its object as it was -/
def Thr (ad : Nat → Nat) (u : Nat → va_E) (mo : Nat) (th : Int32) : Prop := ∃ d : Int32, u mo = ob 9 [.int th, .ref (ad (mo + 1)), .ref (ad (mo + 2)), .ref (ad (mo + 3)), .ref (ad (mo + 4)), .int d, .ref (ad (mo + 5)), .ref (ad (mo + 6))]
def inB (k lo hi : Int32) : Int32 := if k < lo then nI 0 else if k ≤ hi then nI 1 else nI 0
theorem inB_lo {k lo hi : Int32} (h : k < lo ∨ hi < k) : inB k lo hi = nI 0 := by
  unfold inB
  rcases h with h | h
  · rw [if_pos h]
  · by_cases c : k < lo
    · rw [if_pos c]
    · rw [if_neg c, if_neg (i_nle h)]
theorem inB_in {k lo hi : Int32} (h1 : ¬ k < lo) (h2 : k ≤ hi) : inB k lo hi = nI 1 := by unfold inB; rw [if_neg h1, if_pos h2]
theorem inB_no (k : Int32) : inB k (nI 0) (nI 0 - nI 1) = nI 0 := by
  unfold inB
  by_cases c : k < nI 0
  · rw [if_pos c]
  · rw [if_neg c]
    by_cases d : k ≤ nI 0 - nI 1
    · exact absurd (Int32.lt_of_le_of_lt d (by decide)) c
    · rw [if_neg d]
theorem isPl_io (x y : Int32) : (if inB x (nI 0) (nI 7) = nI 0 then nI 0 else if inB y (nI 0) (nI 7) = nI 0 then nI 0 else nI 1) = (if isPl x y then nI 1 else nI 0) := by
  have e7 : ∀ z : Int32, z ≤ nI 7 ↔ ¬ nI 8 ≤ z := by
    intro z
    simp only [Int32.le_iff_toInt_le]
    have a : (nI 7).toInt = 7 := by decide
    have b : (nI 8).toInt = 8 := by decide
    rw [a, b]
    omega
  have e0 : ∀ z : Int32, z < nI 0 ↔ z < 0 := fun z => Iff.rfl
  unfold inB isPl
  simp only [e7, e0]
  by_cases h1 : x < 0 <;> by_cases h2 : nI 8 ≤ x <;> by_cases h3 : y < 0 <;> by_cases h4 : nI 8 ≤ y <;> simp [h1, h2, h3, h4] <;> decide
theorem colN_add (x y : Nat) : x % 2 + y % 2 = colN x y := by
  unfold colN
  split <;> (try split) <;> omega
abbrev rmX9_in : Room := { frames := 0, cells := 0, slots := 0, locals := 0 }
set_option maxHeartbeats 4000000 in
set_option maxRecDepth 100000 in
theorem kX9_in (l : Launch) (k lo hi : Int32) : Met l yX9_in wsX9_in rmX9_in (va_Pc [.int k, .int lo, .int hi] (fun _ => True)) (va_Qi (fun (r : Int32) (_ : Unit) => r = inB k lo hi) (fun _ _ => True) (fun _ => False)) 0 0 (fun _ => False) := by
  refine Met.ofW (cc := cX9_in) (maxL := 3) (ret := (some .boolean)) (by decide) rfl ?_
  intro p e s m args below meth c s₁ B hml hv
  obtain ⟨rfl, -⟩ := hv
  have hx := B.exec
  have hb := B.bytes
  have hr := B.returns
  have hts := atoms_spec (ws := wsX9_in) B.pre
  have hown : s.vm.findClass RX9 = some m.cls := findClass_of_methodNamed B.named
  have hlocks := B.notSynchronized
  have hS : va_S (fun _ => False) s.heap s.heap [] := va_S.rf
  have hP : va_P (fun _ => 0, fun _ _ => 0) [] [] s.heap := fun k q h => by simp at h
  have hl := lv_entry ([.int k, .int lo, .int hi]) (n := 3) (Nat.le_of_ble_eq_true rfl)
  rw [lg_entry_eq]
  generalize (lg_sl ([.int k, .int lo, .int hi]) ++ List.replicate (3 - (lg_sl ([.int k, .int lo, .int hi])).length) Slot.unset).toArray = ls at hl ⊢
  have hl : lv_has ls 3 [(0, .int k), (1, .int lo), (2, .int hi)] := hl
  refine lv_iload_n hx hb dX9_in_0 rfl (lv_at hl 0 rfl) ?_
  refine lv_iload_n hx hb dX9_in_1 rfl (lv_at hl 1 rfl) ?_
  refine lv_icmp_lt (tgt := 14) hx hb dX9_in_2 (by decide) (fun c2 => ?_) (fun c2 => ?_)
  · refine lv_iconst (v := nI 0) hx hb dX9_in_14 (by decide) ?_
    exact W.zret (v := (nI 0)) (ty := .boolean) hx hb hr (by decide) (fun t ht hW => ⟨⟨_, (), rfl, (by first | (unfold inB; rw [if_pos c2]; done) | (unfold inB; rw [if_neg c2, if_neg (i_nle c7)]; done) | (unfold inB; rw [if_neg c2, if_pos (Int32.not_lt.mp c7)]; done)), trivial⟩, hS.F ht⟩) hS.2.2 dX9_in_15
  · refine lv_iload_n hx hb dX9_in_5 rfl (lv_at hl 0 rfl) ?_
    refine lv_iload_n hx hb dX9_in_6 rfl (lv_at hl 2 rfl) ?_
    refine lv_icmp_gt (tgt := 14) hx hb dX9_in_7 (by decide) (fun c7 => ?_) (fun c7 => ?_)
    · refine lv_iconst (v := nI 0) hx hb dX9_in_14 (by decide) ?_
      exact W.zret (v := (nI 0)) (ty := .boolean) hx hb hr (by decide) (fun t ht hW => ⟨⟨_, (), rfl, (by first | (unfold inB; rw [if_pos c2]; done) | (unfold inB; rw [if_neg c2, if_neg (i_nle c7)]; done) | (unfold inB; rw [if_neg c2, if_pos (Int32.not_lt.mp c7)]; done)), trivial⟩, hS.F ht⟩) hS.2.2 dX9_in_15
    · refine lv_iconst (v := nI 1) hx hb dX9_in_10 (by decide) ?_
      refine lv_goto (tgt := 15) hx hb dX9_in_11 (by decide) ?_
      exact W.zret (v := (nI 1)) (ty := .boolean) hx hb hr (by decide) (fun t ht hW => ⟨⟨_, (), rfl, (by first | (unfold inB; rw [if_pos c2]; done) | (unfold inB; rw [if_neg c2, if_neg (i_nle c7)]; done) | (unfold inB; rw [if_neg c2, if_pos (Int32.not_lt.mp c7)]; done)), trivial⟩, hS.F ht⟩) hS.2.2 dX9_in_15
abbrev rmX9_isPlace : Room := { frames := 1, cells := 0, slots := 0, locals := 22 }
set_option maxHeartbeats 4000000 in
set_option maxRecDepth 100000 in
theorem kX9_isPlace (l : Launch) (x y : Int32) : Met l yX9_isPlace wsX9_isPlace rmX9_isPlace (va_Pc [.int x, .int y] (fun _ => True)) (va_Qi (fun (r : Int32) (_ : Unit) => r = if isPl x y then nI 1 else nI 0) (fun _ _ => True) (fun _ => False)) 0 0 (fun _ => False) := by
  refine Met.ofW (cc := cX9_isPlace) (maxL := 2) (ret := (some .boolean)) (by decide) rfl ?_
  intro p e s m args below meth c s₁ B hml hv
  obtain ⟨rfl, -⟩ := hv
  have hx := B.exec
  have hb := B.bytes
  have hr := B.returns
  have hts := atoms_spec (ws := wsX9_isPlace) B.pre
  have hown : s.vm.findClass RX9 = some m.cls := findClass_of_methodNamed B.named
  have hlocks := B.notSynchronized
  have hS : va_S (fun _ => False) s.heap s.heap [] := va_S.rf
  have hP : va_P (fun _ => 0, fun _ _ => 0) [] [] s.heap := fun k q h => by simp at h
  have hl := lv_entry ([.int x, .int y]) (n := 2) (Nat.le_of_ble_eq_true rfl)
  rw [lg_entry_eq]
  generalize (lg_sl ([.int x, .int y]) ++ List.replicate (2 - (lg_sl ([.int x, .int y])).length) Slot.unset).toArray = ls at hl ⊢
  have hl : lv_has ls 2 [(0, .int x), (1, .int y)] := hl
  refine lv_iload_n hx hb dX9_isPlace_0 rfl (lv_at hl 0 rfl) ?_
  refine lv_iconst (v := nI 0) hx hb dX9_isPlace_1 (by decide) ?_
  refine lv_bipush (v := nI 7) hx hb dX9_isPlace_2 (by decide) ?_
  refine iw_pi (va_runS (As := [.int x, .int (nI 0), .int (nI 7)]) (rest := []) ⟨hx, hb, hml, hown, hts⟩ (kX9_in l (x) (nI 0) (nI 7)) (va_cwS 3 hts gX9_isPlace_X9_in rfl rfl rfl (by decide +kernel) ⟨Nat.le_of_ble_eq_true rfl, Nat.le_of_ble_eq_true rfl⟩) ⟨fun a U g mk q => q, fun U hU hW => ⟨rfl, trivial⟩⟩ rfl rfl hl.1 rfl (lv_room (Nat.le_of_ble_eq_true rfl)) dX9_isPlace_4 ⟨Nat.le_of_ble_eq_true rfl, Nat.le_of_ble_eq_true rfl⟩) hP hS (fun r8 u8 H locs hw8 hP hS => ?_)
  refine lv_asI hw8 ?_
  refine lv_if_eq (tgt := 24) hx hb dX9_isPlace_7 (by decide) (fun c7 => ?_) (fun c7 => ?_)
  · refine lv_iconst (v := nI 0) hx hb dX9_isPlace_24 (by decide) ?_
    exact W.zret (v := (nI 0)) (ty := .boolean) hx hb hr (by decide) (fun t ht hW => ⟨⟨_, (), rfl, (by first | (rw [← isPl_io, if_pos (show inB x (nI 0) (nI 7) = nI 0 from c7)]; done) | (rw [← isPl_io, if_neg (show ¬ inB x (nI 0) (nI 7) = nI 0 from c7), if_pos (show inB y (nI 0) (nI 7) = nI 0 from c17)]; done) | (rw [← isPl_io, if_neg (show ¬ inB x (nI 0) (nI 7) = nI 0 from c7), if_neg (show ¬ inB y (nI 0) (nI 7) = nI 0 from c17)]; done)), trivial⟩, hS.F ht⟩) hS.2.2 dX9_isPlace_25
  · refine lv_iload_n hx hb dX9_isPlace_10 rfl (lv_at hl 1 rfl) ?_
    refine lv_iconst (v := nI 0) hx hb dX9_isPlace_11 (by decide) ?_
    refine lv_bipush (v := nI 7) hx hb dX9_isPlace_12 (by decide) ?_
    refine iw_pi (va_runS (As := [.int y, .int (nI 0), .int (nI 7)]) (rest := []) ⟨hx, hb, hml, hown, hts⟩ (kX9_in l (y) (nI 0) (nI 7)) (va_cwS 3 hts gX9_isPlace_X9_in rfl rfl rfl (by decide +kernel) ⟨Nat.le_of_ble_eq_true rfl, Nat.le_of_ble_eq_true rfl⟩) ⟨fun a U g mk q => q, fun U hU hW => ⟨rfl, trivial⟩⟩ rfl rfl hl.1 rfl (lv_room (Nat.le_of_ble_eq_true rfl)) dX9_isPlace_14 ⟨Nat.le_of_ble_eq_true rfl, Nat.le_of_ble_eq_true rfl⟩) hP hS (fun r8 u8 H locs hw8 hP hS => ?_)
    refine lv_asI hw8 ?_
    refine lv_if_eq (tgt := 24) hx hb dX9_isPlace_17 (by decide) (fun c17 => ?_) (fun c17 => ?_)
    · refine lv_iconst (v := nI 0) hx hb dX9_isPlace_24 (by decide) ?_
      exact W.zret (v := (nI 0)) (ty := .boolean) hx hb hr (by decide) (fun t ht hW => ⟨⟨_, (), rfl, (by first | (rw [← isPl_io, if_pos (show inB x (nI 0) (nI 7) = nI 0 from c7)]; done) | (rw [← isPl_io, if_neg (show ¬ inB x (nI 0) (nI 7) = nI 0 from c7), if_pos (show inB y (nI 0) (nI 7) = nI 0 from c17)]; done) | (rw [← isPl_io, if_neg (show ¬ inB x (nI 0) (nI 7) = nI 0 from c7), if_neg (show ¬ inB y (nI 0) (nI 7) = nI 0 from c17)]; done)), trivial⟩, hS.F ht⟩) hS.2.2 dX9_isPlace_25
    · refine lv_iconst (v := nI 1) hx hb dX9_isPlace_20 (by decide) ?_
      refine lv_goto (tgt := 25) hx hb dX9_isPlace_21 (by decide) ?_
      exact W.zret (v := (nI 1)) (ty := .boolean) hx hb hr (by decide) (fun t ht hW => ⟨⟨_, (), rfl, (by first | (rw [← isPl_io, if_pos (show inB x (nI 0) (nI 7) = nI 0 from c7)]; done) | (rw [← isPl_io, if_neg (show ¬ inB x (nI 0) (nI 7) = nI 0 from c7), if_pos (show inB y (nI 0) (nI 7) = nI 0 from c17)]; done) | (rw [← isPl_io, if_neg (show ¬ inB x (nI 0) (nI 7) = nI 0 from c7), if_neg (show ¬ inB y (nI 0) (nI 7) = nI 0 from c17)]; done)), trivial⟩, hS.F ht⟩) hS.2.2 dX9_isPlace_25
abbrev rmX9_at : Room := { frames := 0, cells := 0, slots := 0, locals := 0 }
set_option maxHeartbeats 4000000 in
set_option maxRecDepth 100000 in
theorem kX9_at (l : Launch) (x y : Nat) : Met l yX9_at wsX9_at rmX9_at (va_Pc [.int (nI x), .int (nI y)] (fun _ => True)) (va_Qi (fun (r : Int32) (_ : Unit) => r = nI (8 * y + x)) (fun _ _ => True) (fun _ => False)) 0 0 (fun _ => False) := by
  refine Met.ofW (cc := cX9_at) (maxL := 2) (ret := (some .int)) (by decide) rfl ?_
  intro p e s m args below meth c s₁ B hml hv
  obtain ⟨rfl, -⟩ := hv
  have hx := B.exec
  have hb := B.bytes
  have hr := B.returns
  have hts := atoms_spec (ws := wsX9_at) B.pre
  have hown : s.vm.findClass RX9 = some m.cls := findClass_of_methodNamed B.named
  have hlocks := B.notSynchronized
  have hS : va_S (fun _ => False) s.heap s.heap [] := va_S.rf
  have hP : va_P (fun _ => 0, fun _ _ => 0) [] [] s.heap := fun k q h => by simp at h
  have hl := lv_entry ([.int (nI x), .int (nI y)]) (n := 2) (Nat.le_of_ble_eq_true rfl)
  rw [lg_entry_eq]
  generalize (lg_sl ([.int (nI x), .int (nI y)]) ++ List.replicate (2 - (lg_sl ([.int (nI x), .int (nI y)])).length) Slot.unset).toArray = ls at hl ⊢
  have hl : lv_has ls 2 [(0, .int (nI x)), (1, .int (nI y))] := hl
  refine lv_bipush (v := nI 8) hx hb dX9_at_0 (by decide) ?_
  refine lv_iload_n hx hb dX9_at_2 rfl (lv_at hl 1 rfl) ?_
  refine lv_imul hx hb dX9_at_3 ?_
  refine lv_asI (y := nI (8 * y)) (pk_mul _ _) ?_
  refine lv_iload_n hx hb dX9_at_4 rfl (lv_at hl 0 rfl) ?_
  refine lv_iadd hx hb dX9_at_5 ?_
  refine lv_asI (y := nI ((8 * y) + x)) (nI_add _ _) ?_
  exact W.iret (v := (nI ((8 * y) + x))) hx hb hr (fun t ht hW => ⟨⟨_, (), rfl, rfl, trivial⟩, hS.F ht⟩) hS.2.2 dX9_at_6
abbrev rmX9_colour : Room := { frames := 0, cells := 0, slots := 0, locals := 0 }
set_option maxHeartbeats 4000000 in
set_option maxRecDepth 100000 in
theorem kX9_colour (l : Launch) (p1 : Nat) (hp : p1 < 2 ^ 31) : Met l yX9_colour wsX9_colour rmX9_colour (va_Pc [.int (nI p1)] (fun _ => True)) (va_Qi (fun (r : Int32) (_ : Unit) => r = nI (colN (p1 % 8) (p1 / 8))) (fun _ _ => True) (fun _ => False)) 0 0 (fun _ => False) := by
  refine Met.ofW (cc := cX9_colour) (maxL := 3) (ret := (some .int)) (by decide) rfl ?_
  intro p e s m args below meth c s₁ B hml hv
  obtain ⟨rfl, -⟩ := hv
  have hx := B.exec
  have hb := B.bytes
  have hr := B.returns
  have hts := atoms_spec (ws := wsX9_colour) B.pre
  have hown : s.vm.findClass RX9 = some m.cls := findClass_of_methodNamed B.named
  have hlocks := B.notSynchronized
  have hS : va_S (fun _ => False) s.heap s.heap [] := va_S.rf
  have hP : va_P (fun _ => 0, fun _ _ => 0) [] [] s.heap := fun k q h => by simp at h
  have hl := lv_entry ([.int (nI p1)]) (n := 3) (Nat.le_of_ble_eq_true rfl)
  rw [lg_entry_eq]
  generalize (lg_sl ([.int (nI p1)]) ++ List.replicate (3 - (lg_sl ([.int (nI p1)])).length) Slot.unset).toArray = ls at hl ⊢
  have hl : lv_has ls 3 [(0, .int (nI p1))] := hl
  refine lv_iload_n hx hb dX9_colour_0 rfl (lv_at hl 0 rfl) ?_
  refine lv_bipush (v := nI 8) hx hb dX9_colour_1 (by decide) ?_
  refine lv_irem hx hb dX9_colour_3 (by decide) ?_
  refine lv_asI (y := nI (p1 % 8)) (pk_rem (by omega) (by omega) (by omega)) ?_
  refine lv_iconst (v := nI 2) hx hb dX9_colour_4 (by decide) ?_
  refine lv_irem hx hb dX9_colour_5 (by decide) ?_
  refine lv_asI (y := nI ((p1 % 8) % 2)) (pk_rem (by omega) (by omega) (by omega)) ?_
  refine lv_istore_n (lv' := [(1, .int (nI ((p1 % 8) % 2))), (0, .int (nI p1))]) hx hb dX9_colour_6 rfl hl (by decide) rfl (fun ls hl => ?_)
  refine lv_iload_n hx hb dX9_colour_7 rfl (lv_at hl 1 rfl) ?_
  refine lv_bipush (v := nI 8) hx hb dX9_colour_8 (by decide) ?_
  refine lv_idiv hx hb dX9_colour_10 (by decide) ?_
  refine lv_asI (y := nI (p1 / 8)) (pk_div (by omega) (by omega) (by omega)) ?_
  refine lv_iconst (v := nI 2) hx hb dX9_colour_11 (by decide) ?_
  refine lv_irem hx hb dX9_colour_12 (by decide) ?_
  refine lv_asI (y := nI ((p1 / 8) % 2)) (pk_rem (by omega) (by omega) (by omega)) ?_
  refine lv_istore_n (lv' := [(2, .int (nI ((p1 / 8) % 2))), (1, .int (nI ((p1 % 8) % 2))), (0, .int (nI p1))]) hx hb dX9_colour_13 rfl hl (by decide) rfl (fun ls hl => ?_)
  refine lv_iload_n hx hb dX9_colour_14 rfl (lv_at hl 1 rfl) ?_
  refine lv_iload_n hx hb dX9_colour_15 rfl (lv_at hl 0 rfl) ?_
  refine lv_iadd hx hb dX9_colour_16 ?_
  refine lv_asI (y := nI (((p1 % 8) % 2) + ((p1 / 8) % 2))) (nI_add _ _) ?_
  exact W.iret (v := (nI (((p1 % 8) % 2) + ((p1 / 8) % 2)))) hx hb hr (fun t ht hW => ⟨⟨_, (), rfl, (congrArg nI (colN_add _ _)), trivial⟩, hS.F ht⟩) hS.2.2 dX9_colour_17
abbrev rmX9_no : Room := { frames := 0, cells := 0, slots := 0, locals := 0 }
set_option maxRecDepth 20000 in
theorem il_X9_no_33 : (Cond.fieldLink RX9 33 "BayerGateModel" "thrown" "I") ∈ wsX9_no := by decide +kernel
set_option maxRecDepth 20000 in
theorem iu_X9_no_9 : ∀ w ∈ u_ws RX9 TX9 8, w ∈ wsX9_no := by decide +kernel
set_option maxHeartbeats 4000000 in
set_option maxRecDepth 100000 in
theorem kX9_no (l : Launch) (G : iG) (N : Nat) (ad : Nat → Nat) (C : Nat → va_E) (mo : Nat) (hN : mo + 7 ≤ N) (th v : Int32) (gm0 : C mo = ob 9 [.int th, .ref (ad (mo + 1)), .ref (ad (mo + 2)), .ref (ad (mo + 3)), .ref (ad (mo + 4)), .int (nI 0), .ref (ad (mo + 5)), .ref (ad (mo + 6))]) (sz : Nat) : Met l yX9_no wsX9_no rmX9_no (iPre G N ad C sz [.ref (ad mo), .int v]) (va_Qi (fun (r : Int32) (u : Nat → va_E) => r = nI 0 ∧ u = va_up C mo (ob 9 [.int v, .ref (ad (mo + 1)), .ref (ad (mo + 2)), .ref (ad (mo + 3)), .ref (ad (mo + 4)), .int (nI 0), .ref (ad (mo + 5)), .ref (ad (mo + 6))])) (iB G N ad) (iA N ad sz)) 0 0 (iA N ad sz) := by
  refine Met.ofW (cc := cX9_no) (maxL := 2) (ret := (some .int)) (by decide) rfl ?_
  intro p e s m args below meth c s₁ B hml hv
  obtain ⟨rfl, hsz, hP, hK, hD0⟩ := hv
  have hx := B.exec
  have hb := B.bytes
  have hr := B.returns
  have hts := atoms_spec (ws := wsX9_no) B.pre
  have hown : s.vm.findClass RX9 = some m.cls := findClass_of_methodNamed B.named
  have hlocks := B.notSynchronized
  subst hsz
  have hD := wl_self hD0 s.heap.size
  have hA : ∀ q : Nat, s.heap.size ≤ q → iA N ad s.heap.size q := fun q h => Or.inr h
  have hS : va_S (iA N ad s.heap.size) s.heap s.heap [] := va_S.rf
  have hP : va_P G.1 vwB (wl N ad C) s.heap := hP
  have hl := lv_entry ([.ref (ad mo), .int v]) (n := 2) (Nat.le_of_ble_eq_true rfl)
  rw [lg_entry_eq]
  generalize (lg_sl ([.ref (ad mo), .int v]) ++ List.replicate (2 - (lg_sl ([.ref (ad mo), .int v])).length) Slot.unset).toArray = ls at hl ⊢
  have hl : lv_has ls 2 [(0, .ref (ad mo)), (1, .int v)] := hl
  refine lv_aload_n hx hb dX9_no_0 rfl (lv_at hl 0 rfl) ?_
  refine lv_iload_n hx hb dX9_no_1 rfl (lv_at hl 1 rfl) ?_
  refine iw_put (ty := .int) hx hb hts iu_X9_no_9 tyX9 tyX9_ok nmX9 hown hK hP hD hS (by omega) (gm0) rfl 0 (by decide) (hts _ il_X9_no_33) (fun _ h9 => h9) rfl (by decide +kernel) rfl rfl (Nat.le_of_ble_eq_true rfl) rfl dX9_no_2 (fun H locs hP hD hS => ?_)
  refine lv_iconst (v := nI 0) hx hb dX9_no_5 (by decide) ?_
  exact W.iret (v := (nI 0)) hx hb hr (fun t ht hW => ⟨⟨_, _, rfl, ⟨rfl, rfl⟩, iB_of ht hP⟩, hS.F ht⟩) hS.2.2 dX9_no_6
abbrev rmX9_thrown : Room := { frames := 0, cells := 0, slots := 0, locals := 0 }
set_option maxRecDepth 20000 in
theorem iu_X9_thrown_9 : ∀ w ∈ u_ws RX9 TX9 8, w ∈ wsX9_thrown := by decide +kernel
set_option maxRecDepth 20000 in
theorem il_X9_thrown_33 : (Cond.fieldLink RX9 33 "BayerGateModel" "thrown" "I") ∈ wsX9_thrown := by decide +kernel
set_option maxHeartbeats 4000000 in
set_option maxRecDepth 100000 in
theorem kX9_thrown (l : Launch) (G : iG) (N : Nat) (ad : Nat → Nat) (C : Nat → va_E) (mo : Nat) (hN : mo + 7 ≤ N) (th dd : Int32) (gm0 : C mo = ob 9 [.int th, .ref (ad (mo + 1)), .ref (ad (mo + 2)), .ref (ad (mo + 3)), .ref (ad (mo + 4)), .int dd, .ref (ad (mo + 5)), .ref (ad (mo + 6))]) (sz : Nat) : Met l yX9_thrown wsX9_thrown rmX9_thrown (iPre G N ad C sz [.ref (ad mo)]) (va_Qi (fun (r : Int32) (u : Nat → va_E) => r = th ∧ u = C) (iB G N ad) (iA N ad sz)) 0 0 (iA N ad sz) := by
  refine Met.ofW (cc := cX9_thrown) (maxL := 1) (ret := (some .int)) (by decide) rfl ?_
  intro p e s m args below meth c s₁ B hml hv
  obtain ⟨rfl, hsz, hP, hK, hD0⟩ := hv
  have hx := B.exec
  have hb := B.bytes
  have hr := B.returns
  have hts := atoms_spec (ws := wsX9_thrown) B.pre
  have hown : s.vm.findClass RX9 = some m.cls := findClass_of_methodNamed B.named
  have hlocks := B.notSynchronized
  subst hsz
  have hD := wl_self hD0 s.heap.size
  have hA : ∀ q : Nat, s.heap.size ≤ q → iA N ad s.heap.size q := fun q h => Or.inr h
  have hS : va_S (iA N ad s.heap.size) s.heap s.heap [] := va_S.rf
  have hP : va_P G.1 vwB (wl N ad C) s.heap := hP
  have hl := lv_entry ([.ref (ad mo)]) (n := 1) (Nat.le_of_ble_eq_true rfl)
  rw [lg_entry_eq]
  generalize (lg_sl ([.ref (ad mo)]) ++ List.replicate (1 - (lg_sl ([.ref (ad mo)])).length) Slot.unset).toArray = ls at hl ⊢
  have hl : lv_has ls 1 [(0, .ref (ad mo))] := hl
  refine lv_aload_n hx hb dX9_thrown_0 rfl (lv_at hl 0 rfl) ?_
  refine iw_get hx hb hts iu_X9_thrown_9 hown hK hP (by omega) (gm0) rfl 0 (by decide) (hts _ il_X9_thrown_33) (fun _ h9 => h9) rfl dX9_thrown_1 ?_
  exact W.iret (v := th) hx hb hr (fun t ht hW => ⟨⟨_, _, rfl, ⟨rfl, rfl⟩, iB_of ht hP⟩, hS.F ht⟩) hS.2.2 dX9_thrown_4
abbrev rmJx4a65c_size_8abf5 : Room := { frames := 0, cells := 0, slots := 0, locals := 0 }
set_option maxRecDepth 20000 in
theorem iu_Jx4a65c_size_8abf5_Jx4a65c : ∀ w ∈ u_ws RJx4a65c TJx4a65c 3, w ∈ wsJx4a65c_size_8abf5 := by decide +kernel
set_option maxRecDepth 20000 in
theorem il_Jx4a65c_size_8abf5_48 : (Cond.fieldLink RJx4a65c 48 "java/util/ArrayList" "size" "I") ∈ wsJx4a65c_size_8abf5 := by decide +kernel
set_option maxHeartbeats 4000000 in
set_option maxRecDepth 100000 in
theorem kJx4a65c_size_8abf5 (l : Launch) (G : iG) (N : Nat) (ad : Nat → Nat) (C : Nat → va_E) {a : Nat} (la9 : a < N) {mc n : Int32} {dz : Nat} (ga : C a = ob 10 [.int mc, .ref dz, .int n]) (sz : Nat) : Met l yJx4a65c_size_8abf5 wsJx4a65c_size_8abf5 rmJx4a65c_size_8abf5 (iPre G N ad C sz [.ref (ad a)]) (va_Qi (fun (r : Int32) (u : Nat → va_E) => r = n ∧ u = C) (iB G N ad) (iA N ad sz)) 0 0 (iA N ad sz) := by
  refine Met.ofW (cc := cJx4a65c_size_8abf5) (maxL := 1) (ret := (some .int)) (by decide) rfl ?_
  intro p e s m args below meth c s₁ B hml hv
  obtain ⟨rfl, hsz, hP, hK, hD0⟩ := hv
  have hx := B.exec
  have hb := B.bytes
  have hr := B.returns
  have hts := atoms_spec (ws := wsJx4a65c_size_8abf5) B.pre
  have hown : s.vm.findClass RJx4a65c = some m.cls := findClass_of_methodNamed B.named
  have hlocks := B.notSynchronized
  subst hsz
  have hD := wl_self hD0 s.heap.size
  have hA : ∀ q : Nat, s.heap.size ≤ q → iA N ad s.heap.size q := fun q h => Or.inr h
  have hS : va_S (iA N ad s.heap.size) s.heap s.heap [] := va_S.rf
  have hP : va_P G.1 vwB (wl N ad C) s.heap := hP
  have hl := lv_entry ([.ref (ad a)]) (n := 1) (Nat.le_of_ble_eq_true rfl)
  rw [lg_entry_eq]
  generalize (lg_sl ([.ref (ad a)]) ++ List.replicate (1 - (lg_sl ([.ref (ad a)])).length) Slot.unset).toArray = ls at hl ⊢
  have hl : lv_has ls 1 [(0, .ref (ad a))] := hl
  refine lv_aload_n hx hb dJx4a65c_size_8abf5_0 rfl (lv_at hl 0 rfl) ?_
  refine iw_get hx hb hts iu_Jx4a65c_size_8abf5_Jx4a65c hown hK hP la9 (ga) rfl 2 (by decide) (hts _ il_Jx4a65c_size_8abf5_48) (fun _ h9 => h9) rfl dJx4a65c_size_8abf5_1 ?_
  exact W.iret (v := n) hx hb hr (fun t ht hW => ⟨⟨_, _, rfl, ⟨rfl, rfl⟩, iB_of ht hP⟩, hS.F ht⟩) hS.2.2 dJx4a65c_size_8abf5_4
abbrev rmX9_isFrame : Room := { frames := 1, cells := 0, slots := 0, locals := 22 }
set_option maxRecDepth 20000 in
theorem iu_X9_isFrame_9 : ∀ w ∈ u_ws RX9 TX9 8, w ∈ wsX9_isFrame := by decide +kernel
set_option maxRecDepth 20000 in
theorem il_X9_isFrame_26 : (Cond.fieldLink RX9 26 "BayerGateModel" "frames" "Ljava/util/List;") ∈ wsX9_isFrame := by decide +kernel
set_option maxHeartbeats 4000000 in
set_option maxRecDepth 100000 in
theorem kX9_isFrame (l : Launch) (G : iG) (N : Nat) (ad : Nat → Nat) (C : Nat → va_E) (mo dz : Nat) (th : Int32) (hN : mo + 7 ≤ N) (gm0 : C mo = ob 9 [.int th, .ref (ad (mo + 1)), .ref (ad (mo + 2)), .ref (ad (mo + 3)), .ref (ad (mo + 4)), .int (nI 0), .ref (ad (mo + 5)), .ref (ad (mo + 6))]) (gm5 : C (mo + 5) = ob 10 [.int (nI 0), .ref dz, .int (nI 0)]) (k : Int32) (sz : Nat) : Met l yX9_isFrame wsX9_isFrame rmX9_isFrame (iPreV G N ad C sz [.ref (ad mo), .int k]) (va_Qi (fun (r : Int32) (u : Nat → va_E) => r = nI 0 ∧ u = C) (iB G N ad) (iA N ad sz)) 0 0 (iA N ad sz) := by
  refine Met.ofW (cc := cX9_isFrame) (maxL := 2) (ret := (some .boolean)) (by decide) rfl ?_
  intro p e s m args below meth c s₁ B hml hv
  obtain ⟨rfl, ⟨hsz, hP, hK, hD0⟩, hV⟩ := hv
  have hx := B.exec
  have hb := B.bytes
  have hr := B.returns
  have hts := atoms_spec (ws := wsX9_isFrame) B.pre
  have hown : s.vm.findClass RX9 = some m.cls := findClass_of_methodNamed B.named
  have hlocks := B.notSynchronized
  subst hsz
  have hD := wl_self hD0 s.heap.size
  have hA : ∀ q : Nat, s.heap.size ≤ q → iA N ad s.heap.size q := fun q h => Or.inr h
  have hS : va_S (iA N ad s.heap.size) s.heap s.heap [] := va_S.rf
  have hP : va_P G.1 vwB (wl N ad C) s.heap := hP
  have hl := lv_entry ([.ref (ad mo), .int k]) (n := 2) (Nat.le_of_ble_eq_true rfl)
  rw [lg_entry_eq]
  generalize (lg_sl ([.ref (ad mo), .int k]) ++ List.replicate (2 - (lg_sl ([.ref (ad mo), .int k])).length) Slot.unset).toArray = ls at hl ⊢
  have hl : lv_has ls 2 [(0, .ref (ad mo)), (1, .int k)] := hl
  refine lv_iload_n hx hb dX9_isFrame_0 rfl (lv_at hl 1 rfl) ?_
  refine lv_iconst (v := nI 0) hx hb dX9_isFrame_1 (by decide) ?_
  refine lv_aload_n hx hb dX9_isFrame_2 rfl (lv_at hl 0 rfl) ?_
  refine iw_get hx hb hts iu_X9_isFrame_9 hown hK hP (by omega) (gm0) rfl 6 (by decide) (hts _ il_X9_isFrame_26) (fun _ h9 => h9) rfl dX9_isFrame_3 ?_
  refine iw5_i (va_runF (hK.1.1 10 _ rfl).2 (As := []) (rest := [.int (nI 0), .int k]) ⟨hx, hb, hml, hown, hts⟩ (kJx4a65c_size_8abf5 l G N ad _ (by omega) (gm5) _) (va_cwF 0 hts gX9_isFrame_Jx4a65c_size_8abf5_f41Jx4a65c rfl rfl rfl (vx_fSize hV) (by decide +kernel) ⟨Nat.le_of_ble_eq_true rfl, Nat.le_of_ble_eq_true rfl⟩) (iPV hK hP hD (by omega) (gm5) rfl []) rfl rfl hl.1 rfl (lv_room (Nat.le_of_ble_eq_true rfl)) dX9_isFrame_6 ⟨Nat.le_of_ble_eq_true rfl, Nat.le_of_ble_eq_true rfl⟩) hD hS hA (fun r8 u8 H locs hw8 hP hD hS => ?_)
  obtain ⟨hr8, hu8⟩ := hw8
  refine lv_asI hr8 ?_
  rw [hu8] at hP hD
  refine lv_iconst (v := nI 1) hx hb dX9_isFrame_11 (by decide) ?_
  refine lv_isub hx hb dX9_isFrame_12 ?_
  refine iw_pi (va_runS (As := [.int k, .int (nI 0), .int ((nI 0) - (nI 1))]) (rest := []) ⟨hx, hb, hml, hown, hts⟩ (kX9_in l (k) (nI 0) ((nI 0) - (nI 1))) (va_cwS 3 hts gX9_isFrame_X9_in rfl rfl rfl (by decide +kernel) ⟨Nat.le_of_ble_eq_true rfl, Nat.le_of_ble_eq_true rfl⟩) ⟨fun a U g mk q => q, fun U hU hW => ⟨rfl, trivial⟩⟩ rfl rfl hl.1 rfl (lv_room (Nat.le_of_ble_eq_true rfl)) dX9_isFrame_13 ⟨Nat.le_of_ble_eq_true rfl, Nat.le_of_ble_eq_true rfl⟩) hP hS (fun r8 u8 H locs hw8 hP hS => ?_)
  refine lv_asI hw8 ?_
  refine lv_asI (y := nI 0) (inB_no k) ?_
  exact W.zret (v := (nI 0)) (ty := .boolean) hx hb hr (by decide) (fun t ht hW => ⟨⟨_, _, rfl, ⟨rfl, rfl⟩, iB_of ht hP⟩, hS.F ht⟩) hS.2.2 dX9_isFrame_16
abbrev rmX9_mapped : Room := { frames := 0, cells := 0, slots := 0, locals := 0 }
set_option maxHeartbeats 4000000 in
set_option maxRecDepth 100000 in
theorem lX9_mapped {p : Program} {l : Launch} {e : Env} {s : State} {m : MethodId} {args : Array Value} {below : List Frame} {meth : Method} {c : Code} {Q : State → Prop} {A : Nat → Prop} {H0 : Heap} {cells slots : Nat} (hx : p.tables.exec = Jvm.exec) (hb : c.code = cX9_mapped) (hml : c.maxLocals = 6) (hr : meth.sig.returnType = (some .int)) (hts : ∀ w ∈ wsX9_mapped, w.before args s = true) (hown : s.vm.findClass RX9 = some m.cls) {G : iG} (hK : KB G s) (hA : ∀ q, H0.size ≤ q → A q) {N : Nat} {ad : Nat → Nat} {C : Nat → va_E} {H : Heap} {locs : List Loc} (hP : va_P G.1 vwB (wl N ad C) H) (hD : va_D A (wl N ad C)) (hS : va_S A H0 H locs)  (hcc : cells ≤ rmX9_mapped.cells) (hcs : slots ≤ rmX9_mapped.slots) {mo a : Nat} {mp : Nat → Bool} {v0 v5 : Int32} {v1 v2 v3 v6 v7 : Nat} (lm9 : mo < N) (la9 : a < N) (g0 : C mo = ob 9 [.int v0, .ref v1, .ref v2, .ref v3, .ref (ad a), .int v5, .ref v6, .ref v7]) (ga : C a = za G 64 (bI mp)) (kx : ∀ ls, lv_has ls 6 [(1, .int (nI (ctN mp 64)))] → W p l e rmX9_mapped s m args below meth c H locs cells slots Q (F0 m 44 ls [])) : ∀ (d : Nat) (i : Nat) (ls : Array Slot), 64 - i < d → i ≤ 64 → lv_has ls 6 [(1, .int (nI (ctN mp i))), (2, .ref (ad a)), (3, .int (nI 64)), (4, .int (nI i))] → W p l e rmX9_mapped s m args below meth c H locs cells slots Q (F0 m 13 ls []) := by
  intro d
  induction d with
  | zero => intro i ls hd; exact absurd hd (Nat.not_lt_zero _)
  | succ d ih =>
    intro i ls hd h2 hl
    refine lv_iload hx hb dX9_mapped_13 (lv_at hl 3 rfl) ?_
    refine lv_iload_n hx hb dX9_mapped_15 rfl (lv_at hl 2 rfl) ?_
    refine lv_icmp_ge (tgt := 44) hx hb dX9_mapped_16 (by decide) (fun c16 => ?_) (fun c16 => ?_)
    · have h5 : i = 64 := by have := (nI_leI (by omega) (by omega)).mp c16; omega
      subst h5
      exact kx ls (lv_sub hl [0] rfl)
    · have h4 : i < 64 := by have := mt (nI_leI (by omega) (by omega)).mpr c16; omega
      refine lv_aload_n hx hb dX9_mapped_19 rfl (lv_at hl 1 rfl) ?_
      refine lv_iload hx hb dX9_mapped_20 (lv_at hl 3 rfl) ?_
      refine iw_zald (v := (bI mp) i) hx hb hK hP la9 (ga) (vp_in_nI (show i < 64 by omega) (by omega)) (congrArg (bI mp) (nI_clamp (by omega))) dX9_mapped_22 ?_
      refine lv_istore (lv' := [(5, .int ((bI mp) i)), (1, .int (nI (ctN mp i))), (2, .ref (ad a)), (3, .int (nI 64)), (4, .int (nI i))]) hx hb dX9_mapped_23 hl (by decide) rfl (fun ls hl => ?_)
      refine lv_iload_n hx hb dX9_mapped_25 rfl (lv_at hl 1 rfl) ?_
      refine lv_iload hx hb dX9_mapped_26 (lv_at hl 0 rfl) ?_
      refine lv_if_eq (tgt := 35) hx hb dX9_mapped_28 (by decide) (fun c28 => ?_) (fun c28 => ?_)
      · have e8 : mp i = false := by cases e8 : mp i with | false => rfl | true => simp [bI, e8] at c28; exact absurd c28 (by decide)
        refine lv_iconst (v := nI 0) hx hb dX9_mapped_35 (by decide) ?_
        refine lv_iadd hx hb dX9_mapped_36 ?_
        refine lv_asI (y := nI ((ctN mp i) + 0)) (nI_add _ _) ?_
        refine lv_istore_n (lv' := [(1, .int (nI ((ctN mp i) + 0))), (5, .int ((bI mp) i)), (2, .ref (ad a)), (3, .int (nI 64)), (4, .int (nI i))]) hx hb dX9_mapped_37 rfl hl (by decide) rfl (fun ls hl => ?_)
        refine lv_iinc (v := nI (i + 1)) (lv' := [(4, .int (nI (i + 1))), (1, .int (nI ((ctN mp i) + 0))), (5, .int ((bI mp) i)), (2, .ref (ad a)), (3, .int (nI 64))]) hx hb dX9_mapped_38 hl (k := 4) rfl (iinc_nat _ 1) (by decide) rfl (fun ls hl => ?_)
        refine lv_goto (tgt := 13) hx hb dX9_mapped_41 (by decide) ?_
        have e9 : ctN mp (i + 1) = (ctN mp i) + 0 := by simp only [ctN]; simp [e8]
        exact ih (i + 1) ls (by omega) (by omega) (by rw [e9]; exact (lv_sub hl [1, 3, 4, 0] rfl))
      · have e8 : mp i = true := by cases e8 : mp i with | true => rfl | false => simp [bI, e8] at c28; exact absurd rfl c28
        refine lv_iconst (v := nI 1) hx hb dX9_mapped_31 (by decide) ?_
        refine lv_goto (tgt := 36) hx hb dX9_mapped_32 (by decide) ?_
        refine lv_iadd hx hb dX9_mapped_36 ?_
        refine lv_asI (y := nI ((ctN mp i) + 1)) (nI_add _ _) ?_
        refine lv_istore_n (lv' := [(1, .int (nI ((ctN mp i) + 1))), (5, .int ((bI mp) i)), (2, .ref (ad a)), (3, .int (nI 64)), (4, .int (nI i))]) hx hb dX9_mapped_37 rfl hl (by decide) rfl (fun ls hl => ?_)
        refine lv_iinc (v := nI (i + 1)) (lv' := [(4, .int (nI (i + 1))), (1, .int (nI ((ctN mp i) + 1))), (5, .int ((bI mp) i)), (2, .ref (ad a)), (3, .int (nI 64))]) hx hb dX9_mapped_38 hl (k := 4) rfl (iinc_nat _ 1) (by decide) rfl (fun ls hl => ?_)
        refine lv_goto (tgt := 13) hx hb dX9_mapped_41 (by decide) ?_
        have e9 : ctN mp (i + 1) = (ctN mp i) + 1 := by simp only [ctN]; simp [e8]
        exact ih (i + 1) ls (by omega) (by omega) (by rw [e9]; exact (lv_sub hl [1, 3, 4, 0] rfl))
set_option maxRecDepth 20000 in
theorem iu_X9_mapped_9 : ∀ w ∈ u_ws RX9 TX9 8, w ∈ wsX9_mapped := by decide +kernel
set_option maxRecDepth 20000 in
theorem il_X9_mapped_19 : (Cond.fieldLink RX9 19 "BayerGateModel" "isMapped" "[Z") ∈ wsX9_mapped := by decide +kernel
set_option maxHeartbeats 4000000 in
set_option maxRecDepth 100000 in
theorem kX9_mapped (l : Launch) (G : iG) (N : Nat) (ad : Nat → Nat) (C : Nat → va_E) (mo a : Nat) (mp : Nat → Bool) (v0 v5 : Int32) (v1 v2 v3 v6 v7 : Nat) (lm9 : mo < N) (la9 : a < N) (g0 : C mo = ob 9 [.int v0, .ref v1, .ref v2, .ref v3, .ref (ad a), .int v5, .ref v6, .ref v7]) (ga : C a = za G 64 (bI mp)) (sz : Nat) : Met l yX9_mapped wsX9_mapped rmX9_mapped (iPre G N ad C sz [.ref (ad mo)]) (va_Qi (fun (r : Int32) (u : Nat → va_E) => r = nI (ctN mp 64) ∧ u = C) (iB G N ad) (iA N ad sz)) 0 0 (iA N ad sz) := by
  refine Met.ofW (cc := cX9_mapped) (maxL := 6) (ret := (some .int)) (by decide) rfl ?_
  intro p e s m args below meth c s₁ B hml hv
  obtain ⟨rfl, hsz, hP, hK, hD0⟩ := hv
  have hx := B.exec
  have hb := B.bytes
  have hr := B.returns
  have hts := atoms_spec (ws := wsX9_mapped) B.pre
  have hown : s.vm.findClass RX9 = some m.cls := findClass_of_methodNamed B.named
  have hlocks := B.notSynchronized
  subst hsz
  have hD := wl_self hD0 s.heap.size
  have hA : ∀ q : Nat, s.heap.size ≤ q → iA N ad s.heap.size q := fun q h => Or.inr h
  have hS : va_S (iA N ad s.heap.size) s.heap s.heap [] := va_S.rf
  have hP : va_P G.1 vwB (wl N ad C) s.heap := hP
  have hl := lv_entry ([.ref (ad mo)]) (n := 6) (Nat.le_of_ble_eq_true rfl)
  rw [lg_entry_eq]
  generalize (lg_sl ([.ref (ad mo)]) ++ List.replicate (6 - (lg_sl ([.ref (ad mo)])).length) Slot.unset).toArray = ls at hl ⊢
  have hl : lv_has ls 6 [(0, .ref (ad mo))] := hl
  refine lv_iconst (v := nI 0) hx hb dX9_mapped_0 (by decide) ?_
  refine lv_istore_n (lv' := [(1, .int (nI 0)), (0, .ref (ad mo))]) hx hb dX9_mapped_1 rfl hl (by decide) rfl (fun ls hl => ?_)
  refine lv_aload_n hx hb dX9_mapped_2 rfl (lv_at hl 1 rfl) ?_
  refine iw_get hx hb hts iu_X9_mapped_9 hown hK hP lm9 (g0) rfl 4 (by decide) (hts _ il_X9_mapped_19) (fun _ h9 => h9) rfl dX9_mapped_3 ?_
  refine lv_astore_n (lv' := [(2, .ref (ad a)), (1, .int (nI 0)), (0, .ref (ad mo))]) hx hb dX9_mapped_6 rfl hl (by decide) rfl (fun ls hl => ?_)
  refine lv_aload_n hx hb dX9_mapped_7 rfl (lv_at hl 0 rfl) ?_
  refine iw_alenZ (v := nI 64) hx hb hK hP la9 (ga) rfl dX9_mapped_8 ?_
  refine lv_istore_n (lv' := [(3, .int (nI 64)), (2, .ref (ad a)), (1, .int (nI 0)), (0, .ref (ad mo))]) hx hb dX9_mapped_9 rfl hl (by decide) rfl (fun ls hl => ?_)
  refine lv_iconst (v := nI 0) hx hb dX9_mapped_10 (by decide) ?_
  refine lv_istore (lv' := [(4, .int (nI 0)), (3, .int (nI 64)), (2, .ref (ad a)), (1, .int (nI 0)), (0, .ref (ad mo))]) hx hb dX9_mapped_11 hl (by decide) rfl (fun ls hl => ?_)
  refine lX9_mapped hx hb hml hr hts hown hK hA hP hD hS (Nat.le_refl _) (Nat.le_refl _) lm9 la9 g0 ga (fun ls hl => ?_) 65 0 ls (by omega) (by omega) (lv_sub hl [3, 2, 1, 0] rfl)
  refine lv_iload_n hx hb dX9_mapped_44 rfl (lv_at hl 0 rfl) ?_
  exact W.iret (v := (nI (ctN mp 64))) hx hb hr (fun t ht hW => ⟨⟨_, _, rfl, ⟨rfl, rfl⟩, iB_of ht hP⟩, hS.F ht⟩) hS.2.2 dX9_mapped_45
theorem isPl_ok {x y : Nat} (hx : x < 8) (hy : y < 8) : isPl (nI x) (nI y) = true := isPl_in hx hy
