set_option maxRecDepth 20000 in
theorem ggX6_wouldClip_X6_needExposure : GoodIn wsX6_wouldClip wsX6_needExposure := goodIn_ca (goodIn_r _ [7, 8, 9, 6, 10, 11, 12] (by decide +kernel) (by decide +kernel)) (goodIn_sub (fun _ h => List.mem_cons_of_mem _ (List.mem_append_right _ h)) (by decide +kernel))
set_option maxRecDepth 20000 in
theorem gX6_wouldClip_X6_needExposure : GoodIn wsX6_wouldClip (va_wsS RX6 102 yX6_needExposure wsX6_needExposure) := goodIn_app (goodIn_of _ (by decide +kernel)) ggX6_wouldClip_X6_needExposure
set_option maxRecDepth 20000 in
theorem ggX6_edit_X6_needFrame : GoodIn wsX6_edit wsX6_needFrame := goodIn_ca (goodIn_r _ [6, 7, 8, 9, 38, 39, 40, 41, 42, 43, 44, 45, 46] (by decide +kernel) (by decide +kernel)) (goodIn_sub (fun _ h => List.mem_cons_of_mem _ (List.mem_append_left _ (List.mem_append_left _ (List.mem_append_right _ h)))) (by decide +kernel))
set_option maxRecDepth 20000 in
theorem gX6_edit_X6_needFrame : GoodIn wsX6_edit (wsV RX6 127 RX6 yX6_needFrame wsX6_needFrame) := goodIn_app (goodIn_of _ (by decide +kernel)) ggX6_edit_X6_needFrame
set_option maxRecDepth 20000 in
theorem ggX6_undo_X6_needFrame : GoodIn wsX6_undo wsX6_needFrame := goodIn_ca (goodIn_r _ [6, 7, 8, 9, 17, 18, 19, 20, 21, 22, 23, 24, 25] (by decide +kernel) (by decide +kernel)) (goodIn_sub (fun _ h => List.mem_cons_of_mem _ (List.mem_append_right _ h)) (by decide +kernel))
set_option maxRecDepth 20000 in
theorem gX6_undo_X6_needFrame : GoodIn wsX6_undo (wsV RX6 127 RX6 yX6_needFrame wsX6_needFrame) := goodIn_app (goodIn_of _ (by decide +kernel)) ggX6_undo_X6_needFrame
set_option maxRecDepth 20000 in
theorem ggX6_save_X6_needFrame : GoodIn wsX6_save wsX6_needFrame := goodIn_ca (goodIn_r _ [8, 9, 10, 11, 37, 38, 39, 40, 41, 42, 43, 44, 45] (by decide +kernel) (by decide +kernel)) (goodIn_sub (fun _ h => List.mem_cons_of_mem _ (List.mem_append_left _ (List.mem_append_right _ h))) (by decide +kernel))
set_option maxRecDepth 20000 in
theorem gX6_save_X6_needFrame : GoodIn wsX6_save (wsV RX6 127 RX6 yX6_needFrame wsX6_needFrame) := goodIn_app (goodIn_of _ (by decide +kernel)) ggX6_save_X6_needFrame
set_option maxRecDepth 20000 in
theorem ggX6_raw_X6_needFrame : GoodIn wsX6_raw wsX6_needFrame := goodIn_ca (goodIn_r _ [6, 7, 8, 9, 19, 20, 21, 22, 23, 24, 25, 26, 27] (by decide +kernel) (by decide +kernel)) (goodIn_sub (fun _ h => List.mem_cons_of_mem _ (List.mem_append_right _ h)) (by decide +kernel))
set_option maxRecDepth 20000 in
theorem gX6_raw_X6_needFrame : GoodIn wsX6_raw (wsV RX6 127 RX6 yX6_needFrame wsX6_needFrame) := goodIn_app (goodIn_of _ (by decide +kernel)) ggX6_raw_X6_needFrame
set_option maxRecDepth 20000 in
theorem ggX6_picture_X6_needFrame : GoodIn wsX6_picture wsX6_needFrame := goodIn_ca (goodIn_r _ [6, 7, 8, 9, 99, 100, 101, 102, 103, 104, 105, 106, 107] (by decide +kernel) (by decide +kernel)) (goodIn_sub (fun _ h => List.mem_cons_of_mem _ (List.mem_append_left _ (List.mem_append_right _ h))) (by decide +kernel))
set_option maxRecDepth 20000 in
theorem gX6_picture_X6_needFrame : GoodIn wsX6_picture (wsV RX6 127 RX6 yX6_needFrame wsX6_needFrame) := goodIn_app (goodIn_of _ (by decide +kernel)) ggX6_picture_X6_needFrame
set_option maxRecDepth 20000 in
theorem ggX6_word_X6_needFrame : GoodIn wsX6_word wsX6_needFrame := goodIn_ca (goodIn_r _ [6, 7, 8, 9, 92, 93, 94, 95, 96, 97, 98, 99, 100] (by decide +kernel) (by decide +kernel)) (goodIn_sub (fun _ h => List.mem_cons_of_mem _ (List.mem_append_right _ h)) (by decide +kernel))
set_option maxRecDepth 20000 in
theorem gX6_word_X6_needFrame : GoodIn wsX6_word (wsV RX6 127 RX6 yX6_needFrame wsX6_needFrame) := goodIn_app (goodIn_of _ (by decide +kernel)) ggX6_word_X6_needFrame
set_option maxRecDepth 20000 in
theorem ggX6_ofFrame_X6_needFrame : GoodIn wsX6_ofFrame wsX6_needFrame := goodIn_ca (goodIn_r _ [6, 7, 8, 9, 59, 60, 61, 62, 63, 64, 65, 66, 67] (by decide +kernel) (by decide +kernel)) (goodIn_sub (fun _ h => List.mem_cons_of_mem _ (List.mem_append_left _ (List.mem_append_right _ h))) (by decide +kernel))
set_option maxRecDepth 20000 in
theorem gX6_ofFrame_X6_needFrame : GoodIn wsX6_ofFrame (wsV RX6 127 RX6 yX6_needFrame wsX6_needFrame) := goodIn_app (goodIn_of _ (by decide +kernel)) ggX6_ofFrame_X6_needFrame
set_option maxRecDepth 20000 in
theorem ggX6_ofEdit_X6_needFrame : GoodIn wsX6_ofEdit wsX6_needFrame := goodIn_ca (goodIn_r _ [6, 7, 8, 9, 24, 25, 26, 27, 28, 29, 30, 31, 32] (by decide +kernel) (by decide +kernel)) (goodIn_sub (fun _ h => List.mem_cons_of_mem _ (List.mem_append_left _ (List.mem_append_right _ h))) (by decide +kernel))
set_option maxRecDepth 20000 in
theorem gX6_ofEdit_X6_needFrame : GoodIn wsX6_ofEdit (wsV RX6 127 RX6 yX6_needFrame wsX6_needFrame) := goodIn_app (goodIn_of _ (by decide +kernel)) ggX6_ofEdit_X6_needFrame
set_option maxRecDepth 20000 in
theorem ggX6_zone_X6_needFrame : GoodIn wsX6_zone wsX6_needFrame := goodIn_ca (goodIn_r _ [6, 7, 8, 9, 24, 25, 26, 27, 28, 29, 30, 31, 32] (by decide +kernel) (by decide +kernel)) (goodIn_sub (fun _ h => List.mem_cons_of_mem _ (List.mem_append_right _ h)) (by decide +kernel))
set_option maxRecDepth 20000 in
theorem gX6_zone_X6_needFrame : GoodIn wsX6_zone (wsV RX6 127 RX6 yX6_needFrame wsX6_needFrame) := goodIn_app (goodIn_of _ (by decide +kernel)) ggX6_zone_X6_needFrame
set_option maxRecDepth 20000 in
theorem ggX6_meter_X6_needFrame : GoodIn wsX6_meter wsX6_needFrame := goodIn_ca (goodIn_r _ [6, 7, 8, 9, 26, 27, 28, 29, 30, 31, 32, 33, 34] (by decide +kernel) (by decide +kernel)) (goodIn_sub (fun _ h => List.mem_cons_of_mem _ (List.mem_append_right _ h)) (by decide +kernel))
set_option maxRecDepth 20000 in
theorem gX6_meter_X6_needFrame : GoodIn wsX6_meter (wsV RX6 127 RX6 yX6_needFrame wsX6_needFrame) := goodIn_app (goodIn_of _ (by decide +kernel)) ggX6_meter_X6_needFrame
set_option maxRecDepth 20000 in
theorem ggX6_apart_X6_needFrame : GoodIn wsX6_apart wsX6_needFrame := goodIn_ca (goodIn_r _ [7, 8, 9, 10, 93, 94, 95, 96, 97, 98, 99, 100, 101] (by decide +kernel) (by decide +kernel)) (goodIn_sub (fun _ h => List.mem_cons_of_mem _ (List.mem_append_right _ h)) (by decide +kernel))
set_option maxRecDepth 20000 in
theorem gX6_apart_X6_needFrame : GoodIn wsX6_apart (wsV RX6 127 RX6 yX6_needFrame wsX6_needFrame) := goodIn_app (goodIn_of _ (by decide +kernel)) ggX6_apart_X6_needFrame
set_option maxRecDepth 20000 in
theorem ggX6_bestWhite_X6_needFrame : GoodIn wsX6_bestWhite wsX6_needFrame := goodIn_ca (goodIn_r _ [13, 14, 15, 16, 100, 101, 102, 103, 104, 105, 106, 107, 108] (by decide +kernel) (by decide +kernel)) (goodIn_sub (fun _ h => List.mem_cons_of_mem _ (List.mem_append_left _ (List.mem_append_right _ h))) (by decide +kernel))
set_option maxRecDepth 20000 in
theorem gX6_bestWhite_X6_needFrame : GoodIn wsX6_bestWhite (wsV RX6 127 RX6 yX6_needFrame wsX6_needFrame) := goodIn_app (goodIn_of _ (by decide +kernel)) ggX6_bestWhite_X6_needFrame
set_option maxRecDepth 20000 in
theorem ggX6_ofFile_X6_needIndex : GoodIn wsX6_ofFile wsX6_needIndex := goodIn_ca (goodIn_r _ [6, 7, 8] (by decide +kernel) (by decide +kernel)) (goodIn_sub (fun _ h => List.mem_cons_of_mem _ (List.mem_append_left _ (List.mem_append_right _ h))) (by decide +kernel))
set_option maxRecDepth 20000 in
theorem gX6_ofFile_X6_needIndex : GoodIn wsX6_ofFile (va_wsS RX6 195 yX6_needIndex wsX6_needIndex) := goodIn_app (goodIn_of _ (by decide +kernel)) ggX6_ofFile_X6_needIndex
set_option maxRecDepth 20000 in
theorem ggX6_ofPlace_X6_needPlace : GoodIn wsX6_ofPlace wsX6_needPlace := goodIn_ca (goodIn_r _ [6, 7, 8, 9, 10, 5, 11] (by decide +kernel) (by decide +kernel)) (goodIn_sub (fun _ h => List.mem_cons_of_mem _ (List.mem_append_left _ (List.mem_append_right _ h))) (by decide +kernel))
set_option maxRecDepth 20000 in
theorem gX6_ofPlace_X6_needPlace : GoodIn wsX6_ofPlace (va_wsS RX6 58 yX6_needPlace wsX6_needPlace) := goodIn_app (goodIn_of _ (by decide +kernel)) ggX6_ofPlace_X6_needPlace
set_option maxRecDepth 20000 in
theorem ggX6_ofPlace_X6_needRange : GoodIn wsX6_ofPlace wsX6_needRange := goodIn_ca (goodIn_r _ [14, 15, 16] (by decide +kernel) (by decide +kernel)) (goodIn_sub (fun _ h => List.mem_cons_of_mem _ (List.mem_append_right _ h)) (by decide +kernel))
set_option maxRecDepth 20000 in
theorem gX6_ofPlace_X6_needRange : GoodIn wsX6_ofPlace (va_wsS RX6 70 yX6_needRange wsX6_needRange) := goodIn_app (goodIn_of _ (by decide +kernel)) ggX6_ofPlace_X6_needRange
set_option maxRecDepth 20000 in
theorem ggX6_many_X6_needRange : GoodIn wsX6_many wsX6_needRange := goodIn_ca (goodIn_r _ [7, 8, 9] (by decide +kernel) (by decide +kernel)) (goodIn_sub (fun _ h => List.mem_cons_of_mem _ (List.mem_append_right _ h)) (by decide +kernel))
set_option maxRecDepth 20000 in
theorem gX6_many_X6_needRange : GoodIn wsX6_many (va_wsS RX6 70 yX6_needRange wsX6_needRange) := goodIn_app (goodIn_of _ (by decide +kernel)) ggX6_many_X6_needRange
set_option maxRecDepth 20000 in
theorem ggX6_bestTake_X6_needRange : GoodIn wsX6_bestTake wsX6_needRange := goodIn_ca (goodIn_r _ [7, 8, 9] (by decide +kernel) (by decide +kernel)) (goodIn_sub (fun _ h => List.mem_cons_of_mem _ (List.mem_append_right _ h)) (by decide +kernel))
set_option maxRecDepth 20000 in
theorem gX6_bestTake_X6_needRange : GoodIn wsX6_bestTake (va_wsS RX6 70 yX6_needRange wsX6_needRange) := goodIn_app (goodIn_of _ (by decide +kernel)) ggX6_bestTake_X6_needRange
/-! METHODS THAT THROW: the two statics of Throwable, the tables' words, the contracts -/
def ZT (A : Nat → Prop) (U : State) (H : Heap) : Prop := vx_Zq Bundle.tN "UNASSIGNED_STACK" Bundle.steD A U H ∧ vx_Zq Bundle.tN "SUPPRESSED_SENTINEL" Bundle.listD A U H
theorem ZT.fit {A B : Nat → Prop} {s U : State} {H : Heap} (h : ZT A s s.heap) (hW : s.WarmedH U.vm) (hk : ∀ a : Nat, a < s.heap.size → ¬ A a → H[a]? = s.heap[a]?) (hB : ∀ q, B q → A q) : ZT B U H :=
  ⟨((h.1.kept hk).narrow hB).moved hW.alike, ((h.2.kept hk).narrow hB).moved hW.alike⟩
abbrev xPre (sz : Nat) (av : List Value) : Array Value → State → Prop := va_Pc av (fun U => U.heap.size = sz ∧ VX U ∧ ZT (fun q => sz ≤ q) U U.heap)
abbrev iPreX (G : iG) (N : Nat) (ad : Nat → Nat) (C : Nat → va_E) (sz : Nat) (av : List Value) : Array Value → State → Prop := va_Pc av (fun U => ((U.heap.size = sz ∧ va_P G.1 vwB (wl N ad C) U.heap ∧ KB G U ∧ va_D (fun _ => True) (wl N ad C)) ∧ VX U) ∧ ZT (fun q => sz ≤ q) U U.heap)
abbrev xE (E : String) (sz : Nat) : String → State → State → Prop := vx_X (fun _ : Unit => True) (fun E' _ _ => E' = E) (fun q => sz ≤ q)
theorem ZT.calling {A : Nat → Prop} {U : State} {g : JFrame} {mk : MethodId} {a : Array Value} (h : ZT A U U.heap) : ZT A (U.calling g mk a) (U.calling g mk a).heap := ⟨vx_Zq.moved (u := U) (U := U.calling g mk a) (Vm.Alike.refl U.vm) h.1, vx_Zq.moved (u := U) (U := U.calling g mk a) (Vm.Alike.refl U.vm) h.2⟩
theorem xblind {sz : Nat} {av : List Value} : FrameBlind (xPre sz av) := fun a U g mk q => by
  obtain ⟨q0, q1, qV, qZ⟩ := q
  exact ⟨q0, q1, VX_same (u := U) (U := U.calling g mk a) rfl qV, ZT.calling qZ⟩
theorem iblindX {G : iG} {N : Nat} {ad : Nat → Nat} {C : Nat → va_E} {sz : Nat} {av : List Value} : FrameBlind (iPreX G N ad C sz av) := fun a U g mk q => by
  obtain ⟨q0, ⟨⟨q1, q2, qK, qD⟩, qV⟩, qZ⟩ := q
  exact ⟨q0, ⟨⟨q1, q2, ⟨va_K.moved (u := U) (U := U.calling g mk a) (Vm.Alike.refl U.vm) qK.1, NW_same (u := U) (U := U.calling g mk a) rfl qK.2⟩, qD⟩, VX_same (u := U) (U := U.calling g mk a) rfl qV⟩, ZT.calling qZ⟩
theorem xPS {A : Nat → Prop} {s : State} {H : Heap} {locs : List Loc} (hV : VX s) (hZ : ZT A s s.heap) (hS : va_S A s.heap H locs) (hA : ∀ q, s.heap.size ≤ q → A q) (As : List Value) : PreS s H (xPre H.size As) As :=
  ⟨xblind, fun U hU hW => ⟨rfl, by rw [hU], VX_warm hW hV, by rw [hU]; exact hZ.fit hW (fun a h1 h2 => hS.2.1 a h1 h2) (fun q h => hA q (Nat.le_trans hS.1 h))⟩⟩
theorem xPV {G : iG} {N : Nat} {ad : Nat → Nat} {C : Nat → va_E} {A B : Nat → Prop} {s : State} {H : Heap} {locs : List Loc} (hK : KB G s) (hV : VX s) (hZ : ZT A s s.heap) (hS : va_S A s.heap H locs) (hA : ∀ q, s.heap.size ≤ q → A q) (hP : va_P G.1 vwB (wl N ad C) H) (hD : va_D B (wl N ad C)) {j ci : Nat} {q : vw_C} {fs : List Value} (hj : j < N) (hc : C j = ob ci fs) (hq : vwB[ci]? = some q) (As : List Value) : PreV s H q.1 (ad j) (iPreX G N ad C H.size (.ref (ad j) :: As)) As :=
  ⟨iblindX, va_recv hK.1 hP hq (wl_get hj hc), fun U hU hW => ⟨rfl, ⟨⟨by rw [hU], by rw [hU]; exact hP, KB_warm hW hK, hD.weaken (fun _ _ _ _ => trivial)⟩, VX_warm hW hV⟩, by rw [hU]; exact hZ.fit hW (fun a h1 h2 => hS.2.1 a h1 h2) (fun q h => hA q (Nat.le_trans hS.1 h))⟩⟩
set_option maxRecDepth 20000 in
theorem thb_IO : ∀ w ∈ (vx_atS RX6 288 "java/lang/IndexOutOfBoundsException" ["java/lang/RuntimeException", "java/lang/Exception"]).filter (fun w => !goodWord w), w ∈ ([.declares ⟨"java/lang/RuntimeException", "<init>", "(Ljava/lang/String;)V"⟩, .declares ⟨"java/lang/Exception", "<init>", "(Ljava/lang/String;)V"⟩, .declares ⟨"java/lang/Throwable", "<init>", "(Ljava/lang/String;)V"⟩, .castable "java/lang/IndexOutOfBoundsException" "java/lang/IndexOutOfBoundsException"] : List Cond) := by decide +kernel
set_option maxRecDepth 20000 in
theorem thg_IO : ∀ w ∈ Cond.classLink RX6 284 "java/lang/IndexOutOfBoundsException" :: Cond.initialized "java/lang/IndexOutOfBoundsException" :: vx_atS RX6 288 "java/lang/IndexOutOfBoundsException" ["java/lang/RuntimeException", "java/lang/Exception"], vx_ot w = true := by decide +kernel
theorem th_IO {args : Array Value} {s : State} (hV : VX s) (h : ∀ w ∈ (vx_atS RX6 288 "java/lang/IndexOutOfBoundsException" ["java/lang/RuntimeException", "java/lang/Exception"]).filter goodWord, w.before args s = true) : ∀ w ∈ vx_atS RX6 288 "java/lang/IndexOutOfBoundsException" ["java/lang/RuntimeException", "java/lang/Exception"], w.before args s = true :=
  vx_hat h thb_IO (vx_c (va_Nw.use rfl (vx_d1 hV)) (vx_c (va_Nw.use rfl (vx_d2 hV)) (vx_c (va_Nw.use rfl (vx_d3 hV)) (vx_c (va_Nw.use rfl (vx_cIO hV)) vx_n))))
set_option maxRecDepth 20000 in
theorem thb_IA : ∀ w ∈ (vx_atS RX6 66 "java/lang/IllegalArgumentException" ["java/lang/RuntimeException", "java/lang/Exception"]).filter (fun w => !goodWord w), w ∈ ([.declares ⟨"java/lang/RuntimeException", "<init>", "(Ljava/lang/String;)V"⟩, .declares ⟨"java/lang/Exception", "<init>", "(Ljava/lang/String;)V"⟩, .declares ⟨"java/lang/Throwable", "<init>", "(Ljava/lang/String;)V"⟩, .castable "java/lang/IllegalArgumentException" "java/lang/IllegalArgumentException"] : List Cond) := by decide +kernel
set_option maxRecDepth 20000 in
theorem thg_IA : ∀ w ∈ Cond.classLink RX6 62 "java/lang/IllegalArgumentException" :: Cond.initialized "java/lang/IllegalArgumentException" :: vx_atS RX6 66 "java/lang/IllegalArgumentException" ["java/lang/RuntimeException", "java/lang/Exception"], vx_ot w = true := by decide +kernel
theorem th_IA {args : Array Value} {s : State} (hV : VX s) (h : ∀ w ∈ (vx_atS RX6 66 "java/lang/IllegalArgumentException" ["java/lang/RuntimeException", "java/lang/Exception"]).filter goodWord, w.before args s = true) : ∀ w ∈ vx_atS RX6 66 "java/lang/IllegalArgumentException" ["java/lang/RuntimeException", "java/lang/Exception"], w.before args s = true :=
  vx_hat h thb_IA (vx_c (va_Nw.use rfl (vx_d1 hV)) (vx_c (va_Nw.use rfl (vx_d2 hV)) (vx_c (va_Nw.use rfl (vx_d3 hV)) (vx_c (va_Nw.use rfl (vx_cIA hV)) vx_n))))
set_option maxRecDepth 20000 in
theorem thb_IS : ∀ w ∈ (vx_atS RX6 303 "java/lang/IllegalStateException" ["java/lang/RuntimeException", "java/lang/Exception"]).filter (fun w => !goodWord w), w ∈ ([.declares ⟨"java/lang/RuntimeException", "<init>", "(Ljava/lang/String;)V"⟩, .declares ⟨"java/lang/Exception", "<init>", "(Ljava/lang/String;)V"⟩, .declares ⟨"java/lang/Throwable", "<init>", "(Ljava/lang/String;)V"⟩, .castable "java/lang/IllegalStateException" "java/lang/IllegalStateException"] : List Cond) := by decide +kernel
set_option maxRecDepth 20000 in
theorem thg_IS : ∀ w ∈ Cond.classLink RX6 299 "java/lang/IllegalStateException" :: Cond.initialized "java/lang/IllegalStateException" :: vx_atS RX6 303 "java/lang/IllegalStateException" ["java/lang/RuntimeException", "java/lang/Exception"], vx_ot w = true := by decide +kernel
theorem th_IS {args : Array Value} {s : State} (hV : VX s) (h : ∀ w ∈ (vx_atS RX6 303 "java/lang/IllegalStateException" ["java/lang/RuntimeException", "java/lang/Exception"]).filter goodWord, w.before args s = true) : ∀ w ∈ vx_atS RX6 303 "java/lang/IllegalStateException" ["java/lang/RuntimeException", "java/lang/Exception"], w.before args s = true :=
  vx_hat h thb_IS (vx_c (va_Nw.use rfl (vx_d1 hV)) (vx_c (va_Nw.use rfl (vx_d2 hV)) (vx_c (va_Nw.use rfl (vx_d3 hV)) (vx_c (va_Nw.use rfl (vx_cIS hV)) vx_n))))
theorem i_nle {a b : Int32} (h : b < a) : ¬ a ≤ b := Int32.not_le.mpr h
theorem i_nlt {a b : Int32} (h : b ≤ a) : ¬ a < b := Int32.not_lt.mpr h
theorem isPl_nat {x y : Int32} (h : isPl x y = true) : ∃ a b : Nat, a < 8 ∧ b < 8 ∧ x = nI a ∧ y = nI b := by
  simp only [isPl, Bool.and_eq_true, Bool.not_eq_true', decide_eq_false_iff_not] at h
  obtain ⟨⟨⟨h1, h2⟩, h3⟩, h4⟩ := h
  obtain ⟨a, ha, rfl⟩ := nI_of h1
  obtain ⟨b, hb, rfl⟩ := nI_of h3
  exact ⟨a, b, by have := mt (nI_leI (by omega) (by omega)).mpr h2; omega, by have := mt (nI_leI (by omega) (by omega)).mpr h4; omega, rfl, rfl⟩
abbrev rxX6_needRange : Room := { frames := 6, cells := 1, slots := 6, locals := 90 }
set_option maxRecDepth 20000 in
theorem ix_X6_needRange_IA : ∀ w ∈ (vx_atS RX6 66 "java/lang/IllegalArgumentException" ["java/lang/RuntimeException", "java/lang/Exception"]).filter goodWord, w ∈ wsX6_needRange := by decide +kernel
set_option maxRecDepth 20000 in
theorem il_X6_needRange_62 : (Cond.classLink RX6 62 "java/lang/IllegalArgumentException") ∈ wsX6_needRange := by decide +kernel
set_option maxRecDepth 20000 in
theorem il_X6_needRange_iniIA : (Cond.initialized "java/lang/IllegalArgumentException") ∈ wsX6_needRange := by decide +kernel
set_option maxHeartbeats 4000000 in
set_option maxRecDepth 100000 in
theorem xX6_needRange (l : Launch) (hst : l.stackTraces = false) (n1 lo hi : Int32) (h : n1 < lo ∨ hi < n1) (sz : Nat) : vx_Met l yX6_needRange wsX6_needRange rxX6_needRange (xPre sz [.int n1, .int lo, .int hi]) (va_Qv (fun (_ : Unit) => False) (fun _ _ => True) (fun q => sz ≤ q)) (xE "java/lang/IllegalArgumentException" sz) 1 6 (fun q => sz ≤ q) := by
  refine vx_ofW (cc := cX6_needRange) (maxL := 3) (ret := none) (by decide) rfl ?_
  intro p e s m args below meth c s₁ B hml hnt hv
  obtain ⟨rfl, hsz, hV, hZ⟩ := hv
  have hx := B.exec
  have hb := B.bytes
  have hr := B.returns
  have hts := atoms_spec (ws := wsX6_needRange) B.pre
  have hown : s.vm.findClass RX6 = some m.cls := findClass_of_methodNamed B.named
  have hlocks := B.notSynchronized
  subst hsz
  have hS : va_S (fun q : Nat => s.heap.size ≤ q) s.heap s.heap [] := va_S.rf
  have hA : ∀ q : Nat, s.heap.size ≤ q → (fun q : Nat => s.heap.size ≤ q) q := fun q h => h
  have hP : va_P (fun _ => 0, fun _ _ => 0) [] [] s.heap := fun k q h => by simp at h
  have hl := lv_entry ([.int n1, .int lo, .int hi]) (n := 3) (Nat.le_of_ble_eq_true rfl)
  rw [lg_entry_eq]
  generalize (lg_sl ([.int n1, .int lo, .int hi]) ++ List.replicate (3 - (lg_sl ([.int n1, .int lo, .int hi])).length) Slot.unset).toArray = ls at hl ⊢
  have hl : lv_has ls 3 [(0, .int n1), (1, .int lo), (2, .int hi)] := hl
  refine lv_iload_n hx hb dX6_needRange_0 rfl (lv_at hl 0 rfl) ?_
  refine lv_iload_n hx hb dX6_needRange_1 rfl (lv_at hl 1 rfl) ?_
  refine lv_icmp_lt (tgt := 10) hx hb dX6_needRange_2 (by decide) (fun c2 => ?_) (fun c2 => ?_)
  · obtain ⟨sa9, hstr9⟩ := vx_t297 hV
    exact vx_throwSW hx hb hst (own := RX6) (cls := "java/lang/IllegalArgumentException") (names := ["java/lang/RuntimeException", "java/lang/Exception"]) hown (by decide +kernel) (by decide +kernel) (hts _ il_X6_needRange_62) (hts _ il_X6_needRange_iniIA) hstr9 (th_IA hV (fun w h => hts w (ix_X6_needRange_IA w h))) thg_IA hZ.1 hZ.2 hS (by rw [hml]; exact hl.1) dX6_needRange_10 dX6_needRange_13 dX6_needRange_14 dX6_needRange_17 dX6_needRange_20 (fun x h => (hnt x h).elim) (Nat.le_of_ble_eq_true rfl) (Nat.le_of_ble_eq_true rfl) (Nat.le_of_ble_eq_true rfl) (Nat.le_of_ble_eq_true rfl) hlocks (fun t hvm hz hq => ⟨(), trivial, rfl, Nat.le_trans hS.1 hz, fun q h1 h2 => (hq q (Nat.lt_of_lt_of_le h1 hS.1)).trans (hS.2.1 q h1 h2)⟩) hS.2.2 (Nat.le_of_ble_eq_true rfl) (Nat.le_of_ble_eq_true rfl)
  · refine lv_iload_n hx hb dX6_needRange_5 rfl (lv_at hl 0 rfl) ?_
    refine lv_iload_n hx hb dX6_needRange_6 rfl (lv_at hl 2 rfl) ?_
    refine lv_icmp_le (tgt := 21) hx hb dX6_needRange_7 (by decide) (fun c7 => ?_) (fun c7 => ?_)
    · exact (h.elim (fun h => c2 h) (fun h => i_nle h c7)).elim
    · obtain ⟨sa9, hstr9⟩ := vx_t297 hV
      exact vx_throwSW hx hb hst (own := RX6) (cls := "java/lang/IllegalArgumentException") (names := ["java/lang/RuntimeException", "java/lang/Exception"]) hown (by decide +kernel) (by decide +kernel) (hts _ il_X6_needRange_62) (hts _ il_X6_needRange_iniIA) hstr9 (th_IA hV (fun w h => hts w (ix_X6_needRange_IA w h))) thg_IA hZ.1 hZ.2 hS (by rw [hml]; exact hl.1) dX6_needRange_10 dX6_needRange_13 dX6_needRange_14 dX6_needRange_17 dX6_needRange_20 (fun x h => (hnt x h).elim) (Nat.le_of_ble_eq_true rfl) (Nat.le_of_ble_eq_true rfl) (Nat.le_of_ble_eq_true rfl) (Nat.le_of_ble_eq_true rfl) hlocks (fun t hvm hz hq => ⟨(), trivial, rfl, Nat.le_trans hS.1 hz, fun q h1 h2 => (hq q (Nat.lt_of_lt_of_le h1 hS.1)).trans (hS.2.1 q h1 h2)⟩) hS.2.2 (Nat.le_of_ble_eq_true rfl) (Nat.le_of_ble_eq_true rfl)
abbrev rxX6_needIndex : Room := { frames := 6, cells := 1, slots := 6, locals := 90 }
set_option maxRecDepth 20000 in
theorem ix_X6_needIndex_IO : ∀ w ∈ (vx_atS RX6 288 "java/lang/IndexOutOfBoundsException" ["java/lang/RuntimeException", "java/lang/Exception"]).filter goodWord, w ∈ wsX6_needIndex := by decide +kernel
set_option maxRecDepth 20000 in
theorem il_X6_needIndex_284 : (Cond.classLink RX6 284 "java/lang/IndexOutOfBoundsException") ∈ wsX6_needIndex := by decide +kernel
set_option maxRecDepth 20000 in
theorem il_X6_needIndex_iniIO : (Cond.initialized "java/lang/IndexOutOfBoundsException") ∈ wsX6_needIndex := by decide +kernel
set_option maxHeartbeats 4000000 in
set_option maxRecDepth 100000 in
theorem xX6_needIndex (l : Launch) (hst : l.stackTraces = false) (k n : Int32) (h : k < 0 ∨ n ≤ k) (sz : Nat) : vx_Met l yX6_needIndex wsX6_needIndex rxX6_needIndex (xPre sz [.int k, .int n]) (va_Qv (fun (_ : Unit) => False) (fun _ _ => True) (fun q => sz ≤ q)) (xE "java/lang/IndexOutOfBoundsException" sz) 1 6 (fun q => sz ≤ q) := by
  refine vx_ofW (cc := cX6_needIndex) (maxL := 2) (ret := none) (by decide) rfl ?_
  intro p e s m args below meth c s₁ B hml hnt hv
  obtain ⟨rfl, hsz, hV, hZ⟩ := hv
  have hx := B.exec
  have hb := B.bytes
  have hr := B.returns
  have hts := atoms_spec (ws := wsX6_needIndex) B.pre
  have hown : s.vm.findClass RX6 = some m.cls := findClass_of_methodNamed B.named
  have hlocks := B.notSynchronized
  subst hsz
  have hS : va_S (fun q : Nat => s.heap.size ≤ q) s.heap s.heap [] := va_S.rf
  have hA : ∀ q : Nat, s.heap.size ≤ q → (fun q : Nat => s.heap.size ≤ q) q := fun q h => h
  have hP : va_P (fun _ => 0, fun _ _ => 0) [] [] s.heap := fun k q h => by simp at h
  have hl := lv_entry ([.int k, .int n]) (n := 2) (Nat.le_of_ble_eq_true rfl)
  rw [lg_entry_eq]
  generalize (lg_sl ([.int k, .int n]) ++ List.replicate (2 - (lg_sl ([.int k, .int n])).length) Slot.unset).toArray = ls at hl ⊢
  have hl : lv_has ls 2 [(0, .int k), (1, .int n)] := hl
  refine lv_iload_n hx hb dX6_needIndex_0 rfl (lv_at hl 0 rfl) ?_
  refine lv_if_lt (tgt := 9) hx hb dX6_needIndex_1 (by decide) (fun c1 => ?_) (fun c1 => ?_)
  · obtain ⟨sa9, hstr9⟩ := vx_t286 hV
    exact vx_throwSW hx hb hst (own := RX6) (cls := "java/lang/IndexOutOfBoundsException") (names := ["java/lang/RuntimeException", "java/lang/Exception"]) hown (by decide +kernel) (by decide +kernel) (hts _ il_X6_needIndex_284) (hts _ il_X6_needIndex_iniIO) hstr9 (th_IO hV (fun w h => hts w (ix_X6_needIndex_IO w h))) thg_IO hZ.1 hZ.2 hS (by rw [hml]; exact hl.1) dX6_needIndex_9 dX6_needIndex_12 dX6_needIndex_13 dX6_needIndex_16 dX6_needIndex_19 (fun x h => (hnt x h).elim) (Nat.le_of_ble_eq_true rfl) (Nat.le_of_ble_eq_true rfl) (Nat.le_of_ble_eq_true rfl) (Nat.le_of_ble_eq_true rfl) hlocks (fun t hvm hz hq => ⟨(), trivial, rfl, Nat.le_trans hS.1 hz, fun q h1 h2 => (hq q (Nat.lt_of_lt_of_le h1 hS.1)).trans (hS.2.1 q h1 h2)⟩) hS.2.2 (Nat.le_of_ble_eq_true rfl) (Nat.le_of_ble_eq_true rfl)
  · refine lv_iload_n hx hb dX6_needIndex_4 rfl (lv_at hl 0 rfl) ?_
    refine lv_iload_n hx hb dX6_needIndex_5 rfl (lv_at hl 1 rfl) ?_
    refine lv_icmp_lt (tgt := 20) hx hb dX6_needIndex_6 (by decide) (fun c6 => ?_) (fun c6 => ?_)
    · exact (h.elim (fun h => c1 h) (fun h => i_nlt h c6)).elim
    · obtain ⟨sa9, hstr9⟩ := vx_t286 hV
      exact vx_throwSW hx hb hst (own := RX6) (cls := "java/lang/IndexOutOfBoundsException") (names := ["java/lang/RuntimeException", "java/lang/Exception"]) hown (by decide +kernel) (by decide +kernel) (hts _ il_X6_needIndex_284) (hts _ il_X6_needIndex_iniIO) hstr9 (th_IO hV (fun w h => hts w (ix_X6_needIndex_IO w h))) thg_IO hZ.1 hZ.2 hS (by rw [hml]; exact hl.1) dX6_needIndex_9 dX6_needIndex_12 dX6_needIndex_13 dX6_needIndex_16 dX6_needIndex_19 (fun x h => (hnt x h).elim) (Nat.le_of_ble_eq_true rfl) (Nat.le_of_ble_eq_true rfl) (Nat.le_of_ble_eq_true rfl) (Nat.le_of_ble_eq_true rfl) hlocks (fun t hvm hz hq => ⟨(), trivial, rfl, Nat.le_trans hS.1 hz, fun q h1 h2 => (hq q (Nat.lt_of_lt_of_le h1 hS.1)).trans (hS.2.1 q h1 h2)⟩) hS.2.2 (Nat.le_of_ble_eq_true rfl) (Nat.le_of_ble_eq_true rfl)
abbrev rxX6_needPlace : Room := { frames := 6, cells := 1, slots := 6, locals := 90 }
set_option maxRecDepth 20000 in
theorem ix_X6_needPlace_IO : ∀ w ∈ (vx_atS RX6 288 "java/lang/IndexOutOfBoundsException" ["java/lang/RuntimeException", "java/lang/Exception"]).filter goodWord, w ∈ wsX6_needPlace := by decide +kernel
set_option maxRecDepth 20000 in
theorem il_X6_needPlace_284 : (Cond.classLink RX6 284 "java/lang/IndexOutOfBoundsException") ∈ wsX6_needPlace := by decide +kernel
set_option maxRecDepth 20000 in
theorem il_X6_needPlace_iniIO : (Cond.initialized "java/lang/IndexOutOfBoundsException") ∈ wsX6_needPlace := by decide +kernel
set_option maxHeartbeats 4000000 in
set_option maxRecDepth 100000 in
theorem xX6_needPlace (l : Launch) (hst : l.stackTraces = false) (x y : Int32) (h : isPl x y = false) (sz : Nat) : vx_Met l yX6_needPlace wsX6_needPlace rxX6_needPlace (xPre sz [.int x, .int y]) (va_Qv (fun (_ : Unit) => False) (fun _ _ => True) (fun q => sz ≤ q)) (xE "java/lang/IndexOutOfBoundsException" sz) 1 6 (fun q => sz ≤ q) := by
  refine vx_ofW (cc := cX6_needPlace) (maxL := 2) (ret := none) (by decide) rfl ?_
  intro p e s m args below meth c s₁ B hml hnt hv
  obtain ⟨rfl, hsz, hV, hZ⟩ := hv
  have hx := B.exec
  have hb := B.bytes
  have hr := B.returns
  have hts := atoms_spec (ws := wsX6_needPlace) B.pre
  have hown : s.vm.findClass RX6 = some m.cls := findClass_of_methodNamed B.named
  have hlocks := B.notSynchronized
  subst hsz
  have hS : va_S (fun q : Nat => s.heap.size ≤ q) s.heap s.heap [] := va_S.rf
  have hA : ∀ q : Nat, s.heap.size ≤ q → (fun q : Nat => s.heap.size ≤ q) q := fun q h => h
  have hP : va_P (fun _ => 0, fun _ _ => 0) [] [] s.heap := fun k q h => by simp at h
  have hl := lv_entry ([.int x, .int y]) (n := 2) (Nat.le_of_ble_eq_true rfl)
  rw [lg_entry_eq]
  generalize (lg_sl ([.int x, .int y]) ++ List.replicate (2 - (lg_sl ([.int x, .int y])).length) Slot.unset).toArray = ls at hl ⊢
  have hl : lv_has ls 2 [(0, .int x), (1, .int y)] := hl
  refine lv_iload_n hx hb dX6_needPlace_0 rfl (lv_at hl 0 rfl) ?_
  refine lv_iload_n hx hb dX6_needPlace_1 rfl (lv_at hl 1 rfl) ?_
  refine iw_pi (va_runS (As := [.int x, .int y]) (rest := []) ⟨hx, hb, hml, hown, hts⟩ (kX6_isPlace l x y) (va_cwS 2 hts gX6_needPlace_X6_isPlace rfl rfl rfl (by decide +kernel) ⟨Nat.le_of_ble_eq_true rfl, Nat.le_of_ble_eq_true rfl⟩) ⟨fun a U g mk q => q, fun U hU hW => ⟨rfl, trivial⟩⟩ rfl rfl hl.1 rfl (lv_room (Nat.le_of_ble_eq_true rfl)) dX6_needPlace_2 ⟨Nat.le_of_ble_eq_true rfl, Nat.le_of_ble_eq_true rfl⟩) hP hS (fun r8 u8 H locs hw8 hP hS => ?_)
  refine lv_asI hw8 ?_
  refine lv_asI (y := nI 0) (by rw [h]; rfl) ?_
  refine lv_if_ne (tgt := 19) hx hb dX6_needPlace_5 (by decide) (fun c9 => absurd (by decide) c9) (fun _ => ?_)
  obtain ⟨sa9, hstr9⟩ := vx_t293 hV
  exact vx_throwSW hx hb hst (own := RX6) (cls := "java/lang/IndexOutOfBoundsException") (names := ["java/lang/RuntimeException", "java/lang/Exception"]) hown (by decide +kernel) (by decide +kernel) (hts _ il_X6_needPlace_284) (hts _ il_X6_needPlace_iniIO) hstr9 (th_IO hV (fun w h => hts w (ix_X6_needPlace_IO w h))) thg_IO hZ.1 hZ.2 hS (by rw [hml]; exact hl.1) dX6_needPlace_8 dX6_needPlace_11 dX6_needPlace_12 dX6_needPlace_15 dX6_needPlace_18 (fun x h => (hnt x h).elim) (Nat.le_of_ble_eq_true rfl) (Nat.le_of_ble_eq_true rfl) (Nat.le_of_ble_eq_true rfl) (Nat.le_of_ble_eq_true rfl) hlocks (fun t hvm hz hq => ⟨(), trivial, rfl, Nat.le_trans hS.1 hz, fun q h1 h2 => (hq q (Nat.lt_of_lt_of_le h1 hS.1)).trans (hS.2.1 q h1 h2)⟩) hS.2.2 (Nat.le_of_ble_eq_true rfl) (Nat.le_of_ble_eq_true rfl)
abbrev rxX6_needFrame : Room := { frames := 6, cells := 1, slots := 6, locals := 90 }
set_option maxRecDepth 20000 in
theorem ix_X6_needFrame_IO : ∀ w ∈ (vx_atS RX6 288 "java/lang/IndexOutOfBoundsException" ["java/lang/RuntimeException", "java/lang/Exception"]).filter goodWord, w ∈ wsX6_needFrame := by decide +kernel
set_option maxRecDepth 20000 in
theorem il_X6_needFrame_284 : (Cond.classLink RX6 284 "java/lang/IndexOutOfBoundsException") ∈ wsX6_needFrame := by decide +kernel
set_option maxRecDepth 20000 in
theorem il_X6_needFrame_iniIO : (Cond.initialized "java/lang/IndexOutOfBoundsException") ∈ wsX6_needFrame := by decide +kernel
set_option maxHeartbeats 4000000 in
set_option maxRecDepth 100000 in
theorem xX6_needFrame (l : Launch) (hst : l.stackTraces = false) (G : iG) (N : Nat) (ad : Nat → Nat) (C : Nat → va_E) (o : Nat) (S : St) (hcam : Cam G N ad C o S) (k : Int32) (h : k < 0 ∨ nI (sFn S) ≤ k) (sz : Nat) : vx_Met l yX6_needFrame wsX6_needFrame rxX6_needFrame (iPreX G N ad C sz [.ref (ad o), .int k]) (va_Qv (fun (_ : Unit) => False) (fun _ _ => True) (fun q => sz ≤ q)) (xE "java/lang/IndexOutOfBoundsException" sz) 1 6 (fun q => sz ≤ q) := by
  refine vx_ofW (cc := cX6_needFrame) (maxL := 2) (ret := none) (by decide) rfl ?_
  intro p e s m args below meth c s₁ B hml hnt hv
  obtain ⟨rfl, ⟨⟨hsz, hP, hK, hD⟩, hV⟩, hZ⟩ := hv
  have hx := B.exec
  have hb := B.bytes
  have hr := B.returns
  have hts := atoms_spec (ws := wsX6_needFrame) B.pre
  have hown : s.vm.findClass RX6 = some m.cls := findClass_of_methodNamed B.named
  have hlocks := B.notSynchronized
  subst hsz
  have hS : va_S (fun q : Nat => s.heap.size ≤ q) s.heap s.heap [] := va_S.rf
  have hA : ∀ q : Nat, s.heap.size ≤ q → (fun q : Nat => s.heap.size ≤ q) q := fun q h => h
  have hP : va_P G.1 vwB (wl N ad C) s.heap := hP
  have hl := lv_entry ([.ref (ad o), .int k]) (n := 2) (Nat.le_of_ble_eq_true rfl)
  rw [lg_entry_eq]
  generalize (lg_sl ([.ref (ad o), .int k]) ++ List.replicate (2 - (lg_sl ([.ref (ad o), .int k])).length) Slot.unset).toArray = ls at hl ⊢
  have hl : lv_has ls 2 [(0, .ref (ad o)), (1, .int k)] := hl
  obtain ⟨hN, ⟨ok1, ok2, ok3, ok4, ok5, ok6, ok7, ok8, ok9⟩, h0, ⟨s1, s2, s3⟩, ⟨e1, e2, e3⟩, h7, h8, ⟨TF, tr1, tr2, tr3, tr4, tr5⟩, ⟨TD, dv1, dv2, dv3⟩, ⟨TC, cv1, cv2, cv3⟩, hfr, hfi⟩ := id hcam
  refine lv_iload_n hx hb dX6_needFrame_0 rfl (lv_at hl 1 rfl) ?_
  refine lv_if_lt (tgt := 12) hx hb dX6_needFrame_1 (by decide) (fun c1 => ?_) (fun c1 => ?_)
  · obtain ⟨sa9, hstr9⟩ := vx_t295 hV
    exact vx_throwSW hx hb hst (own := RX6) (cls := "java/lang/IndexOutOfBoundsException") (names := ["java/lang/RuntimeException", "java/lang/Exception"]) hown (by decide +kernel) (by decide +kernel) (hts _ il_X6_needFrame_284) (hts _ il_X6_needFrame_iniIO) hstr9 (th_IO hV (fun w h => hts w (ix_X6_needFrame_IO w h))) thg_IO hZ.1 hZ.2 hS (by rw [hml]; exact hl.1) dX6_needFrame_12 dX6_needFrame_15 dX6_needFrame_16 dX6_needFrame_19 dX6_needFrame_22 (fun x h => (hnt x h).elim) (Nat.le_of_ble_eq_true rfl) (Nat.le_of_ble_eq_true rfl) (Nat.le_of_ble_eq_true rfl) (Nat.le_of_ble_eq_true rfl) hlocks (fun t hvm hz hq => ⟨(), trivial, rfl, Nat.le_trans hS.1 hz, fun q h1 h2 => (hq q (Nat.lt_of_lt_of_le h1 hS.1)).trans (hS.2.1 q h1 h2)⟩) hS.2.2 (Nat.le_of_ble_eq_true rfl) (Nat.le_of_ble_eq_true rfl)
  · refine lv_iload_n hx hb dX6_needFrame_4 rfl (lv_at hl 1 rfl) ?_
    refine lv_aload_n hx hb dX6_needFrame_5 rfl (lv_at hl 0 rfl) ?_
    refine iw_get hx hb hts iu_X6_needFrame_6 hown hK hP (by omega) (h0) rfl 4 (by decide) (hts _ il_X6_needFrame_35) (fun _ h9 => h9) rfl dX6_needFrame_6 ?_
    refine lv_icmp_lt (tgt := 23) hx hb dX6_needFrame_9 (by decide) (fun c9 => ?_) (fun c9 => ?_)
    · exact (h.elim (fun h => c1 h) (fun h => i_nlt h c9)).elim
    · obtain ⟨sa9, hstr9⟩ := vx_t295 hV
      exact vx_throwSW hx hb hst (own := RX6) (cls := "java/lang/IndexOutOfBoundsException") (names := ["java/lang/RuntimeException", "java/lang/Exception"]) hown (by decide +kernel) (by decide +kernel) (hts _ il_X6_needFrame_284) (hts _ il_X6_needFrame_iniIO) hstr9 (th_IO hV (fun w h => hts w (ix_X6_needFrame_IO w h))) thg_IO hZ.1 hZ.2 hS (by rw [hml]; exact hl.1) dX6_needFrame_12 dX6_needFrame_15 dX6_needFrame_16 dX6_needFrame_19 dX6_needFrame_22 (fun x h => (hnt x h).elim) (Nat.le_of_ble_eq_true rfl) (Nat.le_of_ble_eq_true rfl) (Nat.le_of_ble_eq_true rfl) (Nat.le_of_ble_eq_true rfl) hlocks (fun t hvm hz hq => ⟨(), trivial, rfl, Nat.le_trans hS.1 hz, fun q h1 h2 => (hq q (Nat.lt_of_lt_of_le h1 hS.1)).trans (hS.2.1 q h1 h2)⟩) hS.2.2 (Nat.le_of_ble_eq_true rfl) (Nat.le_of_ble_eq_true rfl)
abbrev rxX6_needExposure : Room := { frames := 7, cells := 1, slots := 6, locals := 112 }
set_option maxHeartbeats 4000000 in
set_option maxRecDepth 100000 in
theorem xX6_needExposure_1 (l : Launch) (hst : l.stackTraces = false) (t1 g1 : Int32) (h : t1 < nI 1 ∨ nI 64 < t1) (sz : Nat) : vx_Met l yX6_needExposure wsX6_needExposure rxX6_needExposure (xPre sz [.int t1, .int g1]) (va_Qv (fun (_ : Unit) => False) (fun _ _ => True) (fun q => sz ≤ q)) (xE "java/lang/IllegalArgumentException" sz) 1 6 (fun q => sz ≤ q) := by
  refine vx_ofW (cc := cX6_needExposure) (maxL := 2) (ret := none) (by decide) rfl ?_
  intro p e s m args below meth c s₁ B hml hnt hv
  obtain ⟨rfl, hsz, hV, hZ⟩ := hv
  have hx := B.exec
  have hb := B.bytes
  have hr := B.returns
  have hts := atoms_spec (ws := wsX6_needExposure) B.pre
  have hown : s.vm.findClass RX6 = some m.cls := findClass_of_methodNamed B.named
  have hlocks := B.notSynchronized
  subst hsz
  have hS : va_S (fun q : Nat => s.heap.size ≤ q) s.heap s.heap [] := va_S.rf
  have hA : ∀ q : Nat, s.heap.size ≤ q → (fun q : Nat => s.heap.size ≤ q) q := fun q h => h
  have hP : va_P (fun _ => 0, fun _ _ => 0) [] [] s.heap := fun k q h => by simp at h
  have hl := lv_entry ([.int t1, .int g1]) (n := 2) (Nat.le_of_ble_eq_true rfl)
  rw [lg_entry_eq]
  generalize (lg_sl ([.int t1, .int g1]) ++ List.replicate (2 - (lg_sl ([.int t1, .int g1])).length) Slot.unset).toArray = ls at hl ⊢
  have hl : lv_has ls 2 [(0, .int t1), (1, .int g1)] := hl
  refine lv_iload_n hx hb dX6_needExposure_0 rfl (lv_at hl 0 rfl) ?_
  refine lv_iconst (v := nI 1) hx hb dX6_needExposure_1 (by decide) ?_
  refine lv_bipush (v := nI 64) hx hb dX6_needExposure_2 (by decide) ?_
  refine vx_callv (vx_runS (As := [.int t1, .int (nI 1), .int (nI 64)]) (rest := []) ⟨hx, hb, hml, hown, hts⟩ (xX6_needRange l hst (t1) (nI 1) (nI 64) h _) (va_cwS 3 hts gX6_needExposure_X6_needRange rfl rfl rfl (by decide +kernel) ⟨Nat.le_of_ble_eq_true rfl, Nat.le_of_ble_eq_true rfl⟩) (xPS hV hZ hS hA [.int t1, .int (nI 1), .int (nI 64)]) rfl rfl hl.1 rfl (lv_room (Nat.le_of_ble_eq_true rfl)) dX6_needExposure_4 ⟨Nat.le_of_ble_eq_true rfl, Nat.le_of_ble_eq_true rfl⟩) hS (fun q h1 h2 => absurd h1 (Nat.not_lt.mpr h2)) (fun q h => hA q (Nat.le_trans hS.1 h)) (fun q h1 h2 => absurd h1 (Nat.not_lt.mpr h2)) (fun E ce q9 u t H1 locs1 ht hvm hpx hBX hz1 hk1 hS hcell hv9 hcl => ?_) (fun u t H1 locs1 ht hvm hw => hw.elim)
  have hBX : E = _ := hBX
  subst hBX
  exact vx_out (fun x h => (hnt x h).elim) hlocks hcell hv9 hcl (fun t9 ht9 hvm9 => ⟨(), trivial, rfl, hS.F ht9⟩) hS.2.2 (Nat.le_of_ble_eq_true rfl) (Nat.le_of_ble_eq_true rfl)
set_option maxHeartbeats 4000000 in
set_option maxRecDepth 100000 in
theorem xX6_needExposure_2 (l : Launch) (hst : l.stackTraces = false) (t1 : Nat) (ht : 0 < t1 ∧ t1 < 65) (g1 : Int32) (h : g1 < nI 1 ∨ nI 8 < g1) (sz : Nat) : vx_Met l yX6_needExposure wsX6_needExposure rxX6_needExposure (xPre sz [.int (nI t1), .int g1]) (va_Qv (fun (_ : Unit) => False) (fun _ _ => True) (fun q => sz ≤ q)) (xE "java/lang/IllegalArgumentException" sz) 1 6 (fun q => sz ≤ q) := by
  refine vx_ofW (cc := cX6_needExposure) (maxL := 2) (ret := none) (by decide) rfl ?_
  intro p e s m args below meth c s₁ B hml hnt hv
  obtain ⟨rfl, hsz, hV, hZ⟩ := hv
  have hx := B.exec
  have hb := B.bytes
  have hr := B.returns
  have hts := atoms_spec (ws := wsX6_needExposure) B.pre
  have hown : s.vm.findClass RX6 = some m.cls := findClass_of_methodNamed B.named
  have hlocks := B.notSynchronized
  subst hsz
  have hS : va_S (fun q : Nat => s.heap.size ≤ q) s.heap s.heap [] := va_S.rf
  have hA : ∀ q : Nat, s.heap.size ≤ q → (fun q : Nat => s.heap.size ≤ q) q := fun q h => h
  have hP : va_P (fun _ => 0, fun _ _ => 0) [] [] s.heap := fun k q h => by simp at h
  have hl := lv_entry ([.int (nI t1), .int g1]) (n := 2) (Nat.le_of_ble_eq_true rfl)
  rw [lg_entry_eq]
  generalize (lg_sl ([.int (nI t1), .int g1]) ++ List.replicate (2 - (lg_sl ([.int (nI t1), .int g1])).length) Slot.unset).toArray = ls at hl ⊢
  have hl : lv_has ls 2 [(0, .int (nI t1)), (1, .int g1)] := hl
  refine lv_iload_n hx hb dX6_needExposure_0 rfl (lv_at hl 0 rfl) ?_
  refine lv_iconst (v := nI 1) hx hb dX6_needExposure_1 (by decide) ?_
  refine lv_bipush (v := nI 64) hx hb dX6_needExposure_2 (by decide) ?_
  refine iw_pv (va_runS (As := [.int (nI t1), .int (nI 1), .int (nI 64)]) (rest := []) ⟨hx, hb, hml, hown, hts⟩ (kX6_needRange l (nI t1) (nI 1) (nI 64) (nI_nlt (by omega) (by omega)) (nI_le (by omega) (by omega))) (va_cwS 3 hts gX6_needExposure_X6_needRange rfl rfl rfl (by decide +kernel) ⟨Nat.le_of_ble_eq_true rfl, Nat.le_of_ble_eq_true rfl⟩) ⟨fun a U g mk q => q, fun U hU hW => ⟨rfl, trivial⟩⟩ rfl rfl hl.1 rfl (lv_room (Nat.le_of_ble_eq_true rfl)) dX6_needExposure_4 ⟨Nat.le_of_ble_eq_true rfl, Nat.le_of_ble_eq_true rfl⟩) hP hS (fun u8 H locs hw8 hP hS => ?_)
  refine lv_iload_n hx hb dX6_needExposure_7 rfl (lv_at hl 1 rfl) ?_
  refine lv_iconst (v := nI 1) hx hb dX6_needExposure_8 (by decide) ?_
  refine lv_bipush (v := nI 8) hx hb dX6_needExposure_9 (by decide) ?_
  refine vx_callv (vx_runS (As := [.int g1, .int (nI 1), .int (nI 8)]) (rest := []) ⟨hx, hb, hml, hown, hts⟩ (xX6_needRange l hst (g1) (nI 1) (nI 8) h _) (va_cwS 3 hts gX6_needExposure_X6_needRange rfl rfl rfl (by decide +kernel) ⟨Nat.le_of_ble_eq_true rfl, Nat.le_of_ble_eq_true rfl⟩) (xPS hV hZ hS hA [.int g1, .int (nI 1), .int (nI 8)]) rfl rfl hl.1 rfl (lv_room (Nat.le_of_ble_eq_true rfl)) dX6_needExposure_11 ⟨Nat.le_of_ble_eq_true rfl, Nat.le_of_ble_eq_true rfl⟩) hS (fun q h1 h2 => absurd h1 (Nat.not_lt.mpr h2)) (fun q h => hA q (Nat.le_trans hS.1 h)) (fun q h1 h2 => absurd h1 (Nat.not_lt.mpr h2)) (fun E ce q9 u t H1 locs1 ht hvm hpx hBX hz1 hk1 hS hcell hv9 hcl => ?_) (fun u t H1 locs1 ht hvm hw => hw.elim)
  have hBX : E = _ := hBX
  subst hBX
  exact vx_out (fun x h => (hnt x h).elim) hlocks hcell hv9 hcl (fun t9 ht9 hvm9 => ⟨(), trivial, rfl, hS.F ht9⟩) hS.2.2 (Nat.le_of_ble_eq_true rfl) (Nat.le_of_ble_eq_true rfl)
abbrev rxX6_paint : Room := { frames := 7, cells := 1, slots := 6, locals := 112 }
set_option maxHeartbeats 4000000 in
set_option maxRecDepth 100000 in
theorem xX6_paint_1 (l : Launch) (hst : l.stackTraces = false) (G : iG) (N : Nat) (ad : Nat → Nat) (C : Nat → va_E) (o : Nat) (S : St) (hcam : Cam G N ad C o S) (x y tx ty co : Int32) (h : isPl x y = false) (sz : Nat) : vx_Met l yX6_paint wsX6_paint rxX6_paint (iPreX G N ad C sz [.ref (ad o), .int x, .int y, .int tx, .int ty, .int co]) (va_Qi (fun (_ : Int32) (_ : Unit) => False) (fun _ _ => True) (fun q => sz ≤ q)) (xE "java/lang/IndexOutOfBoundsException" sz) 1 6 (fun q => sz ≤ q) := by
  refine vx_ofW (cc := cX6_paint) (maxL := 8) (ret := (some .int)) (by decide) rfl ?_
  intro p e s m args below meth c s₁ B hml hnt hv
  obtain ⟨rfl, ⟨⟨hsz, hP, hK, hD⟩, hV⟩, hZ⟩ := hv
  have hx := B.exec
  have hb := B.bytes
  have hr := B.returns
  have hts := atoms_spec (ws := wsX6_paint) B.pre
  have hown : s.vm.findClass RX6 = some m.cls := findClass_of_methodNamed B.named
  have hlocks := B.notSynchronized
  subst hsz
  have hS : va_S (fun q : Nat => s.heap.size ≤ q) s.heap s.heap [] := va_S.rf
  have hA : ∀ q : Nat, s.heap.size ≤ q → (fun q : Nat => s.heap.size ≤ q) q := fun q h => h
  have hP : va_P G.1 vwB (wl N ad C) s.heap := hP
  have hl := lv_entry ([.ref (ad o), .int x, .int y, .int tx, .int ty, .int co]) (n := 8) (Nat.le_of_ble_eq_true rfl)
  rw [lg_entry_eq]
  generalize (lg_sl ([.ref (ad o), .int x, .int y, .int tx, .int ty, .int co]) ++ List.replicate (8 - (lg_sl ([.ref (ad o), .int x, .int y, .int tx, .int ty, .int co])).length) Slot.unset).toArray = ls at hl ⊢
  have hl : lv_has ls 8 [(0, .ref (ad o)), (1, .int x), (2, .int y), (3, .int tx), (4, .int ty), (5, .int co)] := hl
  obtain ⟨hN, ⟨ok1, ok2, ok3, ok4, ok5, ok6, ok7, ok8, ok9⟩, h0, ⟨s1, s2, s3⟩, ⟨e1, e2, e3⟩, h7, h8, ⟨TF, tr1, tr2, tr3, tr4, tr5⟩, ⟨TD, dv1, dv2, dv3⟩, ⟨TC, cv1, cv2, cv3⟩, hfr, hfi⟩ := id hcam
  refine lv_iload_n hx hb dX6_paint_0 rfl (lv_at hl 1 rfl) ?_
  refine lv_iload_n hx hb dX6_paint_1 rfl (lv_at hl 2 rfl) ?_
  refine vx_callv (vx_runS (As := [.int x, .int y]) (rest := []) ⟨hx, hb, hml, hown, hts⟩ (xX6_needPlace l hst (x) (y) h _) (va_cwS 2 hts gX6_paint_X6_needPlace rfl rfl rfl (by decide +kernel) ⟨Nat.le_of_ble_eq_true rfl, Nat.le_of_ble_eq_true rfl⟩) (xPS hV hZ hS hA [.int x, .int y]) rfl rfl hl.1 rfl (lv_room (Nat.le_of_ble_eq_true rfl)) dX6_paint_2 ⟨Nat.le_of_ble_eq_true rfl, Nat.le_of_ble_eq_true rfl⟩) hS (fun q h1 h2 => absurd h1 (Nat.not_lt.mpr h2)) (fun q h => hA q (Nat.le_trans hS.1 h)) (fun q h1 h2 => absurd h1 (Nat.not_lt.mpr h2)) (fun E ce q9 u t H1 locs1 ht hvm hpx hBX hz1 hk1 hS hcell hv9 hcl => ?_) (fun u t H1 locs1 ht hvm hw => hw.elim)
  have hBX : E = _ := hBX
  subst hBX
  exact vx_out (fun x h => (hnt x h).elim) hlocks hcell hv9 hcl (fun t9 ht9 hvm9 => ⟨(), trivial, rfl, hS.F ht9⟩) hS.2.2 (Nat.le_of_ble_eq_true rfl) (Nat.le_of_ble_eq_true rfl)
set_option maxHeartbeats 4000000 in
set_option maxRecDepth 100000 in
theorem xX6_paint_2 (l : Launch) (hst : l.stackTraces = false) (G : iG) (N : Nat) (ad : Nat → Nat) (C : Nat → va_E) (o : Nat) (S : St) (hcam : Cam G N ad C o S) (x y : Nat) (hx8 : x < 8) (hy8 : y < 8) (tx ty co : Int32) (h : isPl tx ty = false) (sz : Nat) : vx_Met l yX6_paint wsX6_paint rxX6_paint (iPreX G N ad C sz [.ref (ad o), .int (nI x), .int (nI y), .int tx, .int ty, .int co]) (va_Qi (fun (_ : Int32) (_ : Unit) => False) (fun _ _ => True) (fun q => sz ≤ q)) (xE "java/lang/IndexOutOfBoundsException" sz) 1 6 (fun q => sz ≤ q) := by
  refine vx_ofW (cc := cX6_paint) (maxL := 8) (ret := (some .int)) (by decide) rfl ?_
  intro p e s m args below meth c s₁ B hml hnt hv
  obtain ⟨rfl, ⟨⟨hsz, hP, hK, hD⟩, hV⟩, hZ⟩ := hv
  have hx := B.exec
  have hb := B.bytes
  have hr := B.returns
  have hts := atoms_spec (ws := wsX6_paint) B.pre
  have hown : s.vm.findClass RX6 = some m.cls := findClass_of_methodNamed B.named
  have hlocks := B.notSynchronized
  subst hsz
  have hS : va_S (fun q : Nat => s.heap.size ≤ q) s.heap s.heap [] := va_S.rf
  have hA : ∀ q : Nat, s.heap.size ≤ q → (fun q : Nat => s.heap.size ≤ q) q := fun q h => h
  have hP : va_P G.1 vwB (wl N ad C) s.heap := hP
  have hl := lv_entry ([.ref (ad o), .int (nI x), .int (nI y), .int tx, .int ty, .int co]) (n := 8) (Nat.le_of_ble_eq_true rfl)
  rw [lg_entry_eq]
  generalize (lg_sl ([.ref (ad o), .int (nI x), .int (nI y), .int tx, .int ty, .int co]) ++ List.replicate (8 - (lg_sl ([.ref (ad o), .int (nI x), .int (nI y), .int tx, .int ty, .int co])).length) Slot.unset).toArray = ls at hl ⊢
  have hl : lv_has ls 8 [(0, .ref (ad o)), (1, .int (nI x)), (2, .int (nI y)), (3, .int tx), (4, .int ty), (5, .int co)] := hl
  obtain ⟨hN, ⟨ok1, ok2, ok3, ok4, ok5, ok6, ok7, ok8, ok9⟩, h0, ⟨s1, s2, s3⟩, ⟨e1, e2, e3⟩, h7, h8, ⟨TF, tr1, tr2, tr3, tr4, tr5⟩, ⟨TD, dv1, dv2, dv3⟩, ⟨TC, cv1, cv2, cv3⟩, hfr, hfi⟩ := id hcam
  refine lv_iload_n hx hb dX6_paint_0 rfl (lv_at hl 1 rfl) ?_
  refine lv_iload_n hx hb dX6_paint_1 rfl (lv_at hl 2 rfl) ?_
  refine iw_pv (va_runS (As := [.int (nI x), .int (nI y)]) (rest := []) ⟨hx, hb, hml, hown, hts⟩ (kX6_needPlace l (x) (y) (by omega) (by omega)) (va_cwS 2 hts gX6_paint_X6_needPlace rfl rfl rfl (by decide +kernel) ⟨Nat.le_of_ble_eq_true rfl, Nat.le_of_ble_eq_true rfl⟩) ⟨fun a U g mk q => q, fun U hU hW => ⟨rfl, trivial⟩⟩ rfl rfl hl.1 rfl (lv_room (Nat.le_of_ble_eq_true rfl)) dX6_paint_2 ⟨Nat.le_of_ble_eq_true rfl, Nat.le_of_ble_eq_true rfl⟩) hP hS (fun u8 H locs hw8 hP hS => ?_)
  refine lv_iload_n hx hb dX6_paint_5 rfl (lv_at hl 3 rfl) ?_
  refine lv_iload hx hb dX6_paint_6 (lv_at hl 4 rfl) ?_
  refine vx_callv (vx_runS (As := [.int tx, .int ty]) (rest := []) ⟨hx, hb, hml, hown, hts⟩ (xX6_needPlace l hst (tx) (ty) h _) (va_cwS 2 hts gX6_paint_X6_needPlace rfl rfl rfl (by decide +kernel) ⟨Nat.le_of_ble_eq_true rfl, Nat.le_of_ble_eq_true rfl⟩) (xPS hV hZ hS hA [.int tx, .int ty]) rfl rfl hl.1 rfl (lv_room (Nat.le_of_ble_eq_true rfl)) dX6_paint_8 ⟨Nat.le_of_ble_eq_true rfl, Nat.le_of_ble_eq_true rfl⟩) hS (fun q h1 h2 => absurd h1 (Nat.not_lt.mpr h2)) (fun q h => hA q (Nat.le_trans hS.1 h)) (fun q h1 h2 => absurd h1 (Nat.not_lt.mpr h2)) (fun E ce q9 u t H1 locs1 ht hvm hpx hBX hz1 hk1 hS hcell hv9 hcl => ?_) (fun u t H1 locs1 ht hvm hw => hw.elim)
  have hBX : E = _ := hBX
  subst hBX
  exact vx_out (fun x h => (hnt x h).elim) hlocks hcell hv9 hcl (fun t9 ht9 hvm9 => ⟨(), trivial, rfl, hS.F ht9⟩) hS.2.2 (Nat.le_of_ble_eq_true rfl) (Nat.le_of_ble_eq_true rfl)
set_option maxRecDepth 20000 in
theorem ix_X6_paint_IA : ∀ w ∈ (vx_atS RX6 66 "java/lang/IllegalArgumentException" ["java/lang/RuntimeException", "java/lang/Exception"]).filter goodWord, w ∈ wsX6_paint := by decide +kernel
set_option maxRecDepth 20000 in
theorem il_X6_paint_62 : (Cond.classLink RX6 62 "java/lang/IllegalArgumentException") ∈ wsX6_paint := by decide +kernel
set_option maxRecDepth 20000 in
theorem il_X6_paint_iniIA : (Cond.initialized "java/lang/IllegalArgumentException") ∈ wsX6_paint := by decide +kernel
set_option maxHeartbeats 4000000 in
set_option maxRecDepth 100000 in
theorem xX6_paint_3 (l : Launch) (hst : l.stackTraces = false) (G : iG) (N : Nat) (ad : Nat → Nat) (C : Nat → va_E) (o : Nat) (S : St) (hcam : Cam G N ad C o S) (x y tx ty : Nat) (hx8 : x < 8) (hy8 : y < 8) (htx : tx < 8) (hty : ty < 8) (co : Int32) (h : tx < x) (sz : Nat) : vx_Met l yX6_paint wsX6_paint rxX6_paint (iPreX G N ad C sz [.ref (ad o), .int (nI x), .int (nI y), .int (nI tx), .int (nI ty), .int co]) (va_Qi (fun (_ : Int32) (_ : Unit) => False) (fun _ _ => True) (fun q => sz ≤ q)) (xE "java/lang/IllegalArgumentException" sz) 1 6 (fun q => sz ≤ q) := by
  refine vx_ofW (cc := cX6_paint) (maxL := 8) (ret := (some .int)) (by decide) rfl ?_
  intro p e s m args below meth c s₁ B hml hnt hv
  obtain ⟨rfl, ⟨⟨hsz, hP, hK, hD⟩, hV⟩, hZ⟩ := hv
  have hx := B.exec
  have hb := B.bytes
  have hr := B.returns
  have hts := atoms_spec (ws := wsX6_paint) B.pre
  have hown : s.vm.findClass RX6 = some m.cls := findClass_of_methodNamed B.named
  have hlocks := B.notSynchronized
  subst hsz
  have hS : va_S (fun q : Nat => s.heap.size ≤ q) s.heap s.heap [] := va_S.rf
  have hA : ∀ q : Nat, s.heap.size ≤ q → (fun q : Nat => s.heap.size ≤ q) q := fun q h => h
  have hP : va_P G.1 vwB (wl N ad C) s.heap := hP
  have hl := lv_entry ([.ref (ad o), .int (nI x), .int (nI y), .int (nI tx), .int (nI ty), .int co]) (n := 8) (Nat.le_of_ble_eq_true rfl)
  rw [lg_entry_eq]
  generalize (lg_sl ([.ref (ad o), .int (nI x), .int (nI y), .int (nI tx), .int (nI ty), .int co]) ++ List.replicate (8 - (lg_sl ([.ref (ad o), .int (nI x), .int (nI y), .int (nI tx), .int (nI ty), .int co])).length) Slot.unset).toArray = ls at hl ⊢
  have hl : lv_has ls 8 [(0, .ref (ad o)), (1, .int (nI x)), (2, .int (nI y)), (3, .int (nI tx)), (4, .int (nI ty)), (5, .int co)] := hl
  obtain ⟨hN, ⟨ok1, ok2, ok3, ok4, ok5, ok6, ok7, ok8, ok9⟩, h0, ⟨s1, s2, s3⟩, ⟨e1, e2, e3⟩, h7, h8, ⟨TF, tr1, tr2, tr3, tr4, tr5⟩, ⟨TD, dv1, dv2, dv3⟩, ⟨TC, cv1, cv2, cv3⟩, hfr, hfi⟩ := id hcam
  refine lv_iload_n hx hb dX6_paint_0 rfl (lv_at hl 1 rfl) ?_
  refine lv_iload_n hx hb dX6_paint_1 rfl (lv_at hl 2 rfl) ?_
  refine iw_pv (va_runS (As := [.int (nI x), .int (nI y)]) (rest := []) ⟨hx, hb, hml, hown, hts⟩ (kX6_needPlace l (x) (y) (by omega) (by omega)) (va_cwS 2 hts gX6_paint_X6_needPlace rfl rfl rfl (by decide +kernel) ⟨Nat.le_of_ble_eq_true rfl, Nat.le_of_ble_eq_true rfl⟩) ⟨fun a U g mk q => q, fun U hU hW => ⟨rfl, trivial⟩⟩ rfl rfl hl.1 rfl (lv_room (Nat.le_of_ble_eq_true rfl)) dX6_paint_2 ⟨Nat.le_of_ble_eq_true rfl, Nat.le_of_ble_eq_true rfl⟩) hP hS (fun u8 H locs hw8 hP hS => ?_)
  refine lv_iload_n hx hb dX6_paint_5 rfl (lv_at hl 3 rfl) ?_
  refine lv_iload hx hb dX6_paint_6 (lv_at hl 4 rfl) ?_
  refine iw_pv (va_runS (As := [.int (nI tx), .int (nI ty)]) (rest := []) ⟨hx, hb, hml, hown, hts⟩ (kX6_needPlace l (tx) (ty) (by omega) (by omega)) (va_cwS 2 hts gX6_paint_X6_needPlace rfl rfl rfl (by decide +kernel) ⟨Nat.le_of_ble_eq_true rfl, Nat.le_of_ble_eq_true rfl⟩) ⟨fun a U g mk q => q, fun U hU hW => ⟨rfl, trivial⟩⟩ rfl rfl hl.1 rfl (lv_room (Nat.le_of_ble_eq_true rfl)) dX6_paint_8 ⟨Nat.le_of_ble_eq_true rfl, Nat.le_of_ble_eq_true rfl⟩) hP hS (fun u8 H locs hw8 hP hS => ?_)
  refine lv_iload_n hx hb dX6_paint_11 rfl (lv_at hl 3 rfl) ?_
  refine lv_iload_n hx hb dX6_paint_12 rfl (lv_at hl 1 rfl) ?_
  refine lv_icmp_lt (tgt := 22) hx hb dX6_paint_13 (by decide) (fun _ => ?_) (fun c9 => absurd ((nI_ltI (by omega) (by omega)).mpr (by omega)) c9)
  obtain ⟨sa9, hstr9⟩ := vx_t64 hV
  exact vx_throwS hx hb hst (own := RX6) (cls := "java/lang/IllegalArgumentException") (names := ["java/lang/RuntimeException", "java/lang/Exception"]) hown (by decide +kernel) (by decide +kernel) (hts _ il_X6_paint_62) (hts _ il_X6_paint_iniIA) hstr9 (th_IA hV (fun w h => hts w (ix_X6_paint_IA w h))) thg_IA hZ.1 hZ.2 hS (by rw [hml]; exact hl.1) dX6_paint_22 dX6_paint_25 dX6_paint_26 dX6_paint_28 dX6_paint_31 (fun x h => (hnt x h).elim) (Nat.le_of_ble_eq_true rfl) (Nat.le_of_ble_eq_true rfl) (Nat.le_of_ble_eq_true rfl) (Nat.le_of_ble_eq_true rfl) hlocks (fun t hvm hz hq => ⟨(), trivial, rfl, Nat.le_trans hS.1 hz, fun q h1 h2 => (hq q (Nat.lt_of_lt_of_le h1 hS.1)).trans (hS.2.1 q h1 h2)⟩) hS.2.2 (Nat.le_of_ble_eq_true rfl) (Nat.le_of_ble_eq_true rfl)
set_option maxHeartbeats 4000000 in
set_option maxRecDepth 100000 in
theorem xX6_paint_4 (l : Launch) (hst : l.stackTraces = false) (G : iG) (N : Nat) (ad : Nat → Nat) (C : Nat → va_E) (o : Nat) (S : St) (hcam : Cam G N ad C o S) (x y tx ty : Nat) (hx8 : x < 8) (hy8 : y < 8) (htx : tx < 8) (hty : ty < 8) (co : Int32) (h1 : x ≤ tx) (h : ty < y) (sz : Nat) : vx_Met l yX6_paint wsX6_paint rxX6_paint (iPreX G N ad C sz [.ref (ad o), .int (nI x), .int (nI y), .int (nI tx), .int (nI ty), .int co]) (va_Qi (fun (_ : Int32) (_ : Unit) => False) (fun _ _ => True) (fun q => sz ≤ q)) (xE "java/lang/IllegalArgumentException" sz) 1 6 (fun q => sz ≤ q) := by
  refine vx_ofW (cc := cX6_paint) (maxL := 8) (ret := (some .int)) (by decide) rfl ?_
  intro p e s m args below meth c s₁ B hml hnt hv
  obtain ⟨rfl, ⟨⟨hsz, hP, hK, hD⟩, hV⟩, hZ⟩ := hv
  have hx := B.exec
  have hb := B.bytes
  have hr := B.returns
  have hts := atoms_spec (ws := wsX6_paint) B.pre
  have hown : s.vm.findClass RX6 = some m.cls := findClass_of_methodNamed B.named
  have hlocks := B.notSynchronized
  subst hsz
  have hS : va_S (fun q : Nat => s.heap.size ≤ q) s.heap s.heap [] := va_S.rf
  have hA : ∀ q : Nat, s.heap.size ≤ q → (fun q : Nat => s.heap.size ≤ q) q := fun q h => h
  have hP : va_P G.1 vwB (wl N ad C) s.heap := hP
  have hl := lv_entry ([.ref (ad o), .int (nI x), .int (nI y), .int (nI tx), .int (nI ty), .int co]) (n := 8) (Nat.le_of_ble_eq_true rfl)
  rw [lg_entry_eq]
  generalize (lg_sl ([.ref (ad o), .int (nI x), .int (nI y), .int (nI tx), .int (nI ty), .int co]) ++ List.replicate (8 - (lg_sl ([.ref (ad o), .int (nI x), .int (nI y), .int (nI tx), .int (nI ty), .int co])).length) Slot.unset).toArray = ls at hl ⊢
  have hl : lv_has ls 8 [(0, .ref (ad o)), (1, .int (nI x)), (2, .int (nI y)), (3, .int (nI tx)), (4, .int (nI ty)), (5, .int co)] := hl
  obtain ⟨hN, ⟨ok1, ok2, ok3, ok4, ok5, ok6, ok7, ok8, ok9⟩, h0, ⟨s1, s2, s3⟩, ⟨e1, e2, e3⟩, h7, h8, ⟨TF, tr1, tr2, tr3, tr4, tr5⟩, ⟨TD, dv1, dv2, dv3⟩, ⟨TC, cv1, cv2, cv3⟩, hfr, hfi⟩ := id hcam
  refine lv_iload_n hx hb dX6_paint_0 rfl (lv_at hl 1 rfl) ?_
  refine lv_iload_n hx hb dX6_paint_1 rfl (lv_at hl 2 rfl) ?_
  refine iw_pv (va_runS (As := [.int (nI x), .int (nI y)]) (rest := []) ⟨hx, hb, hml, hown, hts⟩ (kX6_needPlace l (x) (y) (by omega) (by omega)) (va_cwS 2 hts gX6_paint_X6_needPlace rfl rfl rfl (by decide +kernel) ⟨Nat.le_of_ble_eq_true rfl, Nat.le_of_ble_eq_true rfl⟩) ⟨fun a U g mk q => q, fun U hU hW => ⟨rfl, trivial⟩⟩ rfl rfl hl.1 rfl (lv_room (Nat.le_of_ble_eq_true rfl)) dX6_paint_2 ⟨Nat.le_of_ble_eq_true rfl, Nat.le_of_ble_eq_true rfl⟩) hP hS (fun u8 H locs hw8 hP hS => ?_)
  refine lv_iload_n hx hb dX6_paint_5 rfl (lv_at hl 3 rfl) ?_
  refine lv_iload hx hb dX6_paint_6 (lv_at hl 4 rfl) ?_
  refine iw_pv (va_runS (As := [.int (nI tx), .int (nI ty)]) (rest := []) ⟨hx, hb, hml, hown, hts⟩ (kX6_needPlace l (tx) (ty) (by omega) (by omega)) (va_cwS 2 hts gX6_paint_X6_needPlace rfl rfl rfl (by decide +kernel) ⟨Nat.le_of_ble_eq_true rfl, Nat.le_of_ble_eq_true rfl⟩) ⟨fun a U g mk q => q, fun U hU hW => ⟨rfl, trivial⟩⟩ rfl rfl hl.1 rfl (lv_room (Nat.le_of_ble_eq_true rfl)) dX6_paint_8 ⟨Nat.le_of_ble_eq_true rfl, Nat.le_of_ble_eq_true rfl⟩) hP hS (fun u8 H locs hw8 hP hS => ?_)
  refine lv_iload_n hx hb dX6_paint_11 rfl (lv_at hl 3 rfl) ?_
  refine lv_iload_n hx hb dX6_paint_12 rfl (lv_at hl 1 rfl) ?_
  refine lv_icmp_lt (tgt := 22) hx hb dX6_paint_13 (by decide) (fun c9 => absurd c9 (nI_nlt (by omega) (by omega))) (fun _ => ?_)
  refine lv_iload hx hb dX6_paint_16 (lv_at hl 4 rfl) ?_
  refine lv_iload_n hx hb dX6_paint_18 rfl (lv_at hl 2 rfl) ?_
  refine lv_icmp_ge (tgt := 32) hx hb dX6_paint_19 (by decide) (fun c9 => absurd c9 ((fun c9 => absurd ((nI_leI (by omega) (by omega)).mp c9) (by omega)))) (fun _ => ?_)
  obtain ⟨sa9, hstr9⟩ := vx_t64 hV
  exact vx_throwS hx hb hst (own := RX6) (cls := "java/lang/IllegalArgumentException") (names := ["java/lang/RuntimeException", "java/lang/Exception"]) hown (by decide +kernel) (by decide +kernel) (hts _ il_X6_paint_62) (hts _ il_X6_paint_iniIA) hstr9 (th_IA hV (fun w h => hts w (ix_X6_paint_IA w h))) thg_IA hZ.1 hZ.2 hS (by rw [hml]; exact hl.1) dX6_paint_22 dX6_paint_25 dX6_paint_26 dX6_paint_28 dX6_paint_31 (fun x h => (hnt x h).elim) (Nat.le_of_ble_eq_true rfl) (Nat.le_of_ble_eq_true rfl) (Nat.le_of_ble_eq_true rfl) (Nat.le_of_ble_eq_true rfl) hlocks (fun t hvm hz hq => ⟨(), trivial, rfl, Nat.le_trans hS.1 hz, fun q h1 h2 => (hq q (Nat.lt_of_lt_of_le h1 hS.1)).trans (hS.2.1 q h1 h2)⟩) hS.2.2 (Nat.le_of_ble_eq_true rfl) (Nat.le_of_ble_eq_true rfl)
set_option maxHeartbeats 4000000 in
set_option maxRecDepth 100000 in
theorem xX6_paint_5 (l : Launch) (hst : l.stackTraces = false) (G : iG) (N : Nat) (ad : Nat → Nat) (C : Nat → va_E) (o : Nat) (S : St) (hcam : Cam G N ad C o S) (x y tx ty : Nat) (hx8 : x < 8) (hy8 : y < 8) (htx : tx < 8) (hty : ty < 8) (co : Int32) (h1 : x ≤ tx) (h2 : y ≤ ty) (h : co < nI 0 ∨ nI 16777215 < co) (sz : Nat) : vx_Met l yX6_paint wsX6_paint rxX6_paint (iPreX G N ad C sz [.ref (ad o), .int (nI x), .int (nI y), .int (nI tx), .int (nI ty), .int co]) (va_Qi (fun (_ : Int32) (_ : Unit) => False) (fun _ _ => True) (fun q => sz ≤ q)) (xE "java/lang/IllegalArgumentException" sz) 1 6 (fun q => sz ≤ q) := by
  refine vx_ofW (cc := cX6_paint) (maxL := 8) (ret := (some .int)) (by decide) rfl ?_
  intro p e s m args below meth c s₁ B hml hnt hv
  obtain ⟨rfl, ⟨⟨hsz, hP, hK, hD⟩, hV⟩, hZ⟩ := hv
  have hx := B.exec
  have hb := B.bytes
  have hr := B.returns
  have hts := atoms_spec (ws := wsX6_paint) B.pre
  have hown : s.vm.findClass RX6 = some m.cls := findClass_of_methodNamed B.named
  have hlocks := B.notSynchronized
  subst hsz
  have hS : va_S (fun q : Nat => s.heap.size ≤ q) s.heap s.heap [] := va_S.rf
  have hA : ∀ q : Nat, s.heap.size ≤ q → (fun q : Nat => s.heap.size ≤ q) q := fun q h => h
  have hP : va_P G.1 vwB (wl N ad C) s.heap := hP
  have hl := lv_entry ([.ref (ad o), .int (nI x), .int (nI y), .int (nI tx), .int (nI ty), .int co]) (n := 8) (Nat.le_of_ble_eq_true rfl)
  rw [lg_entry_eq]
  generalize (lg_sl ([.ref (ad o), .int (nI x), .int (nI y), .int (nI tx), .int (nI ty), .int co]) ++ List.replicate (8 - (lg_sl ([.ref (ad o), .int (nI x), .int (nI y), .int (nI tx), .int (nI ty), .int co])).length) Slot.unset).toArray = ls at hl ⊢
  have hl : lv_has ls 8 [(0, .ref (ad o)), (1, .int (nI x)), (2, .int (nI y)), (3, .int (nI tx)), (4, .int (nI ty)), (5, .int co)] := hl
  obtain ⟨hN, ⟨ok1, ok2, ok3, ok4, ok5, ok6, ok7, ok8, ok9⟩, h0, ⟨s1, s2, s3⟩, ⟨e1, e2, e3⟩, h7, h8, ⟨TF, tr1, tr2, tr3, tr4, tr5⟩, ⟨TD, dv1, dv2, dv3⟩, ⟨TC, cv1, cv2, cv3⟩, hfr, hfi⟩ := id hcam
  refine lv_iload_n hx hb dX6_paint_0 rfl (lv_at hl 1 rfl) ?_
  refine lv_iload_n hx hb dX6_paint_1 rfl (lv_at hl 2 rfl) ?_
  refine iw_pv (va_runS (As := [.int (nI x), .int (nI y)]) (rest := []) ⟨hx, hb, hml, hown, hts⟩ (kX6_needPlace l (x) (y) (by omega) (by omega)) (va_cwS 2 hts gX6_paint_X6_needPlace rfl rfl rfl (by decide +kernel) ⟨Nat.le_of_ble_eq_true rfl, Nat.le_of_ble_eq_true rfl⟩) ⟨fun a U g mk q => q, fun U hU hW => ⟨rfl, trivial⟩⟩ rfl rfl hl.1 rfl (lv_room (Nat.le_of_ble_eq_true rfl)) dX6_paint_2 ⟨Nat.le_of_ble_eq_true rfl, Nat.le_of_ble_eq_true rfl⟩) hP hS (fun u8 H locs hw8 hP hS => ?_)
  refine lv_iload_n hx hb dX6_paint_5 rfl (lv_at hl 3 rfl) ?_
  refine lv_iload hx hb dX6_paint_6 (lv_at hl 4 rfl) ?_
  refine iw_pv (va_runS (As := [.int (nI tx), .int (nI ty)]) (rest := []) ⟨hx, hb, hml, hown, hts⟩ (kX6_needPlace l (tx) (ty) (by omega) (by omega)) (va_cwS 2 hts gX6_paint_X6_needPlace rfl rfl rfl (by decide +kernel) ⟨Nat.le_of_ble_eq_true rfl, Nat.le_of_ble_eq_true rfl⟩) ⟨fun a U g mk q => q, fun U hU hW => ⟨rfl, trivial⟩⟩ rfl rfl hl.1 rfl (lv_room (Nat.le_of_ble_eq_true rfl)) dX6_paint_8 ⟨Nat.le_of_ble_eq_true rfl, Nat.le_of_ble_eq_true rfl⟩) hP hS (fun u8 H locs hw8 hP hS => ?_)
  refine lv_iload_n hx hb dX6_paint_11 rfl (lv_at hl 3 rfl) ?_
  refine lv_iload_n hx hb dX6_paint_12 rfl (lv_at hl 1 rfl) ?_
  refine lv_icmp_lt (tgt := 22) hx hb dX6_paint_13 (by decide) (fun c9 => absurd c9 (nI_nlt (by omega) (by omega))) (fun _ => ?_)
  refine lv_iload hx hb dX6_paint_16 (lv_at hl 4 rfl) ?_
  refine lv_iload_n hx hb dX6_paint_18 rfl (lv_at hl 2 rfl) ?_
  refine lv_icmp_ge (tgt := 32) hx hb dX6_paint_19 (by decide) (fun _ => ?_) (fun c9 => absurd (nI_le (by omega) (by omega)) c9)
  refine lv_iload hx hb dX6_paint_32 (lv_at hl 5 rfl) ?_
  refine lv_iconst (v := nI 0) hx hb dX6_paint_34 (by decide) ?_
  refine lv_ldc hx hb hown (hts _ il_X6_paint_69) dX6_paint_35 ?_
  refine lv_asI (y := nI 16777215) (by decide) ?_
  refine vx_callv (vx_runS (As := [.int co, .int (nI 0), .int (nI 16777215)]) (rest := []) ⟨hx, hb, hml, hown, hts⟩ (xX6_needRange l hst (co) (nI 0) (nI 16777215) h _) (va_cwS 3 hts gX6_paint_X6_needRange rfl rfl rfl (by decide +kernel) ⟨Nat.le_of_ble_eq_true rfl, Nat.le_of_ble_eq_true rfl⟩) (xPS hV hZ hS hA [.int co, .int (nI 0), .int (nI 16777215)]) rfl rfl hl.1 rfl (lv_room (Nat.le_of_ble_eq_true rfl)) dX6_paint_37 ⟨Nat.le_of_ble_eq_true rfl, Nat.le_of_ble_eq_true rfl⟩) hS (fun q h1 h2 => absurd h1 (Nat.not_lt.mpr h2)) (fun q h => hA q (Nat.le_trans hS.1 h)) (fun q h1 h2 => absurd h1 (Nat.not_lt.mpr h2)) (fun E ce q9 u t H1 locs1 ht hvm hpx hBX hz1 hk1 hS hcell hv9 hcl => ?_) (fun u t H1 locs1 ht hvm hw => hw.elim)
  have hBX : E = _ := hBX
  subst hBX
  exact vx_out (fun x h => (hnt x h).elim) hlocks hcell hv9 hcl (fun t9 ht9 hvm9 => ⟨(), trivial, rfl, hS.F ht9⟩) hS.2.2 (Nat.le_of_ble_eq_true rfl) (Nat.le_of_ble_eq_true rfl)
abbrev rxX6_lamp : Room := { frames := 7, cells := 1, slots := 6, locals := 112 }
set_option maxHeartbeats 4000000 in
set_option maxRecDepth 100000 in
theorem xX6_lamp_1 (l : Launch) (hst : l.stackTraces = false) (G : iG) (N : Nat) (ad : Nat → Nat) (C : Nat → va_E) (o : Nat) (S : St) (hcam : Cam G N ad C o S) (r1 g1 b1 : Int32) (h : r1 < nI 1 ∨ nI 16 < r1) (sz : Nat) : vx_Met l yX6_lamp wsX6_lamp rxX6_lamp (iPreX G N ad C sz [.ref (ad o), .int r1, .int g1, .int b1]) (va_Qi (fun (_ : Int32) (_ : Unit) => False) (fun _ _ => True) (fun q => sz ≤ q)) (xE "java/lang/IllegalArgumentException" sz) 1 6 (fun q => sz ≤ q) := by
  refine vx_ofW (cc := cX6_lamp) (maxL := 5) (ret := (some .int)) (by decide) rfl ?_
  intro p e s m args below meth c s₁ B hml hnt hv
  obtain ⟨rfl, ⟨⟨hsz, hP, hK, hD⟩, hV⟩, hZ⟩ := hv
  have hx := B.exec
  have hb := B.bytes
  have hr := B.returns
  have hts := atoms_spec (ws := wsX6_lamp) B.pre
  have hown : s.vm.findClass RX6 = some m.cls := findClass_of_methodNamed B.named
  have hlocks := B.notSynchronized
  subst hsz
  have hS : va_S (fun q : Nat => s.heap.size ≤ q) s.heap s.heap [] := va_S.rf
  have hA : ∀ q : Nat, s.heap.size ≤ q → (fun q : Nat => s.heap.size ≤ q) q := fun q h => h
  have hP : va_P G.1 vwB (wl N ad C) s.heap := hP
  have hl := lv_entry ([.ref (ad o), .int r1, .int g1, .int b1]) (n := 5) (Nat.le_of_ble_eq_true rfl)
  rw [lg_entry_eq]
  generalize (lg_sl ([.ref (ad o), .int r1, .int g1, .int b1]) ++ List.replicate (5 - (lg_sl ([.ref (ad o), .int r1, .int g1, .int b1])).length) Slot.unset).toArray = ls at hl ⊢
  have hl : lv_has ls 5 [(0, .ref (ad o)), (1, .int r1), (2, .int g1), (3, .int b1)] := hl
  obtain ⟨hN, ⟨ok1, ok2, ok3, ok4, ok5, ok6, ok7, ok8, ok9⟩, h0, ⟨s1, s2, s3⟩, ⟨e1, e2, e3⟩, h7, h8, ⟨TF, tr1, tr2, tr3, tr4, tr5⟩, ⟨TD, dv1, dv2, dv3⟩, ⟨TC, cv1, cv2, cv3⟩, hfr, hfi⟩ := id hcam
  refine lv_iload_n hx hb dX6_lamp_0 rfl (lv_at hl 1 rfl) ?_
  refine lv_iconst (v := nI 1) hx hb dX6_lamp_1 (by decide) ?_
  refine lv_bipush (v := nI 16) hx hb dX6_lamp_2 (by decide) ?_
  refine vx_callv (vx_runS (As := [.int r1, .int (nI 1), .int (nI 16)]) (rest := []) ⟨hx, hb, hml, hown, hts⟩ (xX6_needRange l hst (r1) (nI 1) (nI 16) h _) (va_cwS 3 hts gX6_lamp_X6_needRange rfl rfl rfl (by decide +kernel) ⟨Nat.le_of_ble_eq_true rfl, Nat.le_of_ble_eq_true rfl⟩) (xPS hV hZ hS hA [.int r1, .int (nI 1), .int (nI 16)]) rfl rfl hl.1 rfl (lv_room (Nat.le_of_ble_eq_true rfl)) dX6_lamp_4 ⟨Nat.le_of_ble_eq_true rfl, Nat.le_of_ble_eq_true rfl⟩) hS (fun q h1 h2 => absurd h1 (Nat.not_lt.mpr h2)) (fun q h => hA q (Nat.le_trans hS.1 h)) (fun q h1 h2 => absurd h1 (Nat.not_lt.mpr h2)) (fun E ce q9 u t H1 locs1 ht hvm hpx hBX hz1 hk1 hS hcell hv9 hcl => ?_) (fun u t H1 locs1 ht hvm hw => hw.elim)
  have hBX : E = _ := hBX
  subst hBX
  exact vx_out (fun x h => (hnt x h).elim) hlocks hcell hv9 hcl (fun t9 ht9 hvm9 => ⟨(), trivial, rfl, hS.F ht9⟩) hS.2.2 (Nat.le_of_ble_eq_true rfl) (Nat.le_of_ble_eq_true rfl)
set_option maxHeartbeats 4000000 in
set_option maxRecDepth 100000 in
theorem xX6_lamp_2 (l : Launch) (hst : l.stackTraces = false) (G : iG) (N : Nat) (ad : Nat → Nat) (C : Nat → va_E) (o : Nat) (S : St) (hcam : Cam G N ad C o S) (r1 : Nat) (hr1 : 0 < r1 ∧ r1 < 17) (g1 b1 : Int32) (h : g1 < nI 1 ∨ nI 16 < g1) (sz : Nat) : vx_Met l yX6_lamp wsX6_lamp rxX6_lamp (iPreX G N ad C sz [.ref (ad o), .int (nI r1), .int g1, .int b1]) (va_Qi (fun (_ : Int32) (_ : Unit) => False) (fun _ _ => True) (fun q => sz ≤ q)) (xE "java/lang/IllegalArgumentException" sz) 1 6 (fun q => sz ≤ q) := by
  refine vx_ofW (cc := cX6_lamp) (maxL := 5) (ret := (some .int)) (by decide) rfl ?_
  intro p e s m args below meth c s₁ B hml hnt hv
  obtain ⟨rfl, ⟨⟨hsz, hP, hK, hD⟩, hV⟩, hZ⟩ := hv
  have hx := B.exec
  have hb := B.bytes
  have hr := B.returns
  have hts := atoms_spec (ws := wsX6_lamp) B.pre
  have hown : s.vm.findClass RX6 = some m.cls := findClass_of_methodNamed B.named
  have hlocks := B.notSynchronized
  subst hsz
  have hS : va_S (fun q : Nat => s.heap.size ≤ q) s.heap s.heap [] := va_S.rf
  have hA : ∀ q : Nat, s.heap.size ≤ q → (fun q : Nat => s.heap.size ≤ q) q := fun q h => h
  have hP : va_P G.1 vwB (wl N ad C) s.heap := hP
  have hl := lv_entry ([.ref (ad o), .int (nI r1), .int g1, .int b1]) (n := 5) (Nat.le_of_ble_eq_true rfl)
  rw [lg_entry_eq]
  generalize (lg_sl ([.ref (ad o), .int (nI r1), .int g1, .int b1]) ++ List.replicate (5 - (lg_sl ([.ref (ad o), .int (nI r1), .int g1, .int b1])).length) Slot.unset).toArray = ls at hl ⊢
  have hl : lv_has ls 5 [(0, .ref (ad o)), (1, .int (nI r1)), (2, .int g1), (3, .int b1)] := hl
  obtain ⟨hN, ⟨ok1, ok2, ok3, ok4, ok5, ok6, ok7, ok8, ok9⟩, h0, ⟨s1, s2, s3⟩, ⟨e1, e2, e3⟩, h7, h8, ⟨TF, tr1, tr2, tr3, tr4, tr5⟩, ⟨TD, dv1, dv2, dv3⟩, ⟨TC, cv1, cv2, cv3⟩, hfr, hfi⟩ := id hcam
  refine lv_iload_n hx hb dX6_lamp_0 rfl (lv_at hl 1 rfl) ?_
  refine lv_iconst (v := nI 1) hx hb dX6_lamp_1 (by decide) ?_
  refine lv_bipush (v := nI 16) hx hb dX6_lamp_2 (by decide) ?_
  refine iw_pv (va_runS (As := [.int (nI r1), .int (nI 1), .int (nI 16)]) (rest := []) ⟨hx, hb, hml, hown, hts⟩ (kX6_needRange l (nI r1) (nI 1) (nI 16) (nI_nlt (by omega) (by omega)) (nI_le (by omega) (by omega))) (va_cwS 3 hts gX6_lamp_X6_needRange rfl rfl rfl (by decide +kernel) ⟨Nat.le_of_ble_eq_true rfl, Nat.le_of_ble_eq_true rfl⟩) ⟨fun a U g mk q => q, fun U hU hW => ⟨rfl, trivial⟩⟩ rfl rfl hl.1 rfl (lv_room (Nat.le_of_ble_eq_true rfl)) dX6_lamp_4 ⟨Nat.le_of_ble_eq_true rfl, Nat.le_of_ble_eq_true rfl⟩) hP hS (fun u8 H locs hw8 hP hS => ?_)
  refine lv_iload_n hx hb dX6_lamp_7 rfl (lv_at hl 2 rfl) ?_
  refine lv_iconst (v := nI 1) hx hb dX6_lamp_8 (by decide) ?_
  refine lv_bipush (v := nI 16) hx hb dX6_lamp_9 (by decide) ?_
  refine vx_callv (vx_runS (As := [.int g1, .int (nI 1), .int (nI 16)]) (rest := []) ⟨hx, hb, hml, hown, hts⟩ (xX6_needRange l hst (g1) (nI 1) (nI 16) h _) (va_cwS 3 hts gX6_lamp_X6_needRange rfl rfl rfl (by decide +kernel) ⟨Nat.le_of_ble_eq_true rfl, Nat.le_of_ble_eq_true rfl⟩) (xPS hV hZ hS hA [.int g1, .int (nI 1), .int (nI 16)]) rfl rfl hl.1 rfl (lv_room (Nat.le_of_ble_eq_true rfl)) dX6_lamp_11 ⟨Nat.le_of_ble_eq_true rfl, Nat.le_of_ble_eq_true rfl⟩) hS (fun q h1 h2 => absurd h1 (Nat.not_lt.mpr h2)) (fun q h => hA q (Nat.le_trans hS.1 h)) (fun q h1 h2 => absurd h1 (Nat.not_lt.mpr h2)) (fun E ce q9 u t H1 locs1 ht hvm hpx hBX hz1 hk1 hS hcell hv9 hcl => ?_) (fun u t H1 locs1 ht hvm hw => hw.elim)
  have hBX : E = _ := hBX
  subst hBX
  exact vx_out (fun x h => (hnt x h).elim) hlocks hcell hv9 hcl (fun t9 ht9 hvm9 => ⟨(), trivial, rfl, hS.F ht9⟩) hS.2.2 (Nat.le_of_ble_eq_true rfl) (Nat.le_of_ble_eq_true rfl)
set_option maxHeartbeats 4000000 in
set_option maxRecDepth 100000 in
theorem xX6_lamp_3 (l : Launch) (hst : l.stackTraces = false) (G : iG) (N : Nat) (ad : Nat → Nat) (C : Nat → va_E) (o : Nat) (S : St) (hcam : Cam G N ad C o S) (r1 g1 : Nat) (hr1 : 0 < r1 ∧ r1 < 17) (hg1 : 0 < g1 ∧ g1 < 17) (b1 : Int32) (h : b1 < nI 1 ∨ nI 16 < b1) (sz : Nat) : vx_Met l yX6_lamp wsX6_lamp rxX6_lamp (iPreX G N ad C sz [.ref (ad o), .int (nI r1), .int (nI g1), .int b1]) (va_Qi (fun (_ : Int32) (_ : Unit) => False) (fun _ _ => True) (fun q => sz ≤ q)) (xE "java/lang/IllegalArgumentException" sz) 1 6 (fun q => sz ≤ q) := by
  refine vx_ofW (cc := cX6_lamp) (maxL := 5) (ret := (some .int)) (by decide) rfl ?_
  intro p e s m args below meth c s₁ B hml hnt hv
  obtain ⟨rfl, ⟨⟨hsz, hP, hK, hD⟩, hV⟩, hZ⟩ := hv
  have hx := B.exec
  have hb := B.bytes
  have hr := B.returns
  have hts := atoms_spec (ws := wsX6_lamp) B.pre
  have hown : s.vm.findClass RX6 = some m.cls := findClass_of_methodNamed B.named
  have hlocks := B.notSynchronized
  subst hsz
  have hS : va_S (fun q : Nat => s.heap.size ≤ q) s.heap s.heap [] := va_S.rf
  have hA : ∀ q : Nat, s.heap.size ≤ q → (fun q : Nat => s.heap.size ≤ q) q := fun q h => h
  have hP : va_P G.1 vwB (wl N ad C) s.heap := hP
  have hl := lv_entry ([.ref (ad o), .int (nI r1), .int (nI g1), .int b1]) (n := 5) (Nat.le_of_ble_eq_true rfl)
  rw [lg_entry_eq]
  generalize (lg_sl ([.ref (ad o), .int (nI r1), .int (nI g1), .int b1]) ++ List.replicate (5 - (lg_sl ([.ref (ad o), .int (nI r1), .int (nI g1), .int b1])).length) Slot.unset).toArray = ls at hl ⊢
  have hl : lv_has ls 5 [(0, .ref (ad o)), (1, .int (nI r1)), (2, .int (nI g1)), (3, .int b1)] := hl
  obtain ⟨hN, ⟨ok1, ok2, ok3, ok4, ok5, ok6, ok7, ok8, ok9⟩, h0, ⟨s1, s2, s3⟩, ⟨e1, e2, e3⟩, h7, h8, ⟨TF, tr1, tr2, tr3, tr4, tr5⟩, ⟨TD, dv1, dv2, dv3⟩, ⟨TC, cv1, cv2, cv3⟩, hfr, hfi⟩ := id hcam
  refine lv_iload_n hx hb dX6_lamp_0 rfl (lv_at hl 1 rfl) ?_
  refine lv_iconst (v := nI 1) hx hb dX6_lamp_1 (by decide) ?_
  refine lv_bipush (v := nI 16) hx hb dX6_lamp_2 (by decide) ?_
  refine iw_pv (va_runS (As := [.int (nI r1), .int (nI 1), .int (nI 16)]) (rest := []) ⟨hx, hb, hml, hown, hts⟩ (kX6_needRange l (nI r1) (nI 1) (nI 16) (nI_nlt (by omega) (by omega)) (nI_le (by omega) (by omega))) (va_cwS 3 hts gX6_lamp_X6_needRange rfl rfl rfl (by decide +kernel) ⟨Nat.le_of_ble_eq_true rfl, Nat.le_of_ble_eq_true rfl⟩) ⟨fun a U g mk q => q, fun U hU hW => ⟨rfl, trivial⟩⟩ rfl rfl hl.1 rfl (lv_room (Nat.le_of_ble_eq_true rfl)) dX6_lamp_4 ⟨Nat.le_of_ble_eq_true rfl, Nat.le_of_ble_eq_true rfl⟩) hP hS (fun u8 H locs hw8 hP hS => ?_)
  refine lv_iload_n hx hb dX6_lamp_7 rfl (lv_at hl 2 rfl) ?_
  refine lv_iconst (v := nI 1) hx hb dX6_lamp_8 (by decide) ?_
  refine lv_bipush (v := nI 16) hx hb dX6_lamp_9 (by decide) ?_
  refine iw_pv (va_runS (As := [.int (nI g1), .int (nI 1), .int (nI 16)]) (rest := []) ⟨hx, hb, hml, hown, hts⟩ (kX6_needRange l (nI g1) (nI 1) (nI 16) (nI_nlt (by omega) (by omega)) (nI_le (by omega) (by omega))) (va_cwS 3 hts gX6_lamp_X6_needRange rfl rfl rfl (by decide +kernel) ⟨Nat.le_of_ble_eq_true rfl, Nat.le_of_ble_eq_true rfl⟩) ⟨fun a U g mk q => q, fun U hU hW => ⟨rfl, trivial⟩⟩ rfl rfl hl.1 rfl (lv_room (Nat.le_of_ble_eq_true rfl)) dX6_lamp_11 ⟨Nat.le_of_ble_eq_true rfl, Nat.le_of_ble_eq_true rfl⟩) hP hS (fun u8 H locs hw8 hP hS => ?_)
  refine lv_iload_n hx hb dX6_lamp_14 rfl (lv_at hl 3 rfl) ?_
  refine lv_iconst (v := nI 1) hx hb dX6_lamp_15 (by decide) ?_
  refine lv_bipush (v := nI 16) hx hb dX6_lamp_16 (by decide) ?_
  refine vx_callv (vx_runS (As := [.int b1, .int (nI 1), .int (nI 16)]) (rest := []) ⟨hx, hb, hml, hown, hts⟩ (xX6_needRange l hst (b1) (nI 1) (nI 16) h _) (va_cwS 3 hts gX6_lamp_X6_needRange rfl rfl rfl (by decide +kernel) ⟨Nat.le_of_ble_eq_true rfl, Nat.le_of_ble_eq_true rfl⟩) (xPS hV hZ hS hA [.int b1, .int (nI 1), .int (nI 16)]) rfl rfl hl.1 rfl (lv_room (Nat.le_of_ble_eq_true rfl)) dX6_lamp_18 ⟨Nat.le_of_ble_eq_true rfl, Nat.le_of_ble_eq_true rfl⟩) hS (fun q h1 h2 => absurd h1 (Nat.not_lt.mpr h2)) (fun q h => hA q (Nat.le_trans hS.1 h)) (fun q h1 h2 => absurd h1 (Nat.not_lt.mpr h2)) (fun E ce q9 u t H1 locs1 ht hvm hpx hBX hz1 hk1 hS hcell hv9 hcl => ?_) (fun u t H1 locs1 ht hvm hw => hw.elim)
  have hBX : E = _ := hBX
  subst hBX
  exact vx_out (fun x h => (hnt x h).elim) hlocks hcell hv9 hcl (fun t9 ht9 hvm9 => ⟨(), trivial, rfl, hS.F ht9⟩) hS.2.2 (Nat.le_of_ble_eq_true rfl) (Nat.le_of_ble_eq_true rfl)
abbrev rxX6_spoil : Room := { frames := 7, cells := 1, slots := 6, locals := 112 }
set_option maxHeartbeats 4000000 in
set_option maxRecDepth 100000 in
theorem xX6_spoil_1 (l : Launch) (hst : l.stackTraces = false) (G : iG) (N : Nat) (ad : Nat → Nat) (C : Nat → va_E) (o : Nat) (S : St) (hcam : Cam G N ad C o S) (x y v : Int32) (h : isPl x y = false) (sz : Nat) : vx_Met l yX6_spoil wsX6_spoil rxX6_spoil (iPreX G N ad C sz [.ref (ad o), .int x, .int y, .int v]) (va_Qi (fun (_ : Int32) (_ : Unit) => False) (fun _ _ => True) (fun q => sz ≤ q)) (xE "java/lang/IndexOutOfBoundsException" sz) 1 6 (fun q => sz ≤ q) := by
  refine vx_ofW (cc := cX6_spoil) (maxL := 6) (ret := (some .int)) (by decide) rfl ?_
  intro p e s m args below meth c s₁ B hml hnt hv
  obtain ⟨rfl, ⟨⟨hsz, hP, hK, hD⟩, hV⟩, hZ⟩ := hv
  have hx := B.exec
  have hb := B.bytes
  have hr := B.returns
  have hts := atoms_spec (ws := wsX6_spoil) B.pre
  have hown : s.vm.findClass RX6 = some m.cls := findClass_of_methodNamed B.named
  have hlocks := B.notSynchronized
  subst hsz
  have hS : va_S (fun q : Nat => s.heap.size ≤ q) s.heap s.heap [] := va_S.rf
  have hA : ∀ q : Nat, s.heap.size ≤ q → (fun q : Nat => s.heap.size ≤ q) q := fun q h => h
  have hP : va_P G.1 vwB (wl N ad C) s.heap := hP
  have hl := lv_entry ([.ref (ad o), .int x, .int y, .int v]) (n := 6) (Nat.le_of_ble_eq_true rfl)
  rw [lg_entry_eq]
  generalize (lg_sl ([.ref (ad o), .int x, .int y, .int v]) ++ List.replicate (6 - (lg_sl ([.ref (ad o), .int x, .int y, .int v])).length) Slot.unset).toArray = ls at hl ⊢
  have hl : lv_has ls 6 [(0, .ref (ad o)), (1, .int x), (2, .int y), (3, .int v)] := hl
  obtain ⟨hN, ⟨ok1, ok2, ok3, ok4, ok5, ok6, ok7, ok8, ok9⟩, h0, ⟨s1, s2, s3⟩, ⟨e1, e2, e3⟩, h7, h8, ⟨TF, tr1, tr2, tr3, tr4, tr5⟩, ⟨TD, dv1, dv2, dv3⟩, ⟨TC, cv1, cv2, cv3⟩, hfr, hfi⟩ := id hcam
  refine lv_iload_n hx hb dX6_spoil_0 rfl (lv_at hl 1 rfl) ?_
  refine lv_iload_n hx hb dX6_spoil_1 rfl (lv_at hl 2 rfl) ?_
  refine vx_callv (vx_runS (As := [.int x, .int y]) (rest := []) ⟨hx, hb, hml, hown, hts⟩ (xX6_needPlace l hst (x) (y) h _) (va_cwS 2 hts gX6_spoil_X6_needPlace rfl rfl rfl (by decide +kernel) ⟨Nat.le_of_ble_eq_true rfl, Nat.le_of_ble_eq_true rfl⟩) (xPS hV hZ hS hA [.int x, .int y]) rfl rfl hl.1 rfl (lv_room (Nat.le_of_ble_eq_true rfl)) dX6_spoil_2 ⟨Nat.le_of_ble_eq_true rfl, Nat.le_of_ble_eq_true rfl⟩) hS (fun q h1 h2 => absurd h1 (Nat.not_lt.mpr h2)) (fun q h => hA q (Nat.le_trans hS.1 h)) (fun q h1 h2 => absurd h1 (Nat.not_lt.mpr h2)) (fun E ce q9 u t H1 locs1 ht hvm hpx hBX hz1 hk1 hS hcell hv9 hcl => ?_) (fun u t H1 locs1 ht hvm hw => hw.elim)
  have hBX : E = _ := hBX
  subst hBX
  exact vx_out (fun x h => (hnt x h).elim) hlocks hcell hv9 hcl (fun t9 ht9 hvm9 => ⟨(), trivial, rfl, hS.F ht9⟩) hS.2.2 (Nat.le_of_ble_eq_true rfl) (Nat.le_of_ble_eq_true rfl)
set_option maxHeartbeats 4000000 in
set_option maxRecDepth 100000 in
theorem xX6_spoil_2 (l : Launch) (hst : l.stackTraces = false) (G : iG) (N : Nat) (ad : Nat → Nat) (C : Nat → va_E) (o : Nat) (S : St) (hcam : Cam G N ad C o S) (x y : Nat) (hx8 : x < 8) (hy8 : y < 8) (v : Int32) (h : v < nI 0 ∨ nI 2 < v) (sz : Nat) : vx_Met l yX6_spoil wsX6_spoil rxX6_spoil (iPreX G N ad C sz [.ref (ad o), .int (nI x), .int (nI y), .int v]) (va_Qi (fun (_ : Int32) (_ : Unit) => False) (fun _ _ => True) (fun q => sz ≤ q)) (xE "java/lang/IllegalArgumentException" sz) 1 6 (fun q => sz ≤ q) := by
  refine vx_ofW (cc := cX6_spoil) (maxL := 6) (ret := (some .int)) (by decide) rfl ?_
  intro p e s m args below meth c s₁ B hml hnt hv
  obtain ⟨rfl, ⟨⟨hsz, hP, hK, hD⟩, hV⟩, hZ⟩ := hv
  have hx := B.exec
  have hb := B.bytes
  have hr := B.returns
  have hts := atoms_spec (ws := wsX6_spoil) B.pre
  have hown : s.vm.findClass RX6 = some m.cls := findClass_of_methodNamed B.named
  have hlocks := B.notSynchronized
  subst hsz
  have hS : va_S (fun q : Nat => s.heap.size ≤ q) s.heap s.heap [] := va_S.rf
  have hA : ∀ q : Nat, s.heap.size ≤ q → (fun q : Nat => s.heap.size ≤ q) q := fun q h => h
  have hP : va_P G.1 vwB (wl N ad C) s.heap := hP
  have hl := lv_entry ([.ref (ad o), .int (nI x), .int (nI y), .int v]) (n := 6) (Nat.le_of_ble_eq_true rfl)
  rw [lg_entry_eq]
  generalize (lg_sl ([.ref (ad o), .int (nI x), .int (nI y), .int v]) ++ List.replicate (6 - (lg_sl ([.ref (ad o), .int (nI x), .int (nI y), .int v])).length) Slot.unset).toArray = ls at hl ⊢
  have hl : lv_has ls 6 [(0, .ref (ad o)), (1, .int (nI x)), (2, .int (nI y)), (3, .int v)] := hl
  obtain ⟨hN, ⟨ok1, ok2, ok3, ok4, ok5, ok6, ok7, ok8, ok9⟩, h0, ⟨s1, s2, s3⟩, ⟨e1, e2, e3⟩, h7, h8, ⟨TF, tr1, tr2, tr3, tr4, tr5⟩, ⟨TD, dv1, dv2, dv3⟩, ⟨TC, cv1, cv2, cv3⟩, hfr, hfi⟩ := id hcam
  refine lv_iload_n hx hb dX6_spoil_0 rfl (lv_at hl 1 rfl) ?_
  refine lv_iload_n hx hb dX6_spoil_1 rfl (lv_at hl 2 rfl) ?_
  refine iw_pv (va_runS (As := [.int (nI x), .int (nI y)]) (rest := []) ⟨hx, hb, hml, hown, hts⟩ (kX6_needPlace l (x) (y) (by omega) (by omega)) (va_cwS 2 hts gX6_spoil_X6_needPlace rfl rfl rfl (by decide +kernel) ⟨Nat.le_of_ble_eq_true rfl, Nat.le_of_ble_eq_true rfl⟩) ⟨fun a U g mk q => q, fun U hU hW => ⟨rfl, trivial⟩⟩ rfl rfl hl.1 rfl (lv_room (Nat.le_of_ble_eq_true rfl)) dX6_spoil_2 ⟨Nat.le_of_ble_eq_true rfl, Nat.le_of_ble_eq_true rfl⟩) hP hS (fun u8 H locs hw8 hP hS => ?_)
  refine lv_iload_n hx hb dX6_spoil_5 rfl (lv_at hl 3 rfl) ?_
  refine lv_iconst (v := nI 0) hx hb dX6_spoil_6 (by decide) ?_
  refine lv_iconst (v := nI 2) hx hb dX6_spoil_7 (by decide) ?_
  refine vx_callv (vx_runS (As := [.int v, .int (nI 0), .int (nI 2)]) (rest := []) ⟨hx, hb, hml, hown, hts⟩ (xX6_needRange l hst (v) (nI 0) (nI 2) h _) (va_cwS 3 hts gX6_spoil_X6_needRange rfl rfl rfl (by decide +kernel) ⟨Nat.le_of_ble_eq_true rfl, Nat.le_of_ble_eq_true rfl⟩) (xPS hV hZ hS hA [.int v, .int (nI 0), .int (nI 2)]) rfl rfl hl.1 rfl (lv_room (Nat.le_of_ble_eq_true rfl)) dX6_spoil_8 ⟨Nat.le_of_ble_eq_true rfl, Nat.le_of_ble_eq_true rfl⟩) hS (fun q h1 h2 => absurd h1 (Nat.not_lt.mpr h2)) (fun q h => hA q (Nat.le_trans hS.1 h)) (fun q h1 h2 => absurd h1 (Nat.not_lt.mpr h2)) (fun E ce q9 u t H1 locs1 ht hvm hpx hBX hz1 hk1 hS hcell hv9 hcl => ?_) (fun u t H1 locs1 ht hvm hw => hw.elim)
  have hBX : E = _ := hBX
  subst hBX
  exact vx_out (fun x h => (hnt x h).elim) hlocks hcell hv9 hcl (fun t9 ht9 hvm9 => ⟨(), trivial, rfl, hS.F ht9⟩) hS.2.2 (Nat.le_of_ble_eq_true rfl) (Nat.le_of_ble_eq_true rfl)
abbrev rxX6_map : Room := { frames := 7, cells := 1, slots := 6, locals := 112 }
set_option maxHeartbeats 4000000 in
set_option maxRecDepth 100000 in
theorem xX6_map_1 (l : Launch) (hst : l.stackTraces = false) (G : iG) (N : Nat) (ad : Nat → Nat) (C : Nat → va_E) (o : Nat) (S : St) (hcam : Cam G N ad C o S) (x y b1 : Int32) (h : isPl x y = false) (sz : Nat) : vx_Met l yX6_map wsX6_map rxX6_map (iPreX G N ad C sz [.ref (ad o), .int x, .int y, .int b1]) (va_Qi (fun (_ : Int32) (_ : Unit) => False) (fun _ _ => True) (fun q => sz ≤ q)) (xE "java/lang/IndexOutOfBoundsException" sz) 1 6 (fun q => sz ≤ q) := by
  refine vx_ofW (cc := cX6_map) (maxL := 4) (ret := (some .int)) (by decide) rfl ?_
  intro p e s m args below meth c s₁ B hml hnt hv
  obtain ⟨rfl, ⟨⟨hsz, hP, hK, hD⟩, hV⟩, hZ⟩ := hv
  have hx := B.exec
  have hb := B.bytes
  have hr := B.returns
  have hts := atoms_spec (ws := wsX6_map) B.pre
  have hown : s.vm.findClass RX6 = some m.cls := findClass_of_methodNamed B.named
  have hlocks := B.notSynchronized
  subst hsz
  have hS : va_S (fun q : Nat => s.heap.size ≤ q) s.heap s.heap [] := va_S.rf
  have hA : ∀ q : Nat, s.heap.size ≤ q → (fun q : Nat => s.heap.size ≤ q) q := fun q h => h
  have hP : va_P G.1 vwB (wl N ad C) s.heap := hP
  have hl := lv_entry ([.ref (ad o), .int x, .int y, .int b1]) (n := 4) (Nat.le_of_ble_eq_true rfl)
  rw [lg_entry_eq]
  generalize (lg_sl ([.ref (ad o), .int x, .int y, .int b1]) ++ List.replicate (4 - (lg_sl ([.ref (ad o), .int x, .int y, .int b1])).length) Slot.unset).toArray = ls at hl ⊢
  have hl : lv_has ls 4 [(0, .ref (ad o)), (1, .int x), (2, .int y), (3, .int b1)] := hl
  obtain ⟨hN, ⟨ok1, ok2, ok3, ok4, ok5, ok6, ok7, ok8, ok9⟩, h0, ⟨s1, s2, s3⟩, ⟨e1, e2, e3⟩, h7, h8, ⟨TF, tr1, tr2, tr3, tr4, tr5⟩, ⟨TD, dv1, dv2, dv3⟩, ⟨TC, cv1, cv2, cv3⟩, hfr, hfi⟩ := id hcam
  refine lv_iload_n hx hb dX6_map_0 rfl (lv_at hl 1 rfl) ?_
  refine lv_iload_n hx hb dX6_map_1 rfl (lv_at hl 2 rfl) ?_
  refine vx_callv (vx_runS (As := [.int x, .int y]) (rest := []) ⟨hx, hb, hml, hown, hts⟩ (xX6_needPlace l hst (x) (y) h _) (va_cwS 2 hts gX6_map_X6_needPlace rfl rfl rfl (by decide +kernel) ⟨Nat.le_of_ble_eq_true rfl, Nat.le_of_ble_eq_true rfl⟩) (xPS hV hZ hS hA [.int x, .int y]) rfl rfl hl.1 rfl (lv_room (Nat.le_of_ble_eq_true rfl)) dX6_map_2 ⟨Nat.le_of_ble_eq_true rfl, Nat.le_of_ble_eq_true rfl⟩) hS (fun q h1 h2 => absurd h1 (Nat.not_lt.mpr h2)) (fun q h => hA q (Nat.le_trans hS.1 h)) (fun q h1 h2 => absurd h1 (Nat.not_lt.mpr h2)) (fun E ce q9 u t H1 locs1 ht hvm hpx hBX hz1 hk1 hS hcell hv9 hcl => ?_) (fun u t H1 locs1 ht hvm hw => hw.elim)
  have hBX : E = _ := hBX
  subst hBX
  exact vx_out (fun x h => (hnt x h).elim) hlocks hcell hv9 hcl (fun t9 ht9 hvm9 => ⟨(), trivial, rfl, hS.F ht9⟩) hS.2.2 (Nat.le_of_ble_eq_true rfl) (Nat.le_of_ble_eq_true rfl)
abbrev rxX6_take : Room := { frames := 8, cells := 1, slots := 6, locals := 133 }
set_option maxHeartbeats 4000000 in
set_option maxRecDepth 100000 in
theorem xX6_take_1 (l : Launch) (hst : l.stackTraces = false) (G : iG) (N : Nat) (ad : Nat → Nat) (C : Nat → va_E) (o : Nat) (S : St) (hcam : Cam G N ad C o S) (t1 g1 : Int32) (h : t1 < nI 1 ∨ nI 64 < t1) (sz : Nat) : vx_Met l yX6_take wsX6_take rxX6_take (iPreX G N ad C sz [.ref (ad o), .int t1, .int g1]) (va_Qi (fun (_ : Int32) (_ : Unit) => False) (fun _ _ => True) (fun q => sz ≤ q)) (xE "java/lang/IllegalArgumentException" sz) 1 6 (fun q => sz ≤ q) := by
  refine vx_ofW (cc := cX6_take) (maxL := 4) (ret := (some .int)) (by decide) rfl ?_
  intro p e s m args below meth c s₁ B hml hnt hv
  obtain ⟨rfl, ⟨⟨hsz, hP, hK, hD⟩, hV⟩, hZ⟩ := hv
  have hx := B.exec
  have hb := B.bytes
  have hr := B.returns
  have hts := atoms_spec (ws := wsX6_take) B.pre
  have hown : s.vm.findClass RX6 = some m.cls := findClass_of_methodNamed B.named
  have hlocks := B.notSynchronized
  subst hsz
  have hS : va_S (fun q : Nat => s.heap.size ≤ q) s.heap s.heap [] := va_S.rf
  have hA : ∀ q : Nat, s.heap.size ≤ q → (fun q : Nat => s.heap.size ≤ q) q := fun q h => h
  have hP : va_P G.1 vwB (wl N ad C) s.heap := hP
  have hl := lv_entry ([.ref (ad o), .int t1, .int g1]) (n := 4) (Nat.le_of_ble_eq_true rfl)
  rw [lg_entry_eq]
  generalize (lg_sl ([.ref (ad o), .int t1, .int g1]) ++ List.replicate (4 - (lg_sl ([.ref (ad o), .int t1, .int g1])).length) Slot.unset).toArray = ls at hl ⊢
  have hl : lv_has ls 4 [(0, .ref (ad o)), (1, .int t1), (2, .int g1)] := hl
  obtain ⟨hN, ⟨ok1, ok2, ok3, ok4, ok5, ok6, ok7, ok8, ok9⟩, h0, ⟨s1, s2, s3⟩, ⟨e1, e2, e3⟩, h7, h8, ⟨TF, tr1, tr2, tr3, tr4, tr5⟩, ⟨TD, dv1, dv2, dv3⟩, ⟨TC, cv1, cv2, cv3⟩, hfr, hfi⟩ := id hcam
  refine lv_iload_n hx hb dX6_take_0 rfl (lv_at hl 1 rfl) ?_
  refine lv_iload_n hx hb dX6_take_1 rfl (lv_at hl 2 rfl) ?_
  refine vx_callv (vx_runS (As := [.int t1, .int g1]) (rest := []) ⟨hx, hb, hml, hown, hts⟩ (xX6_needExposure_1 l hst t1 g1 h _) (va_cwS 2 hts gX6_take_X6_needExposure rfl rfl rfl (by decide +kernel) ⟨Nat.le_of_ble_eq_true rfl, Nat.le_of_ble_eq_true rfl⟩) (xPS hV hZ hS hA [.int t1, .int g1]) rfl rfl hl.1 rfl (lv_room (Nat.le_of_ble_eq_true rfl)) dX6_take_2 ⟨Nat.le_of_ble_eq_true rfl, Nat.le_of_ble_eq_true rfl⟩) hS (fun q h1 h2 => absurd h1 (Nat.not_lt.mpr h2)) (fun q h => hA q (Nat.le_trans hS.1 h)) (fun q h1 h2 => absurd h1 (Nat.not_lt.mpr h2)) (fun E ce q9 u t H1 locs1 ht hvm hpx hBX hz1 hk1 hS hcell hv9 hcl => ?_) (fun u t H1 locs1 ht hvm hw => hw.elim)
  have hBX : E = _ := hBX
  subst hBX
  exact vx_out (fun x h => (hnt x h).elim) hlocks hcell hv9 hcl (fun t9 ht9 hvm9 => ⟨(), trivial, rfl, hS.F ht9⟩) hS.2.2 (Nat.le_of_ble_eq_true rfl) (Nat.le_of_ble_eq_true rfl)
set_option maxHeartbeats 4000000 in
set_option maxRecDepth 100000 in
theorem xX6_take_2 (l : Launch) (hst : l.stackTraces = false) (G : iG) (N : Nat) (ad : Nat → Nat) (C : Nat → va_E) (o : Nat) (S : St) (hcam : Cam G N ad C o S) (t1 : Nat) (ht : 0 < t1 ∧ t1 < 65) (g1 : Int32) (h : g1 < nI 1 ∨ nI 8 < g1) (sz : Nat) : vx_Met l yX6_take wsX6_take rxX6_take (iPreX G N ad C sz [.ref (ad o), .int (nI t1), .int g1]) (va_Qi (fun (_ : Int32) (_ : Unit) => False) (fun _ _ => True) (fun q => sz ≤ q)) (xE "java/lang/IllegalArgumentException" sz) 1 6 (fun q => sz ≤ q) := by
  refine vx_ofW (cc := cX6_take) (maxL := 4) (ret := (some .int)) (by decide) rfl ?_
  intro p e s m args below meth c s₁ B hml hnt hv
  obtain ⟨rfl, ⟨⟨hsz, hP, hK, hD⟩, hV⟩, hZ⟩ := hv
  have hx := B.exec
  have hb := B.bytes
  have hr := B.returns
  have hts := atoms_spec (ws := wsX6_take) B.pre
  have hown : s.vm.findClass RX6 = some m.cls := findClass_of_methodNamed B.named
  have hlocks := B.notSynchronized
  subst hsz
  have hS : va_S (fun q : Nat => s.heap.size ≤ q) s.heap s.heap [] := va_S.rf
  have hA : ∀ q : Nat, s.heap.size ≤ q → (fun q : Nat => s.heap.size ≤ q) q := fun q h => h
  have hP : va_P G.1 vwB (wl N ad C) s.heap := hP
  have hl := lv_entry ([.ref (ad o), .int (nI t1), .int g1]) (n := 4) (Nat.le_of_ble_eq_true rfl)
  rw [lg_entry_eq]
  generalize (lg_sl ([.ref (ad o), .int (nI t1), .int g1]) ++ List.replicate (4 - (lg_sl ([.ref (ad o), .int (nI t1), .int g1])).length) Slot.unset).toArray = ls at hl ⊢
  have hl : lv_has ls 4 [(0, .ref (ad o)), (1, .int (nI t1)), (2, .int g1)] := hl
  obtain ⟨hN, ⟨ok1, ok2, ok3, ok4, ok5, ok6, ok7, ok8, ok9⟩, h0, ⟨s1, s2, s3⟩, ⟨e1, e2, e3⟩, h7, h8, ⟨TF, tr1, tr2, tr3, tr4, tr5⟩, ⟨TD, dv1, dv2, dv3⟩, ⟨TC, cv1, cv2, cv3⟩, hfr, hfi⟩ := id hcam
  refine lv_iload_n hx hb dX6_take_0 rfl (lv_at hl 1 rfl) ?_
  refine lv_iload_n hx hb dX6_take_1 rfl (lv_at hl 2 rfl) ?_
  refine vx_callv (vx_runS (As := [.int (nI t1), .int g1]) (rest := []) ⟨hx, hb, hml, hown, hts⟩ (xX6_needExposure_2 l hst t1 ht g1 h _) (va_cwS 2 hts gX6_take_X6_needExposure rfl rfl rfl (by decide +kernel) ⟨Nat.le_of_ble_eq_true rfl, Nat.le_of_ble_eq_true rfl⟩) (xPS hV hZ hS hA [.int (nI t1), .int g1]) rfl rfl hl.1 rfl (lv_room (Nat.le_of_ble_eq_true rfl)) dX6_take_2 ⟨Nat.le_of_ble_eq_true rfl, Nat.le_of_ble_eq_true rfl⟩) hS (fun q h1 h2 => absurd h1 (Nat.not_lt.mpr h2)) (fun q h => hA q (Nat.le_trans hS.1 h)) (fun q h1 h2 => absurd h1 (Nat.not_lt.mpr h2)) (fun E ce q9 u t H1 locs1 ht hvm hpx hBX hz1 hk1 hS hcell hv9 hcl => ?_) (fun u t H1 locs1 ht hvm hw => hw.elim)
  have hBX : E = _ := hBX
  subst hBX
  exact vx_out (fun x h => (hnt x h).elim) hlocks hcell hv9 hcl (fun t9 ht9 hvm9 => ⟨(), trivial, rfl, hS.F ht9⟩) hS.2.2 (Nat.le_of_ble_eq_true rfl) (Nat.le_of_ble_eq_true rfl)
abbrev rxX6_wouldClip : Room := { frames := 8, cells := 1, slots := 6, locals := 133 }
set_option maxHeartbeats 4000000 in
set_option maxRecDepth 100000 in
theorem xX6_wouldClip_1 (l : Launch) (hst : l.stackTraces = false) (G : iG) (N : Nat) (ad : Nat → Nat) (C : Nat → va_E) (o : Nat) (S : St) (hcam : Cam G N ad C o S) (t1 g1 : Int32) (h : t1 < nI 1 ∨ nI 64 < t1) (sz : Nat) : vx_Met l yX6_wouldClip wsX6_wouldClip rxX6_wouldClip (iPreX G N ad C sz [.ref (ad o), .int t1, .int g1]) (va_Qi (fun (_ : Int32) (_ : Unit) => False) (fun _ _ => True) (fun q => sz ≤ q)) (xE "java/lang/IllegalArgumentException" sz) 1 6 (fun q => sz ≤ q) := by
  refine vx_ofW (cc := cX6_wouldClip) (maxL := 3) (ret := (some .int)) (by decide) rfl ?_
  intro p e s m args below meth c s₁ B hml hnt hv
  obtain ⟨rfl, ⟨⟨hsz, hP, hK, hD⟩, hV⟩, hZ⟩ := hv
  have hx := B.exec
  have hb := B.bytes
  have hr := B.returns
  have hts := atoms_spec (ws := wsX6_wouldClip) B.pre
  have hown : s.vm.findClass RX6 = some m.cls := findClass_of_methodNamed B.named
  have hlocks := B.notSynchronized
  subst hsz
  have hS : va_S (fun q : Nat => s.heap.size ≤ q) s.heap s.heap [] := va_S.rf
  have hA : ∀ q : Nat, s.heap.size ≤ q → (fun q : Nat => s.heap.size ≤ q) q := fun q h => h
  have hP : va_P G.1 vwB (wl N ad C) s.heap := hP
  have hl := lv_entry ([.ref (ad o), .int t1, .int g1]) (n := 3) (Nat.le_of_ble_eq_true rfl)
  rw [lg_entry_eq]
  generalize (lg_sl ([.ref (ad o), .int t1, .int g1]) ++ List.replicate (3 - (lg_sl ([.ref (ad o), .int t1, .int g1])).length) Slot.unset).toArray = ls at hl ⊢
  have hl : lv_has ls 3 [(0, .ref (ad o)), (1, .int t1), (2, .int g1)] := hl
  obtain ⟨hN, ⟨ok1, ok2, ok3, ok4, ok5, ok6, ok7, ok8, ok9⟩, h0, ⟨s1, s2, s3⟩, ⟨e1, e2, e3⟩, h7, h8, ⟨TF, tr1, tr2, tr3, tr4, tr5⟩, ⟨TD, dv1, dv2, dv3⟩, ⟨TC, cv1, cv2, cv3⟩, hfr, hfi⟩ := id hcam
  refine lv_iload_n hx hb dX6_wouldClip_0 rfl (lv_at hl 1 rfl) ?_
  refine lv_iload_n hx hb dX6_wouldClip_1 rfl (lv_at hl 2 rfl) ?_
  refine vx_callv (vx_runS (As := [.int t1, .int g1]) (rest := []) ⟨hx, hb, hml, hown, hts⟩ (xX6_needExposure_1 l hst t1 g1 h _) (va_cwS 2 hts gX6_wouldClip_X6_needExposure rfl rfl rfl (by decide +kernel) ⟨Nat.le_of_ble_eq_true rfl, Nat.le_of_ble_eq_true rfl⟩) (xPS hV hZ hS hA [.int t1, .int g1]) rfl rfl hl.1 rfl (lv_room (Nat.le_of_ble_eq_true rfl)) dX6_wouldClip_2 ⟨Nat.le_of_ble_eq_true rfl, Nat.le_of_ble_eq_true rfl⟩) hS (fun q h1 h2 => absurd h1 (Nat.not_lt.mpr h2)) (fun q h => hA q (Nat.le_trans hS.1 h)) (fun q h1 h2 => absurd h1 (Nat.not_lt.mpr h2)) (fun E ce q9 u t H1 locs1 ht hvm hpx hBX hz1 hk1 hS hcell hv9 hcl => ?_) (fun u t H1 locs1 ht hvm hw => hw.elim)
  have hBX : E = _ := hBX
  subst hBX
  exact vx_out (fun x h => (hnt x h).elim) hlocks hcell hv9 hcl (fun t9 ht9 hvm9 => ⟨(), trivial, rfl, hS.F ht9⟩) hS.2.2 (Nat.le_of_ble_eq_true rfl) (Nat.le_of_ble_eq_true rfl)
set_option maxHeartbeats 4000000 in
set_option maxRecDepth 100000 in
theorem xX6_wouldClip_2 (l : Launch) (hst : l.stackTraces = false) (G : iG) (N : Nat) (ad : Nat → Nat) (C : Nat → va_E) (o : Nat) (S : St) (hcam : Cam G N ad C o S) (t1 : Nat) (ht : 0 < t1 ∧ t1 < 65) (g1 : Int32) (h : g1 < nI 1 ∨ nI 8 < g1) (sz : Nat) : vx_Met l yX6_wouldClip wsX6_wouldClip rxX6_wouldClip (iPreX G N ad C sz [.ref (ad o), .int (nI t1), .int g1]) (va_Qi (fun (_ : Int32) (_ : Unit) => False) (fun _ _ => True) (fun q => sz ≤ q)) (xE "java/lang/IllegalArgumentException" sz) 1 6 (fun q => sz ≤ q) := by
  refine vx_ofW (cc := cX6_wouldClip) (maxL := 3) (ret := (some .int)) (by decide) rfl ?_
  intro p e s m args below meth c s₁ B hml hnt hv
  obtain ⟨rfl, ⟨⟨hsz, hP, hK, hD⟩, hV⟩, hZ⟩ := hv
  have hx := B.exec
  have hb := B.bytes
  have hr := B.returns
  have hts := atoms_spec (ws := wsX6_wouldClip) B.pre
  have hown : s.vm.findClass RX6 = some m.cls := findClass_of_methodNamed B.named
  have hlocks := B.notSynchronized
  subst hsz
  have hS : va_S (fun q : Nat => s.heap.size ≤ q) s.heap s.heap [] := va_S.rf
  have hA : ∀ q : Nat, s.heap.size ≤ q → (fun q : Nat => s.heap.size ≤ q) q := fun q h => h
  have hP : va_P G.1 vwB (wl N ad C) s.heap := hP
  have hl := lv_entry ([.ref (ad o), .int (nI t1), .int g1]) (n := 3) (Nat.le_of_ble_eq_true rfl)
  rw [lg_entry_eq]
  generalize (lg_sl ([.ref (ad o), .int (nI t1), .int g1]) ++ List.replicate (3 - (lg_sl ([.ref (ad o), .int (nI t1), .int g1])).length) Slot.unset).toArray = ls at hl ⊢
  have hl : lv_has ls 3 [(0, .ref (ad o)), (1, .int (nI t1)), (2, .int g1)] := hl
  obtain ⟨hN, ⟨ok1, ok2, ok3, ok4, ok5, ok6, ok7, ok8, ok9⟩, h0, ⟨s1, s2, s3⟩, ⟨e1, e2, e3⟩, h7, h8, ⟨TF, tr1, tr2, tr3, tr4, tr5⟩, ⟨TD, dv1, dv2, dv3⟩, ⟨TC, cv1, cv2, cv3⟩, hfr, hfi⟩ := id hcam
  refine lv_iload_n hx hb dX6_wouldClip_0 rfl (lv_at hl 1 rfl) ?_
  refine lv_iload_n hx hb dX6_wouldClip_1 rfl (lv_at hl 2 rfl) ?_
  refine vx_callv (vx_runS (As := [.int (nI t1), .int g1]) (rest := []) ⟨hx, hb, hml, hown, hts⟩ (xX6_needExposure_2 l hst t1 ht g1 h _) (va_cwS 2 hts gX6_wouldClip_X6_needExposure rfl rfl rfl (by decide +kernel) ⟨Nat.le_of_ble_eq_true rfl, Nat.le_of_ble_eq_true rfl⟩) (xPS hV hZ hS hA [.int (nI t1), .int g1]) rfl rfl hl.1 rfl (lv_room (Nat.le_of_ble_eq_true rfl)) dX6_wouldClip_2 ⟨Nat.le_of_ble_eq_true rfl, Nat.le_of_ble_eq_true rfl⟩) hS (fun q h1 h2 => absurd h1 (Nat.not_lt.mpr h2)) (fun q h => hA q (Nat.le_trans hS.1 h)) (fun q h1 h2 => absurd h1 (Nat.not_lt.mpr h2)) (fun E ce q9 u t H1 locs1 ht hvm hpx hBX hz1 hk1 hS hcell hv9 hcl => ?_) (fun u t H1 locs1 ht hvm hw => hw.elim)
  have hBX : E = _ := hBX
  subst hBX
  exact vx_out (fun x h => (hnt x h).elim) hlocks hcell hv9 hcl (fun t9 ht9 hvm9 => ⟨(), trivial, rfl, hS.F ht9⟩) hS.2.2 (Nat.le_of_ble_eq_true rfl) (Nat.le_of_ble_eq_true rfl)
abbrev rxX6_edit : Room := { frames := 7, cells := 1, slots := 6, locals := 111 }
set_option maxHeartbeats 4000000 in
set_option maxRecDepth 100000 in
theorem xX6_edit_1 (l : Launch) (hst : l.stackTraces = false) (G : iG) (N : Nat) (ad : Nat → Nat) (C : Nat → va_E) (o : Nat) (S : St) (hcam : Cam G N ad C o S) (k y0 y1 : Int32) (h : k < 0 ∨ nI (sFn S) ≤ k) (sz : Nat) : vx_Met l yX6_edit wsX6_edit rxX6_edit (iPreX G N ad C sz [.ref (ad o), .int k, .int y0, .int y1]) (va_Qi (fun (_ : Int32) (_ : Unit) => False) (fun _ _ => True) (fun q => sz ≤ q)) (xE "java/lang/IndexOutOfBoundsException" sz) 1 6 (fun q => sz ≤ q) := by
  refine vx_ofW (cc := cX6_edit) (maxL := 5) (ret := (some .int)) (by decide) rfl ?_
  intro p e s m args below meth c s₁ B hml hnt hv
  obtain ⟨rfl, ⟨⟨hsz, hP, hK, hD⟩, hV⟩, hZ⟩ := hv
  have hx := B.exec
  have hb := B.bytes
  have hr := B.returns
  have hts := atoms_spec (ws := wsX6_edit) B.pre
  have hown : s.vm.findClass RX6 = some m.cls := findClass_of_methodNamed B.named
  have hlocks := B.notSynchronized
  subst hsz
  have hS : va_S (fun q : Nat => s.heap.size ≤ q) s.heap s.heap [] := va_S.rf
  have hA : ∀ q : Nat, s.heap.size ≤ q → (fun q : Nat => s.heap.size ≤ q) q := fun q h => h
  have hP : va_P G.1 vwB (wl N ad C) s.heap := hP
  have hl := lv_entry ([.ref (ad o), .int k, .int y0, .int y1]) (n := 5) (Nat.le_of_ble_eq_true rfl)
  rw [lg_entry_eq]
  generalize (lg_sl ([.ref (ad o), .int k, .int y0, .int y1]) ++ List.replicate (5 - (lg_sl ([.ref (ad o), .int k, .int y0, .int y1])).length) Slot.unset).toArray = ls at hl ⊢
  have hl : lv_has ls 5 [(0, .ref (ad o)), (1, .int k), (2, .int y0), (3, .int y1)] := hl
  obtain ⟨hN, ⟨ok1, ok2, ok3, ok4, ok5, ok6, ok7, ok8, ok9⟩, h0, ⟨s1, s2, s3⟩, ⟨e1, e2, e3⟩, h7, h8, ⟨TF, tr1, tr2, tr3, tr4, tr5⟩, ⟨TD, dv1, dv2, dv3⟩, ⟨TC, cv1, cv2, cv3⟩, hfr, hfi⟩ := id hcam
  refine lv_aload_n hx hb dX6_edit_0 rfl (lv_at hl 0 rfl) ?_
  refine lv_iload_n hx hb dX6_edit_1 rfl (lv_at hl 1 rfl) ?_
  refine vx_callv (vx_runV (As := [.int k]) (rest := []) ⟨hx, hb, hml, hown, hts⟩ (xX6_needFrame l hst G N ad C o S hcam k h _) (cwV 1 hts gX6_edit_X6_needFrame rfl rfl rfl (by decide +kernel) ⟨Nat.le_of_ble_eq_true rfl, Nat.le_of_ble_eq_true rfl⟩) (xPV hK hV hZ hS hA hP hD (by omega) (h0) rfl [.int k]) rfl rfl hl.1 rfl (lv_room (Nat.le_of_ble_eq_true rfl)) dX6_edit_2 ⟨Nat.le_of_ble_eq_true rfl, Nat.le_of_ble_eq_true rfl⟩) hS (fun q h1 h2 => absurd h1 (Nat.not_lt.mpr h2)) (fun q h => hA q (Nat.le_trans hS.1 h)) (fun q h1 h2 => absurd h1 (Nat.not_lt.mpr h2)) (fun E ce q9 u t H1 locs1 ht hvm hpx hBX hz1 hk1 hS hcell hv9 hcl => ?_) (fun u t H1 locs1 ht hvm hw => hw.elim)
  have hBX : E = _ := hBX
  subst hBX
  exact vx_out (fun x h => (hnt x h).elim) hlocks hcell hv9 hcl (fun t9 ht9 hvm9 => ⟨(), trivial, rfl, hS.F ht9⟩) hS.2.2 (Nat.le_of_ble_eq_true rfl) (Nat.le_of_ble_eq_true rfl)
abbrev rxX6_undo : Room := { frames := 7, cells := 1, slots := 6, locals := 111 }
set_option maxHeartbeats 4000000 in
set_option maxRecDepth 100000 in
theorem xX6_undo_1 (l : Launch) (hst : l.stackTraces = false) (G : iG) (N : Nat) (ad : Nat → Nat) (C : Nat → va_E) (o : Nat) (S : St) (hcam : Cam G N ad C o S) (k : Int32) (h : k < 0 ∨ nI (sFn S) ≤ k) (sz : Nat) : vx_Met l yX6_undo wsX6_undo rxX6_undo (iPreX G N ad C sz [.ref (ad o), .int k]) (va_Qi (fun (_ : Int32) (_ : Unit) => False) (fun _ _ => True) (fun q => sz ≤ q)) (xE "java/lang/IndexOutOfBoundsException" sz) 1 6 (fun q => sz ≤ q) := by
  refine vx_ofW (cc := cX6_undo) (maxL := 2) (ret := (some .int)) (by decide) rfl ?_
  intro p e s m args below meth c s₁ B hml hnt hv
  obtain ⟨rfl, ⟨⟨hsz, hP, hK, hD⟩, hV⟩, hZ⟩ := hv
  have hx := B.exec
  have hb := B.bytes
  have hr := B.returns
  have hts := atoms_spec (ws := wsX6_undo) B.pre
  have hown : s.vm.findClass RX6 = some m.cls := findClass_of_methodNamed B.named
  have hlocks := B.notSynchronized
  subst hsz
  have hS : va_S (fun q : Nat => s.heap.size ≤ q) s.heap s.heap [] := va_S.rf
  have hA : ∀ q : Nat, s.heap.size ≤ q → (fun q : Nat => s.heap.size ≤ q) q := fun q h => h
  have hP : va_P G.1 vwB (wl N ad C) s.heap := hP
  have hl := lv_entry ([.ref (ad o), .int k]) (n := 2) (Nat.le_of_ble_eq_true rfl)
  rw [lg_entry_eq]
  generalize (lg_sl ([.ref (ad o), .int k]) ++ List.replicate (2 - (lg_sl ([.ref (ad o), .int k])).length) Slot.unset).toArray = ls at hl ⊢
  have hl : lv_has ls 2 [(0, .ref (ad o)), (1, .int k)] := hl
  obtain ⟨hN, ⟨ok1, ok2, ok3, ok4, ok5, ok6, ok7, ok8, ok9⟩, h0, ⟨s1, s2, s3⟩, ⟨e1, e2, e3⟩, h7, h8, ⟨TF, tr1, tr2, tr3, tr4, tr5⟩, ⟨TD, dv1, dv2, dv3⟩, ⟨TC, cv1, cv2, cv3⟩, hfr, hfi⟩ := id hcam
  refine lv_aload_n hx hb dX6_undo_0 rfl (lv_at hl 0 rfl) ?_
  refine lv_iload_n hx hb dX6_undo_1 rfl (lv_at hl 1 rfl) ?_
  refine vx_callv (vx_runV (As := [.int k]) (rest := []) ⟨hx, hb, hml, hown, hts⟩ (xX6_needFrame l hst G N ad C o S hcam k h _) (cwV 1 hts gX6_undo_X6_needFrame rfl rfl rfl (by decide +kernel) ⟨Nat.le_of_ble_eq_true rfl, Nat.le_of_ble_eq_true rfl⟩) (xPV hK hV hZ hS hA hP hD (by omega) (h0) rfl [.int k]) rfl rfl hl.1 rfl (lv_room (Nat.le_of_ble_eq_true rfl)) dX6_undo_2 ⟨Nat.le_of_ble_eq_true rfl, Nat.le_of_ble_eq_true rfl⟩) hS (fun q h1 h2 => absurd h1 (Nat.not_lt.mpr h2)) (fun q h => hA q (Nat.le_trans hS.1 h)) (fun q h1 h2 => absurd h1 (Nat.not_lt.mpr h2)) (fun E ce q9 u t H1 locs1 ht hvm hpx hBX hz1 hk1 hS hcell hv9 hcl => ?_) (fun u t H1 locs1 ht hvm hw => hw.elim)
  have hBX : E = _ := hBX
  subst hBX
  exact vx_out (fun x h => (hnt x h).elim) hlocks hcell hv9 hcl (fun t9 ht9 hvm9 => ⟨(), trivial, rfl, hS.F ht9⟩) hS.2.2 (Nat.le_of_ble_eq_true rfl) (Nat.le_of_ble_eq_true rfl)
abbrev rxX6_save : Room := { frames := 7, cells := 1, slots := 6, locals := 111 }
set_option maxHeartbeats 4000000 in
set_option maxRecDepth 100000 in
theorem xX6_save_1 (l : Launch) (hst : l.stackTraces = false) (G : iG) (N : Nat) (ad : Nat → Nat) (C : Nat → va_E) (o : Nat) (S : St) (hcam : Cam G N ad C o S) (k : Int32) (h : k < 0 ∨ nI (sFn S) ≤ k) (sz : Nat) : vx_Met l yX6_save wsX6_save rxX6_save (iPreX G N ad C sz [.ref (ad o), .int k]) (va_Qi (fun (_ : Int32) (_ : Unit) => False) (fun _ _ => True) (fun q => sz ≤ q)) (xE "java/lang/IndexOutOfBoundsException" sz) 1 6 (fun q => sz ≤ q) := by
  refine vx_ofW (cc := cX6_save) (maxL := 3) (ret := (some .int)) (by decide) rfl ?_
  intro p e s m args below meth c s₁ B hml hnt hv
  obtain ⟨rfl, ⟨⟨hsz, hP, hK, hD⟩, hV⟩, hZ⟩ := hv
  have hx := B.exec
  have hb := B.bytes
  have hr := B.returns
  have hts := atoms_spec (ws := wsX6_save) B.pre
  have hown : s.vm.findClass RX6 = some m.cls := findClass_of_methodNamed B.named
  have hlocks := B.notSynchronized
  subst hsz
  have hS : va_S (fun q : Nat => s.heap.size ≤ q) s.heap s.heap [] := va_S.rf
  have hA : ∀ q : Nat, s.heap.size ≤ q → (fun q : Nat => s.heap.size ≤ q) q := fun q h => h
  have hP : va_P G.1 vwB (wl N ad C) s.heap := hP
  have hl := lv_entry ([.ref (ad o), .int k]) (n := 3) (Nat.le_of_ble_eq_true rfl)
  rw [lg_entry_eq]
  generalize (lg_sl ([.ref (ad o), .int k]) ++ List.replicate (3 - (lg_sl ([.ref (ad o), .int k])).length) Slot.unset).toArray = ls at hl ⊢
  have hl : lv_has ls 3 [(0, .ref (ad o)), (1, .int k)] := hl
  obtain ⟨hN, ⟨ok1, ok2, ok3, ok4, ok5, ok6, ok7, ok8, ok9⟩, h0, ⟨s1, s2, s3⟩, ⟨e1, e2, e3⟩, h7, h8, ⟨TF, tr1, tr2, tr3, tr4, tr5⟩, ⟨TD, dv1, dv2, dv3⟩, ⟨TC, cv1, cv2, cv3⟩, hfr, hfi⟩ := id hcam
  refine lv_aload_n hx hb dX6_save_0 rfl (lv_at hl 0 rfl) ?_
  refine lv_iload_n hx hb dX6_save_1 rfl (lv_at hl 1 rfl) ?_
  refine vx_callv (vx_runV (As := [.int k]) (rest := []) ⟨hx, hb, hml, hown, hts⟩ (xX6_needFrame l hst G N ad C o S hcam k h _) (cwV 1 hts gX6_save_X6_needFrame rfl rfl rfl (by decide +kernel) ⟨Nat.le_of_ble_eq_true rfl, Nat.le_of_ble_eq_true rfl⟩) (xPV hK hV hZ hS hA hP hD (by omega) (h0) rfl [.int k]) rfl rfl hl.1 rfl (lv_room (Nat.le_of_ble_eq_true rfl)) dX6_save_2 ⟨Nat.le_of_ble_eq_true rfl, Nat.le_of_ble_eq_true rfl⟩) hS (fun q h1 h2 => absurd h1 (Nat.not_lt.mpr h2)) (fun q h => hA q (Nat.le_trans hS.1 h)) (fun q h1 h2 => absurd h1 (Nat.not_lt.mpr h2)) (fun E ce q9 u t H1 locs1 ht hvm hpx hBX hz1 hk1 hS hcell hv9 hcl => ?_) (fun u t H1 locs1 ht hvm hw => hw.elim)
  have hBX : E = _ := hBX
  subst hBX
  exact vx_out (fun x h => (hnt x h).elim) hlocks hcell hv9 hcl (fun t9 ht9 hvm9 => ⟨(), trivial, rfl, hS.F ht9⟩) hS.2.2 (Nat.le_of_ble_eq_true rfl) (Nat.le_of_ble_eq_true rfl)
abbrev rxX6_raw : Room := { frames := 7, cells := 1, slots := 6, locals := 111 }
set_option maxHeartbeats 4000000 in
set_option maxRecDepth 100000 in
theorem xX6_raw_1 (l : Launch) (hst : l.stackTraces = false) (G : iG) (N : Nat) (ad : Nat → Nat) (C : Nat → va_E) (o : Nat) (S : St) (hcam : Cam G N ad C o S) (k y0 y1 : Int32) (h : k < 0 ∨ nI (sFn S) ≤ k) (sz : Nat) : vx_Met l yX6_raw wsX6_raw rxX6_raw (iPreX G N ad C sz [.ref (ad o), .int k, .int y0, .int y1]) (va_Qi (fun (_ : Int32) (_ : Unit) => False) (fun _ _ => True) (fun q => sz ≤ q)) (xE "java/lang/IndexOutOfBoundsException" sz) 1 6 (fun q => sz ≤ q) := by
  refine vx_ofW (cc := cX6_raw) (maxL := 4) (ret := (some .int)) (by decide) rfl ?_
  intro p e s m args below meth c s₁ B hml hnt hv
  obtain ⟨rfl, ⟨⟨hsz, hP, hK, hD⟩, hV⟩, hZ⟩ := hv
  have hx := B.exec
  have hb := B.bytes
  have hr := B.returns
  have hts := atoms_spec (ws := wsX6_raw) B.pre
  have hown : s.vm.findClass RX6 = some m.cls := findClass_of_methodNamed B.named
  have hlocks := B.notSynchronized
  subst hsz
  have hS : va_S (fun q : Nat => s.heap.size ≤ q) s.heap s.heap [] := va_S.rf
  have hA : ∀ q : Nat, s.heap.size ≤ q → (fun q : Nat => s.heap.size ≤ q) q := fun q h => h
  have hP : va_P G.1 vwB (wl N ad C) s.heap := hP
  have hl := lv_entry ([.ref (ad o), .int k, .int y0, .int y1]) (n := 4) (Nat.le_of_ble_eq_true rfl)
  rw [lg_entry_eq]
  generalize (lg_sl ([.ref (ad o), .int k, .int y0, .int y1]) ++ List.replicate (4 - (lg_sl ([.ref (ad o), .int k, .int y0, .int y1])).length) Slot.unset).toArray = ls at hl ⊢
  have hl : lv_has ls 4 [(0, .ref (ad o)), (1, .int k), (2, .int y0), (3, .int y1)] := hl
  obtain ⟨hN, ⟨ok1, ok2, ok3, ok4, ok5, ok6, ok7, ok8, ok9⟩, h0, ⟨s1, s2, s3⟩, ⟨e1, e2, e3⟩, h7, h8, ⟨TF, tr1, tr2, tr3, tr4, tr5⟩, ⟨TD, dv1, dv2, dv3⟩, ⟨TC, cv1, cv2, cv3⟩, hfr, hfi⟩ := id hcam
  refine lv_aload_n hx hb dX6_raw_0 rfl (lv_at hl 0 rfl) ?_
  refine lv_iload_n hx hb dX6_raw_1 rfl (lv_at hl 1 rfl) ?_
  refine vx_callv (vx_runV (As := [.int k]) (rest := []) ⟨hx, hb, hml, hown, hts⟩ (xX6_needFrame l hst G N ad C o S hcam k h _) (cwV 1 hts gX6_raw_X6_needFrame rfl rfl rfl (by decide +kernel) ⟨Nat.le_of_ble_eq_true rfl, Nat.le_of_ble_eq_true rfl⟩) (xPV hK hV hZ hS hA hP hD (by omega) (h0) rfl [.int k]) rfl rfl hl.1 rfl (lv_room (Nat.le_of_ble_eq_true rfl)) dX6_raw_2 ⟨Nat.le_of_ble_eq_true rfl, Nat.le_of_ble_eq_true rfl⟩) hS (fun q h1 h2 => absurd h1 (Nat.not_lt.mpr h2)) (fun q h => hA q (Nat.le_trans hS.1 h)) (fun q h1 h2 => absurd h1 (Nat.not_lt.mpr h2)) (fun E ce q9 u t H1 locs1 ht hvm hpx hBX hz1 hk1 hS hcell hv9 hcl => ?_) (fun u t H1 locs1 ht hvm hw => hw.elim)
  have hBX : E = _ := hBX
  subst hBX
  exact vx_out (fun x h => (hnt x h).elim) hlocks hcell hv9 hcl (fun t9 ht9 hvm9 => ⟨(), trivial, rfl, hS.F ht9⟩) hS.2.2 (Nat.le_of_ble_eq_true rfl) (Nat.le_of_ble_eq_true rfl)
abbrev rxX6_picture : Room := { frames := 7, cells := 1, slots := 6, locals := 111 }
set_option maxHeartbeats 4000000 in
set_option maxRecDepth 100000 in
theorem xX6_picture_1 (l : Launch) (hst : l.stackTraces = false) (G : iG) (N : Nat) (ad : Nat → Nat) (C : Nat → va_E) (o : Nat) (S : St) (hcam : Cam G N ad C o S) (k y0 y1 y2 : Int32) (h : k < 0 ∨ nI (sFn S) ≤ k) (sz : Nat) : vx_Met l yX6_picture wsX6_picture rxX6_picture (iPreX G N ad C sz [.ref (ad o), .int k, .int y0, .int y1, .int y2]) (va_Qd (fun (_ : UInt64) (_ : Unit) => False) (fun _ _ => True) (fun q => sz ≤ q)) (xE "java/lang/IndexOutOfBoundsException" sz) 1 6 (fun q => sz ≤ q) := by
  refine vx_ofW (cc := cX6_picture) (maxL := 5) (ret := (some .double)) (by decide) rfl ?_
  intro p e s m args below meth c s₁ B hml hnt hv
  obtain ⟨rfl, ⟨⟨hsz, hP, hK, hD⟩, hV⟩, hZ⟩ := hv
  have hx := B.exec
  have hb := B.bytes
  have hr := B.returns
  have hts := atoms_spec (ws := wsX6_picture) B.pre
  have hown : s.vm.findClass RX6 = some m.cls := findClass_of_methodNamed B.named
  have hlocks := B.notSynchronized
  subst hsz
  have hS : va_S (fun q : Nat => s.heap.size ≤ q) s.heap s.heap [] := va_S.rf
  have hA : ∀ q : Nat, s.heap.size ≤ q → (fun q : Nat => s.heap.size ≤ q) q := fun q h => h
  have hP : va_P G.1 vwB (wl N ad C) s.heap := hP
  have hl := lv_entry ([.ref (ad o), .int k, .int y0, .int y1, .int y2]) (n := 5) (Nat.le_of_ble_eq_true rfl)
  rw [lg_entry_eq]
  generalize (lg_sl ([.ref (ad o), .int k, .int y0, .int y1, .int y2]) ++ List.replicate (5 - (lg_sl ([.ref (ad o), .int k, .int y0, .int y1, .int y2])).length) Slot.unset).toArray = ls at hl ⊢
  have hl : lv_has ls 5 [(0, .ref (ad o)), (1, .int k), (2, .int y0), (3, .int y1), (4, .int y2)] := hl
  obtain ⟨hN, ⟨ok1, ok2, ok3, ok4, ok5, ok6, ok7, ok8, ok9⟩, h0, ⟨s1, s2, s3⟩, ⟨e1, e2, e3⟩, h7, h8, ⟨TF, tr1, tr2, tr3, tr4, tr5⟩, ⟨TD, dv1, dv2, dv3⟩, ⟨TC, cv1, cv2, cv3⟩, hfr, hfi⟩ := id hcam
  refine lv_aload_n hx hb dX6_picture_0 rfl (lv_at hl 0 rfl) ?_
  refine lv_iload_n hx hb dX6_picture_1 rfl (lv_at hl 1 rfl) ?_
  refine vx_callv (vx_runV (As := [.int k]) (rest := []) ⟨hx, hb, hml, hown, hts⟩ (xX6_needFrame l hst G N ad C o S hcam k h _) (cwV 1 hts gX6_picture_X6_needFrame rfl rfl rfl (by decide +kernel) ⟨Nat.le_of_ble_eq_true rfl, Nat.le_of_ble_eq_true rfl⟩) (xPV hK hV hZ hS hA hP hD (by omega) (h0) rfl [.int k]) rfl rfl hl.1 rfl (lv_room (Nat.le_of_ble_eq_true rfl)) dX6_picture_2 ⟨Nat.le_of_ble_eq_true rfl, Nat.le_of_ble_eq_true rfl⟩) hS (fun q h1 h2 => absurd h1 (Nat.not_lt.mpr h2)) (fun q h => hA q (Nat.le_trans hS.1 h)) (fun q h1 h2 => absurd h1 (Nat.not_lt.mpr h2)) (fun E ce q9 u t H1 locs1 ht hvm hpx hBX hz1 hk1 hS hcell hv9 hcl => ?_) (fun u t H1 locs1 ht hvm hw => hw.elim)
  have hBX : E = _ := hBX
  subst hBX
  exact vx_out (fun x h => (hnt x h).elim) hlocks hcell hv9 hcl (fun t9 ht9 hvm9 => ⟨(), trivial, rfl, hS.F ht9⟩) hS.2.2 (Nat.le_of_ble_eq_true rfl) (Nat.le_of_ble_eq_true rfl)
abbrev rxX6_word : Room := { frames := 7, cells := 1, slots := 6, locals := 111 }
set_option maxHeartbeats 4000000 in
set_option maxRecDepth 100000 in
theorem xX6_word_1 (l : Launch) (hst : l.stackTraces = false) (G : iG) (N : Nat) (ad : Nat → Nat) (C : Nat → va_E) (o : Nat) (S : St) (hcam : Cam G N ad C o S) (k : Int32) (h : k < 0 ∨ nI (sFn S) ≤ k) (sz : Nat) : vx_Met l yX6_word wsX6_word rxX6_word (iPreX G N ad C sz [.ref (ad o), .int k]) (va_Qi (fun (_ : Int32) (_ : Unit) => False) (fun _ _ => True) (fun q => sz ≤ q)) (xE "java/lang/IndexOutOfBoundsException" sz) 1 6 (fun q => sz ≤ q) := by
  refine vx_ofW (cc := cX6_word) (maxL := 2) (ret := (some .int)) (by decide) rfl ?_
  intro p e s m args below meth c s₁ B hml hnt hv
  obtain ⟨rfl, ⟨⟨hsz, hP, hK, hD⟩, hV⟩, hZ⟩ := hv
  have hx := B.exec
  have hb := B.bytes
  have hr := B.returns
  have hts := atoms_spec (ws := wsX6_word) B.pre
  have hown : s.vm.findClass RX6 = some m.cls := findClass_of_methodNamed B.named
  have hlocks := B.notSynchronized
  subst hsz
  have hS : va_S (fun q : Nat => s.heap.size ≤ q) s.heap s.heap [] := va_S.rf
  have hA : ∀ q : Nat, s.heap.size ≤ q → (fun q : Nat => s.heap.size ≤ q) q := fun q h => h
  have hP : va_P G.1 vwB (wl N ad C) s.heap := hP
  have hl := lv_entry ([.ref (ad o), .int k]) (n := 2) (Nat.le_of_ble_eq_true rfl)
  rw [lg_entry_eq]
  generalize (lg_sl ([.ref (ad o), .int k]) ++ List.replicate (2 - (lg_sl ([.ref (ad o), .int k])).length) Slot.unset).toArray = ls at hl ⊢
  have hl : lv_has ls 2 [(0, .ref (ad o)), (1, .int k)] := hl
  obtain ⟨hN, ⟨ok1, ok2, ok3, ok4, ok5, ok6, ok7, ok8, ok9⟩, h0, ⟨s1, s2, s3⟩, ⟨e1, e2, e3⟩, h7, h8, ⟨TF, tr1, tr2, tr3, tr4, tr5⟩, ⟨TD, dv1, dv2, dv3⟩, ⟨TC, cv1, cv2, cv3⟩, hfr, hfi⟩ := id hcam
  refine lv_aload_n hx hb dX6_word_0 rfl (lv_at hl 0 rfl) ?_
  refine lv_iload_n hx hb dX6_word_1 rfl (lv_at hl 1 rfl) ?_
  refine vx_callv (vx_runV (As := [.int k]) (rest := []) ⟨hx, hb, hml, hown, hts⟩ (xX6_needFrame l hst G N ad C o S hcam k h _) (cwV 1 hts gX6_word_X6_needFrame rfl rfl rfl (by decide +kernel) ⟨Nat.le_of_ble_eq_true rfl, Nat.le_of_ble_eq_true rfl⟩) (xPV hK hV hZ hS hA hP hD (by omega) (h0) rfl [.int k]) rfl rfl hl.1 rfl (lv_room (Nat.le_of_ble_eq_true rfl)) dX6_word_2 ⟨Nat.le_of_ble_eq_true rfl, Nat.le_of_ble_eq_true rfl⟩) hS (fun q h1 h2 => absurd h1 (Nat.not_lt.mpr h2)) (fun q h => hA q (Nat.le_trans hS.1 h)) (fun q h1 h2 => absurd h1 (Nat.not_lt.mpr h2)) (fun E ce q9 u t H1 locs1 ht hvm hpx hBX hz1 hk1 hS hcell hv9 hcl => ?_) (fun u t H1 locs1 ht hvm hw => hw.elim)
  have hBX : E = _ := hBX
  subst hBX
  exact vx_out (fun x h => (hnt x h).elim) hlocks hcell hv9 hcl (fun t9 ht9 hvm9 => ⟨(), trivial, rfl, hS.F ht9⟩) hS.2.2 (Nat.le_of_ble_eq_true rfl) (Nat.le_of_ble_eq_true rfl)
abbrev rxX6_ofFrame : Room := { frames := 7, cells := 1, slots := 6, locals := 111 }
set_option maxHeartbeats 4000000 in
set_option maxRecDepth 100000 in
theorem xX6_ofFrame_1 (l : Launch) (hst : l.stackTraces = false) (G : iG) (N : Nat) (ad : Nat → Nat) (C : Nat → va_E) (o : Nat) (S : St) (hcam : Cam G N ad C o S) (k y0 : Int32) (h : k < 0 ∨ nI (sFn S) ≤ k) (sz : Nat) : vx_Met l yX6_ofFrame wsX6_ofFrame rxX6_ofFrame (iPreX G N ad C sz [.ref (ad o), .int k, .int y0]) (va_Qi (fun (_ : Int32) (_ : Unit) => False) (fun _ _ => True) (fun q => sz ≤ q)) (xE "java/lang/IndexOutOfBoundsException" sz) 1 6 (fun q => sz ≤ q) := by
  refine vx_ofW (cc := cX6_ofFrame) (maxL := 4) (ret := (some .int)) (by decide) rfl ?_
  intro p e s m args below meth c s₁ B hml hnt hv
  obtain ⟨rfl, ⟨⟨hsz, hP, hK, hD⟩, hV⟩, hZ⟩ := hv
  have hx := B.exec
  have hb := B.bytes
  have hr := B.returns
  have hts := atoms_spec (ws := wsX6_ofFrame) B.pre
  have hown : s.vm.findClass RX6 = some m.cls := findClass_of_methodNamed B.named
  have hlocks := B.notSynchronized
  subst hsz
  have hS : va_S (fun q : Nat => s.heap.size ≤ q) s.heap s.heap [] := va_S.rf
  have hA : ∀ q : Nat, s.heap.size ≤ q → (fun q : Nat => s.heap.size ≤ q) q := fun q h => h
  have hP : va_P G.1 vwB (wl N ad C) s.heap := hP
  have hl := lv_entry ([.ref (ad o), .int k, .int y0]) (n := 4) (Nat.le_of_ble_eq_true rfl)
  rw [lg_entry_eq]
  generalize (lg_sl ([.ref (ad o), .int k, .int y0]) ++ List.replicate (4 - (lg_sl ([.ref (ad o), .int k, .int y0])).length) Slot.unset).toArray = ls at hl ⊢
  have hl : lv_has ls 4 [(0, .ref (ad o)), (1, .int k), (2, .int y0)] := hl
  obtain ⟨hN, ⟨ok1, ok2, ok3, ok4, ok5, ok6, ok7, ok8, ok9⟩, h0, ⟨s1, s2, s3⟩, ⟨e1, e2, e3⟩, h7, h8, ⟨TF, tr1, tr2, tr3, tr4, tr5⟩, ⟨TD, dv1, dv2, dv3⟩, ⟨TC, cv1, cv2, cv3⟩, hfr, hfi⟩ := id hcam
  refine lv_aload_n hx hb dX6_ofFrame_0 rfl (lv_at hl 0 rfl) ?_
  refine lv_iload_n hx hb dX6_ofFrame_1 rfl (lv_at hl 1 rfl) ?_
  refine vx_callv (vx_runV (As := [.int k]) (rest := []) ⟨hx, hb, hml, hown, hts⟩ (xX6_needFrame l hst G N ad C o S hcam k h _) (cwV 1 hts gX6_ofFrame_X6_needFrame rfl rfl rfl (by decide +kernel) ⟨Nat.le_of_ble_eq_true rfl, Nat.le_of_ble_eq_true rfl⟩) (xPV hK hV hZ hS hA hP hD (by omega) (h0) rfl [.int k]) rfl rfl hl.1 rfl (lv_room (Nat.le_of_ble_eq_true rfl)) dX6_ofFrame_2 ⟨Nat.le_of_ble_eq_true rfl, Nat.le_of_ble_eq_true rfl⟩) hS (fun q h1 h2 => absurd h1 (Nat.not_lt.mpr h2)) (fun q h => hA q (Nat.le_trans hS.1 h)) (fun q h1 h2 => absurd h1 (Nat.not_lt.mpr h2)) (fun E ce q9 u t H1 locs1 ht hvm hpx hBX hz1 hk1 hS hcell hv9 hcl => ?_) (fun u t H1 locs1 ht hvm hw => hw.elim)
  have hBX : E = _ := hBX
  subst hBX
  exact vx_out (fun x h => (hnt x h).elim) hlocks hcell hv9 hcl (fun t9 ht9 hvm9 => ⟨(), trivial, rfl, hS.F ht9⟩) hS.2.2 (Nat.le_of_ble_eq_true rfl) (Nat.le_of_ble_eq_true rfl)
abbrev rxX6_ofEdit : Room := { frames := 7, cells := 1, slots := 6, locals := 111 }
set_option maxHeartbeats 4000000 in
set_option maxRecDepth 100000 in
theorem xX6_ofEdit_1 (l : Launch) (hst : l.stackTraces = false) (G : iG) (N : Nat) (ad : Nat → Nat) (C : Nat → va_E) (o : Nat) (S : St) (hcam : Cam G N ad C o S) (k y0 y1 : Int32) (h : k < 0 ∨ nI (sFn S) ≤ k) (sz : Nat) : vx_Met l yX6_ofEdit wsX6_ofEdit rxX6_ofEdit (iPreX G N ad C sz [.ref (ad o), .int k, .int y0, .int y1]) (va_Qi (fun (_ : Int32) (_ : Unit) => False) (fun _ _ => True) (fun q => sz ≤ q)) (xE "java/lang/IndexOutOfBoundsException" sz) 1 6 (fun q => sz ≤ q) := by
  refine vx_ofW (cc := cX6_ofEdit) (maxL := 5) (ret := (some .int)) (by decide) rfl ?_
  intro p e s m args below meth c s₁ B hml hnt hv
  obtain ⟨rfl, ⟨⟨hsz, hP, hK, hD⟩, hV⟩, hZ⟩ := hv
  have hx := B.exec
  have hb := B.bytes
  have hr := B.returns
  have hts := atoms_spec (ws := wsX6_ofEdit) B.pre
  have hown : s.vm.findClass RX6 = some m.cls := findClass_of_methodNamed B.named
  have hlocks := B.notSynchronized
  subst hsz
  have hS : va_S (fun q : Nat => s.heap.size ≤ q) s.heap s.heap [] := va_S.rf
  have hA : ∀ q : Nat, s.heap.size ≤ q → (fun q : Nat => s.heap.size ≤ q) q := fun q h => h
  have hP : va_P G.1 vwB (wl N ad C) s.heap := hP
  have hl := lv_entry ([.ref (ad o), .int k, .int y0, .int y1]) (n := 5) (Nat.le_of_ble_eq_true rfl)
  rw [lg_entry_eq]
  generalize (lg_sl ([.ref (ad o), .int k, .int y0, .int y1]) ++ List.replicate (5 - (lg_sl ([.ref (ad o), .int k, .int y0, .int y1])).length) Slot.unset).toArray = ls at hl ⊢
  have hl : lv_has ls 5 [(0, .ref (ad o)), (1, .int k), (2, .int y0), (3, .int y1)] := hl
  obtain ⟨hN, ⟨ok1, ok2, ok3, ok4, ok5, ok6, ok7, ok8, ok9⟩, h0, ⟨s1, s2, s3⟩, ⟨e1, e2, e3⟩, h7, h8, ⟨TF, tr1, tr2, tr3, tr4, tr5⟩, ⟨TD, dv1, dv2, dv3⟩, ⟨TC, cv1, cv2, cv3⟩, hfr, hfi⟩ := id hcam
  refine lv_aload_n hx hb dX6_ofEdit_0 rfl (lv_at hl 0 rfl) ?_
  refine lv_iload_n hx hb dX6_ofEdit_1 rfl (lv_at hl 1 rfl) ?_
  refine vx_callv (vx_runV (As := [.int k]) (rest := []) ⟨hx, hb, hml, hown, hts⟩ (xX6_needFrame l hst G N ad C o S hcam k h _) (cwV 1 hts gX6_ofEdit_X6_needFrame rfl rfl rfl (by decide +kernel) ⟨Nat.le_of_ble_eq_true rfl, Nat.le_of_ble_eq_true rfl⟩) (xPV hK hV hZ hS hA hP hD (by omega) (h0) rfl [.int k]) rfl rfl hl.1 rfl (lv_room (Nat.le_of_ble_eq_true rfl)) dX6_ofEdit_2 ⟨Nat.le_of_ble_eq_true rfl, Nat.le_of_ble_eq_true rfl⟩) hS (fun q h1 h2 => absurd h1 (Nat.not_lt.mpr h2)) (fun q h => hA q (Nat.le_trans hS.1 h)) (fun q h1 h2 => absurd h1 (Nat.not_lt.mpr h2)) (fun E ce q9 u t H1 locs1 ht hvm hpx hBX hz1 hk1 hS hcell hv9 hcl => ?_) (fun u t H1 locs1 ht hvm hw => hw.elim)
  have hBX : E = _ := hBX
  subst hBX
  exact vx_out (fun x h => (hnt x h).elim) hlocks hcell hv9 hcl (fun t9 ht9 hvm9 => ⟨(), trivial, rfl, hS.F ht9⟩) hS.2.2 (Nat.le_of_ble_eq_true rfl) (Nat.le_of_ble_eq_true rfl)
abbrev rxX6_zone : Room := { frames := 7, cells := 1, slots := 6, locals := 111 }
set_option maxHeartbeats 4000000 in
set_option maxRecDepth 100000 in
theorem xX6_zone_1 (l : Launch) (hst : l.stackTraces = false) (G : iG) (N : Nat) (ad : Nat → Nat) (C : Nat → va_E) (o : Nat) (S : St) (hcam : Cam G N ad C o S) (k y0 : Int32) (h : k < 0 ∨ nI (sFn S) ≤ k) (sz : Nat) : vx_Met l yX6_zone wsX6_zone rxX6_zone (iPreX G N ad C sz [.ref (ad o), .int k, .int y0]) (va_Qd (fun (_ : UInt64) (_ : Unit) => False) (fun _ _ => True) (fun q => sz ≤ q)) (xE "java/lang/IndexOutOfBoundsException" sz) 1 6 (fun q => sz ≤ q) := by
  refine vx_ofW (cc := cX6_zone) (maxL := 3) (ret := (some .double)) (by decide) rfl ?_
  intro p e s m args below meth c s₁ B hml hnt hv
  obtain ⟨rfl, ⟨⟨hsz, hP, hK, hD⟩, hV⟩, hZ⟩ := hv
  have hx := B.exec
  have hb := B.bytes
  have hr := B.returns
  have hts := atoms_spec (ws := wsX6_zone) B.pre
  have hown : s.vm.findClass RX6 = some m.cls := findClass_of_methodNamed B.named
  have hlocks := B.notSynchronized
  subst hsz
  have hS : va_S (fun q : Nat => s.heap.size ≤ q) s.heap s.heap [] := va_S.rf
  have hA : ∀ q : Nat, s.heap.size ≤ q → (fun q : Nat => s.heap.size ≤ q) q := fun q h => h
  have hP : va_P G.1 vwB (wl N ad C) s.heap := hP
  have hl := lv_entry ([.ref (ad o), .int k, .int y0]) (n := 3) (Nat.le_of_ble_eq_true rfl)
  rw [lg_entry_eq]
  generalize (lg_sl ([.ref (ad o), .int k, .int y0]) ++ List.replicate (3 - (lg_sl ([.ref (ad o), .int k, .int y0])).length) Slot.unset).toArray = ls at hl ⊢
  have hl : lv_has ls 3 [(0, .ref (ad o)), (1, .int k), (2, .int y0)] := hl
  obtain ⟨hN, ⟨ok1, ok2, ok3, ok4, ok5, ok6, ok7, ok8, ok9⟩, h0, ⟨s1, s2, s3⟩, ⟨e1, e2, e3⟩, h7, h8, ⟨TF, tr1, tr2, tr3, tr4, tr5⟩, ⟨TD, dv1, dv2, dv3⟩, ⟨TC, cv1, cv2, cv3⟩, hfr, hfi⟩ := id hcam
  refine lv_aload_n hx hb dX6_zone_0 rfl (lv_at hl 0 rfl) ?_
  refine lv_iload_n hx hb dX6_zone_1 rfl (lv_at hl 1 rfl) ?_
  refine vx_callv (vx_runV (As := [.int k]) (rest := []) ⟨hx, hb, hml, hown, hts⟩ (xX6_needFrame l hst G N ad C o S hcam k h _) (cwV 1 hts gX6_zone_X6_needFrame rfl rfl rfl (by decide +kernel) ⟨Nat.le_of_ble_eq_true rfl, Nat.le_of_ble_eq_true rfl⟩) (xPV hK hV hZ hS hA hP hD (by omega) (h0) rfl [.int k]) rfl rfl hl.1 rfl (lv_room (Nat.le_of_ble_eq_true rfl)) dX6_zone_2 ⟨Nat.le_of_ble_eq_true rfl, Nat.le_of_ble_eq_true rfl⟩) hS (fun q h1 h2 => absurd h1 (Nat.not_lt.mpr h2)) (fun q h => hA q (Nat.le_trans hS.1 h)) (fun q h1 h2 => absurd h1 (Nat.not_lt.mpr h2)) (fun E ce q9 u t H1 locs1 ht hvm hpx hBX hz1 hk1 hS hcell hv9 hcl => ?_) (fun u t H1 locs1 ht hvm hw => hw.elim)
  have hBX : E = _ := hBX
  subst hBX
  exact vx_out (fun x h => (hnt x h).elim) hlocks hcell hv9 hcl (fun t9 ht9 hvm9 => ⟨(), trivial, rfl, hS.F ht9⟩) hS.2.2 (Nat.le_of_ble_eq_true rfl) (Nat.le_of_ble_eq_true rfl)
abbrev rxX6_meter : Room := { frames := 7, cells := 1, slots := 6, locals := 111 }
set_option maxHeartbeats 4000000 in
set_option maxRecDepth 100000 in
theorem xX6_meter_1 (l : Launch) (hst : l.stackTraces = false) (G : iG) (N : Nat) (ad : Nat → Nat) (C : Nat → va_E) (o : Nat) (S : St) (hcam : Cam G N ad C o S) (k : Int32) (h : k < 0 ∨ nI (sFn S) ≤ k) (sz : Nat) : vx_Met l yX6_meter wsX6_meter rxX6_meter (iPreX G N ad C sz [.ref (ad o), .int k]) (va_Qd (fun (_ : UInt64) (_ : Unit) => False) (fun _ _ => True) (fun q => sz ≤ q)) (xE "java/lang/IndexOutOfBoundsException" sz) 1 6 (fun q => sz ≤ q) := by
  refine vx_ofW (cc := cX6_meter) (maxL := 2) (ret := (some .double)) (by decide) rfl ?_
  intro p e s m args below meth c s₁ B hml hnt hv
  obtain ⟨rfl, ⟨⟨hsz, hP, hK, hD⟩, hV⟩, hZ⟩ := hv
  have hx := B.exec
  have hb := B.bytes
  have hr := B.returns
  have hts := atoms_spec (ws := wsX6_meter) B.pre
  have hown : s.vm.findClass RX6 = some m.cls := findClass_of_methodNamed B.named
  have hlocks := B.notSynchronized
  subst hsz
  have hS : va_S (fun q : Nat => s.heap.size ≤ q) s.heap s.heap [] := va_S.rf
  have hA : ∀ q : Nat, s.heap.size ≤ q → (fun q : Nat => s.heap.size ≤ q) q := fun q h => h
  have hP : va_P G.1 vwB (wl N ad C) s.heap := hP
  have hl := lv_entry ([.ref (ad o), .int k]) (n := 2) (Nat.le_of_ble_eq_true rfl)
  rw [lg_entry_eq]
  generalize (lg_sl ([.ref (ad o), .int k]) ++ List.replicate (2 - (lg_sl ([.ref (ad o), .int k])).length) Slot.unset).toArray = ls at hl ⊢
  have hl : lv_has ls 2 [(0, .ref (ad o)), (1, .int k)] := hl
  obtain ⟨hN, ⟨ok1, ok2, ok3, ok4, ok5, ok6, ok7, ok8, ok9⟩, h0, ⟨s1, s2, s3⟩, ⟨e1, e2, e3⟩, h7, h8, ⟨TF, tr1, tr2, tr3, tr4, tr5⟩, ⟨TD, dv1, dv2, dv3⟩, ⟨TC, cv1, cv2, cv3⟩, hfr, hfi⟩ := id hcam
  refine lv_aload_n hx hb dX6_meter_0 rfl (lv_at hl 0 rfl) ?_
  refine lv_iload_n hx hb dX6_meter_1 rfl (lv_at hl 1 rfl) ?_
  refine vx_callv (vx_runV (As := [.int k]) (rest := []) ⟨hx, hb, hml, hown, hts⟩ (xX6_needFrame l hst G N ad C o S hcam k h _) (cwV 1 hts gX6_meter_X6_needFrame rfl rfl rfl (by decide +kernel) ⟨Nat.le_of_ble_eq_true rfl, Nat.le_of_ble_eq_true rfl⟩) (xPV hK hV hZ hS hA hP hD (by omega) (h0) rfl [.int k]) rfl rfl hl.1 rfl (lv_room (Nat.le_of_ble_eq_true rfl)) dX6_meter_2 ⟨Nat.le_of_ble_eq_true rfl, Nat.le_of_ble_eq_true rfl⟩) hS (fun q h1 h2 => absurd h1 (Nat.not_lt.mpr h2)) (fun q h => hA q (Nat.le_trans hS.1 h)) (fun q h1 h2 => absurd h1 (Nat.not_lt.mpr h2)) (fun E ce q9 u t H1 locs1 ht hvm hpx hBX hz1 hk1 hS hcell hv9 hcl => ?_) (fun u t H1 locs1 ht hvm hw => hw.elim)
  have hBX : E = _ := hBX
  subst hBX
  exact vx_out (fun x h => (hnt x h).elim) hlocks hcell hv9 hcl (fun t9 ht9 hvm9 => ⟨(), trivial, rfl, hS.F ht9⟩) hS.2.2 (Nat.le_of_ble_eq_true rfl) (Nat.le_of_ble_eq_true rfl)
abbrev rxX6_apart : Room := { frames := 7, cells := 1, slots := 6, locals := 111 }
set_option maxHeartbeats 4000000 in
set_option maxRecDepth 100000 in
theorem xX6_apart_1 (l : Launch) (hst : l.stackTraces = false) (G : iG) (N : Nat) (ad : Nat → Nat) (C : Nat → va_E) (o : Nat) (S : St) (hcam : Cam G N ad C o S) (k y0 : Int32) (h : k < 0 ∨ nI (sFn S) ≤ k) (sz : Nat) : vx_Met l yX6_apart wsX6_apart rxX6_apart (iPreX G N ad C sz [.ref (ad o), .int k, .int y0]) (va_Qd (fun (_ : UInt64) (_ : Unit) => False) (fun _ _ => True) (fun q => sz ≤ q)) (xE "java/lang/IndexOutOfBoundsException" sz) 1 6 (fun q => sz ≤ q) := by
  refine vx_ofW (cc := cX6_apart) (maxL := 3) (ret := (some .double)) (by decide) rfl ?_
  intro p e s m args below meth c s₁ B hml hnt hv
  obtain ⟨rfl, ⟨⟨hsz, hP, hK, hD⟩, hV⟩, hZ⟩ := hv
  have hx := B.exec
  have hb := B.bytes
  have hr := B.returns
  have hts := atoms_spec (ws := wsX6_apart) B.pre
  have hown : s.vm.findClass RX6 = some m.cls := findClass_of_methodNamed B.named
  have hlocks := B.notSynchronized
  subst hsz
  have hS : va_S (fun q : Nat => s.heap.size ≤ q) s.heap s.heap [] := va_S.rf
  have hA : ∀ q : Nat, s.heap.size ≤ q → (fun q : Nat => s.heap.size ≤ q) q := fun q h => h
  have hP : va_P G.1 vwB (wl N ad C) s.heap := hP
  have hl := lv_entry ([.ref (ad o), .int k, .int y0]) (n := 3) (Nat.le_of_ble_eq_true rfl)
  rw [lg_entry_eq]
  generalize (lg_sl ([.ref (ad o), .int k, .int y0]) ++ List.replicate (3 - (lg_sl ([.ref (ad o), .int k, .int y0])).length) Slot.unset).toArray = ls at hl ⊢
  have hl : lv_has ls 3 [(0, .ref (ad o)), (1, .int k), (2, .int y0)] := hl
  obtain ⟨hN, ⟨ok1, ok2, ok3, ok4, ok5, ok6, ok7, ok8, ok9⟩, h0, ⟨s1, s2, s3⟩, ⟨e1, e2, e3⟩, h7, h8, ⟨TF, tr1, tr2, tr3, tr4, tr5⟩, ⟨TD, dv1, dv2, dv3⟩, ⟨TC, cv1, cv2, cv3⟩, hfr, hfi⟩ := id hcam
  refine lv_aload_n hx hb dX6_apart_0 rfl (lv_at hl 0 rfl) ?_
  refine lv_iload_n hx hb dX6_apart_1 rfl (lv_at hl 1 rfl) ?_
  refine vx_callv (vx_runV (As := [.int k]) (rest := []) ⟨hx, hb, hml, hown, hts⟩ (xX6_needFrame l hst G N ad C o S hcam k h _) (cwV 1 hts gX6_apart_X6_needFrame rfl rfl rfl (by decide +kernel) ⟨Nat.le_of_ble_eq_true rfl, Nat.le_of_ble_eq_true rfl⟩) (xPV hK hV hZ hS hA hP hD (by omega) (h0) rfl [.int k]) rfl rfl hl.1 rfl (lv_room (Nat.le_of_ble_eq_true rfl)) dX6_apart_2 ⟨Nat.le_of_ble_eq_true rfl, Nat.le_of_ble_eq_true rfl⟩) hS (fun q h1 h2 => absurd h1 (Nat.not_lt.mpr h2)) (fun q h => hA q (Nat.le_trans hS.1 h)) (fun q h1 h2 => absurd h1 (Nat.not_lt.mpr h2)) (fun E ce q9 u t H1 locs1 ht hvm hpx hBX hz1 hk1 hS hcell hv9 hcl => ?_) (fun u t H1 locs1 ht hvm hw => hw.elim)
  have hBX : E = _ := hBX
  subst hBX
  exact vx_out (fun x h => (hnt x h).elim) hlocks hcell hv9 hcl (fun t9 ht9 hvm9 => ⟨(), trivial, rfl, hS.F ht9⟩) hS.2.2 (Nat.le_of_ble_eq_true rfl) (Nat.le_of_ble_eq_true rfl)
abbrev rxX6_bestWhite : Room := { frames := 7, cells := 1, slots := 6, locals := 111 }
set_option maxHeartbeats 4000000 in
set_option maxRecDepth 100000 in
theorem xX6_bestWhite_1 (l : Launch) (hst : l.stackTraces = false) (G : iG) (N : Nat) (ad : Nat → Nat) (C : Nat → va_E) (o : Nat) (S : St) (hcam : Cam G N ad C o S) (k y0 : Int32) (h : k < 0 ∨ nI (sFn S) ≤ k) (sz : Nat) : vx_Met l yX6_bestWhite wsX6_bestWhite rxX6_bestWhite (iPreX G N ad C sz [.ref (ad o), .int k, .int y0]) (va_Qi (fun (_ : Int32) (_ : Unit) => False) (fun _ _ => True) (fun q => sz ≤ q)) (xE "java/lang/IndexOutOfBoundsException" sz) 1 6 (fun q => sz ≤ q) := by
  refine vx_ofW (cc := cX6_bestWhite) (maxL := 10) (ret := (some .int)) (by decide) rfl ?_
  intro p e s m args below meth c s₁ B hml hnt hv
  obtain ⟨rfl, ⟨⟨hsz, hP, hK, hD⟩, hV⟩, hZ⟩ := hv
  have hx := B.exec
  have hb := B.bytes
  have hr := B.returns
  have hts := atoms_spec (ws := wsX6_bestWhite) B.pre
  have hown : s.vm.findClass RX6 = some m.cls := findClass_of_methodNamed B.named
  have hlocks := B.notSynchronized
  subst hsz
  have hS : va_S (fun q : Nat => s.heap.size ≤ q) s.heap s.heap [] := va_S.rf
  have hA : ∀ q : Nat, s.heap.size ≤ q → (fun q : Nat => s.heap.size ≤ q) q := fun q h => h
  have hP : va_P G.1 vwB (wl N ad C) s.heap := hP
  have hl := lv_entry ([.ref (ad o), .int k, .int y0]) (n := 10) (Nat.le_of_ble_eq_true rfl)
  rw [lg_entry_eq]
  generalize (lg_sl ([.ref (ad o), .int k, .int y0]) ++ List.replicate (10 - (lg_sl ([.ref (ad o), .int k, .int y0])).length) Slot.unset).toArray = ls at hl ⊢
  have hl : lv_has ls 10 [(0, .ref (ad o)), (1, .int k), (2, .int y0)] := hl
  obtain ⟨hN, ⟨ok1, ok2, ok3, ok4, ok5, ok6, ok7, ok8, ok9⟩, h0, ⟨s1, s2, s3⟩, ⟨e1, e2, e3⟩, h7, h8, ⟨TF, tr1, tr2, tr3, tr4, tr5⟩, ⟨TD, dv1, dv2, dv3⟩, ⟨TC, cv1, cv2, cv3⟩, hfr, hfi⟩ := id hcam
  refine lv_aload_n hx hb dX6_bestWhite_0 rfl (lv_at hl 0 rfl) ?_
  refine lv_iload_n hx hb dX6_bestWhite_1 rfl (lv_at hl 1 rfl) ?_
  refine vx_callv (vx_runV (As := [.int k]) (rest := []) ⟨hx, hb, hml, hown, hts⟩ (xX6_needFrame l hst G N ad C o S hcam k h _) (cwV 1 hts gX6_bestWhite_X6_needFrame rfl rfl rfl (by decide +kernel) ⟨Nat.le_of_ble_eq_true rfl, Nat.le_of_ble_eq_true rfl⟩) (xPV hK hV hZ hS hA hP hD (by omega) (h0) rfl [.int k]) rfl rfl hl.1 rfl (lv_room (Nat.le_of_ble_eq_true rfl)) dX6_bestWhite_2 ⟨Nat.le_of_ble_eq_true rfl, Nat.le_of_ble_eq_true rfl⟩) hS (fun q h1 h2 => absurd h1 (Nat.not_lt.mpr h2)) (fun q h => hA q (Nat.le_trans hS.1 h)) (fun q h1 h2 => absurd h1 (Nat.not_lt.mpr h2)) (fun E ce q9 u t H1 locs1 ht hvm hpx hBX hz1 hk1 hS hcell hv9 hcl => ?_) (fun u t H1 locs1 ht hvm hw => hw.elim)
  have hBX : E = _ := hBX
  subst hBX
  exact vx_out (fun x h => (hnt x h).elim) hlocks hcell hv9 hcl (fun t9 ht9 hvm9 => ⟨(), trivial, rfl, hS.F ht9⟩) hS.2.2 (Nat.le_of_ble_eq_true rfl) (Nat.le_of_ble_eq_true rfl)
abbrev rxX6_ofFile : Room := { frames := 7, cells := 1, slots := 6, locals := 111 }
set_option maxRecDepth 20000 in
theorem iu_X6_ofFile_6 : ∀ w ∈ u_ws RX6 TX6 9, w ∈ wsX6_ofFile := by decide +kernel
set_option maxRecDepth 20000 in
theorem il_X6_ofFile_39 : (Cond.fieldLink RX6 39 "BayerGate" "fileCount" "I") ∈ wsX6_ofFile := by decide +kernel
set_option maxHeartbeats 4000000 in
set_option maxRecDepth 100000 in
theorem xX6_ofFile_1 (l : Launch) (hst : l.stackTraces = false) (G : iG) (N : Nat) (ad : Nat → Nat) (C : Nat → va_E) (o : Nat) (S : St) (hcam : Cam G N ad C o S) (k y0 : Int32) (h : k < 0 ∨ nI (sFl S) ≤ k) (sz : Nat) : vx_Met l yX6_ofFile wsX6_ofFile rxX6_ofFile (iPreX G N ad C sz [.ref (ad o), .int k, .int y0]) (va_Qi (fun (_ : Int32) (_ : Unit) => False) (fun _ _ => True) (fun q => sz ≤ q)) (xE "java/lang/IndexOutOfBoundsException" sz) 1 6 (fun q => sz ≤ q) := by
  refine vx_ofW (cc := cX6_ofFile) (maxL := 4) (ret := (some .int)) (by decide) rfl ?_
  intro p e s m args below meth c s₁ B hml hnt hv
  obtain ⟨rfl, ⟨⟨hsz, hP, hK, hD⟩, hV⟩, hZ⟩ := hv
  have hx := B.exec
  have hb := B.bytes
  have hr := B.returns
  have hts := atoms_spec (ws := wsX6_ofFile) B.pre
  have hown : s.vm.findClass RX6 = some m.cls := findClass_of_methodNamed B.named
  have hlocks := B.notSynchronized
  subst hsz
  have hS : va_S (fun q : Nat => s.heap.size ≤ q) s.heap s.heap [] := va_S.rf
  have hA : ∀ q : Nat, s.heap.size ≤ q → (fun q : Nat => s.heap.size ≤ q) q := fun q h => h
  have hP : va_P G.1 vwB (wl N ad C) s.heap := hP
  have hl := lv_entry ([.ref (ad o), .int k, .int y0]) (n := 4) (Nat.le_of_ble_eq_true rfl)
  rw [lg_entry_eq]
  generalize (lg_sl ([.ref (ad o), .int k, .int y0]) ++ List.replicate (4 - (lg_sl ([.ref (ad o), .int k, .int y0])).length) Slot.unset).toArray = ls at hl ⊢
  have hl : lv_has ls 4 [(0, .ref (ad o)), (1, .int k), (2, .int y0)] := hl
  obtain ⟨hN, ⟨ok1, ok2, ok3, ok4, ok5, ok6, ok7, ok8, ok9⟩, h0, ⟨s1, s2, s3⟩, ⟨e1, e2, e3⟩, h7, h8, ⟨TF, tr1, tr2, tr3, tr4, tr5⟩, ⟨TD, dv1, dv2, dv3⟩, ⟨TC, cv1, cv2, cv3⟩, hfr, hfi⟩ := id hcam
  refine lv_iload_n hx hb dX6_ofFile_0 rfl (lv_at hl 1 rfl) ?_
  refine lv_aload_n hx hb dX6_ofFile_1 rfl (lv_at hl 0 rfl) ?_
  refine iw_get hx hb hts iu_X6_ofFile_6 hown hK hP (by omega) (h0) rfl 5 (by decide) (hts _ il_X6_ofFile_39) (fun _ h9 => h9) rfl dX6_ofFile_2 ?_
  refine vx_callv (vx_runS (As := [.int k, .int (nI (sFl S))]) (rest := []) ⟨hx, hb, hml, hown, hts⟩ (xX6_needIndex l hst k (nI (sFl S)) h _) (va_cwS 2 hts gX6_ofFile_X6_needIndex rfl rfl rfl (by decide +kernel) ⟨Nat.le_of_ble_eq_true rfl, Nat.le_of_ble_eq_true rfl⟩) (xPS hV hZ hS hA [.int k, .int (nI (sFl S))]) rfl rfl hl.1 rfl (lv_room (Nat.le_of_ble_eq_true rfl)) dX6_ofFile_5 ⟨Nat.le_of_ble_eq_true rfl, Nat.le_of_ble_eq_true rfl⟩) hS (fun q h1 h2 => absurd h1 (Nat.not_lt.mpr h2)) (fun q h => hA q (Nat.le_trans hS.1 h)) (fun q h1 h2 => absurd h1 (Nat.not_lt.mpr h2)) (fun E ce q9 u t H1 locs1 ht hvm hpx hBX hz1 hk1 hS hcell hv9 hcl => ?_) (fun u t H1 locs1 ht hvm hw => hw.elim)
  have hBX : E = _ := hBX
  subst hBX
  exact vx_out (fun x h => (hnt x h).elim) hlocks hcell hv9 hcl (fun t9 ht9 hvm9 => ⟨(), trivial, rfl, hS.F ht9⟩) hS.2.2 (Nat.le_of_ble_eq_true rfl) (Nat.le_of_ble_eq_true rfl)
abbrev rxX6_ofPlace : Room := { frames := 7, cells := 1, slots := 6, locals := 112 }
set_option maxHeartbeats 4000000 in
set_option maxRecDepth 100000 in
theorem xX6_ofPlace_1 (l : Launch) (hst : l.stackTraces = false) (G : iG) (N : Nat) (ad : Nat → Nat) (C : Nat → va_E) (o : Nat) (S : St) (hcam : Cam G N ad C o S) (x y v : Int32) (h : isPl x y = false) (sz : Nat) : vx_Met l yX6_ofPlace wsX6_ofPlace rxX6_ofPlace (iPreX G N ad C sz [.ref (ad o), .int x, .int y, .int v]) (va_Qi (fun (_ : Int32) (_ : Unit) => False) (fun _ _ => True) (fun q => sz ≤ q)) (xE "java/lang/IndexOutOfBoundsException" sz) 1 6 (fun q => sz ≤ q) := by
  refine vx_ofW (cc := cX6_ofPlace) (maxL := 5) (ret := (some .int)) (by decide) rfl ?_
  intro p e s m args below meth c s₁ B hml hnt hv
  obtain ⟨rfl, ⟨⟨hsz, hP, hK, hD⟩, hV⟩, hZ⟩ := hv
  have hx := B.exec
  have hb := B.bytes
  have hr := B.returns
  have hts := atoms_spec (ws := wsX6_ofPlace) B.pre
  have hown : s.vm.findClass RX6 = some m.cls := findClass_of_methodNamed B.named
  have hlocks := B.notSynchronized
  subst hsz
  have hS : va_S (fun q : Nat => s.heap.size ≤ q) s.heap s.heap [] := va_S.rf
  have hA : ∀ q : Nat, s.heap.size ≤ q → (fun q : Nat => s.heap.size ≤ q) q := fun q h => h
  have hP : va_P G.1 vwB (wl N ad C) s.heap := hP
  have hl := lv_entry ([.ref (ad o), .int x, .int y, .int v]) (n := 5) (Nat.le_of_ble_eq_true rfl)
  rw [lg_entry_eq]
  generalize (lg_sl ([.ref (ad o), .int x, .int y, .int v]) ++ List.replicate (5 - (lg_sl ([.ref (ad o), .int x, .int y, .int v])).length) Slot.unset).toArray = ls at hl ⊢
  have hl : lv_has ls 5 [(0, .ref (ad o)), (1, .int x), (2, .int y), (3, .int v)] := hl
  obtain ⟨hN, ⟨ok1, ok2, ok3, ok4, ok5, ok6, ok7, ok8, ok9⟩, h0, ⟨s1, s2, s3⟩, ⟨e1, e2, e3⟩, h7, h8, ⟨TF, tr1, tr2, tr3, tr4, tr5⟩, ⟨TD, dv1, dv2, dv3⟩, ⟨TC, cv1, cv2, cv3⟩, hfr, hfi⟩ := id hcam
  refine lv_iload_n hx hb dX6_ofPlace_0 rfl (lv_at hl 1 rfl) ?_
  refine lv_iload_n hx hb dX6_ofPlace_1 rfl (lv_at hl 2 rfl) ?_
  refine vx_callv (vx_runS (As := [.int x, .int y]) (rest := []) ⟨hx, hb, hml, hown, hts⟩ (xX6_needPlace l hst (x) (y) h _) (va_cwS 2 hts gX6_ofPlace_X6_needPlace rfl rfl rfl (by decide +kernel) ⟨Nat.le_of_ble_eq_true rfl, Nat.le_of_ble_eq_true rfl⟩) (xPS hV hZ hS hA [.int x, .int y]) rfl rfl hl.1 rfl (lv_room (Nat.le_of_ble_eq_true rfl)) dX6_ofPlace_2 ⟨Nat.le_of_ble_eq_true rfl, Nat.le_of_ble_eq_true rfl⟩) hS (fun q h1 h2 => absurd h1 (Nat.not_lt.mpr h2)) (fun q h => hA q (Nat.le_trans hS.1 h)) (fun q h1 h2 => absurd h1 (Nat.not_lt.mpr h2)) (fun E ce q9 u t H1 locs1 ht hvm hpx hBX hz1 hk1 hS hcell hv9 hcl => ?_) (fun u t H1 locs1 ht hvm hw => hw.elim)
  have hBX : E = _ := hBX
  subst hBX
  exact vx_out (fun x h => (hnt x h).elim) hlocks hcell hv9 hcl (fun t9 ht9 hvm9 => ⟨(), trivial, rfl, hS.F ht9⟩) hS.2.2 (Nat.le_of_ble_eq_true rfl) (Nat.le_of_ble_eq_true rfl)
set_option maxHeartbeats 4000000 in
set_option maxRecDepth 100000 in
theorem xX6_ofPlace_2 (l : Launch) (hst : l.stackTraces = false) (G : iG) (N : Nat) (ad : Nat → Nat) (C : Nat → va_E) (o : Nat) (S : St) (hcam : Cam G N ad C o S) (x y : Nat) (hx8 : x < 8) (hy8 : y < 8) (v : Int32) (h : v < nI 0 ∨ nI 5 < v) (sz : Nat) : vx_Met l yX6_ofPlace wsX6_ofPlace rxX6_ofPlace (iPreX G N ad C sz [.ref (ad o), .int (nI x), .int (nI y), .int v]) (va_Qi (fun (_ : Int32) (_ : Unit) => False) (fun _ _ => True) (fun q => sz ≤ q)) (xE "java/lang/IllegalArgumentException" sz) 1 6 (fun q => sz ≤ q) := by
  refine vx_ofW (cc := cX6_ofPlace) (maxL := 5) (ret := (some .int)) (by decide) rfl ?_
  intro p e s m args below meth c s₁ B hml hnt hv
  obtain ⟨rfl, ⟨⟨hsz, hP, hK, hD⟩, hV⟩, hZ⟩ := hv
  have hx := B.exec
  have hb := B.bytes
  have hr := B.returns
  have hts := atoms_spec (ws := wsX6_ofPlace) B.pre
  have hown : s.vm.findClass RX6 = some m.cls := findClass_of_methodNamed B.named
  have hlocks := B.notSynchronized
  subst hsz
  have hS : va_S (fun q : Nat => s.heap.size ≤ q) s.heap s.heap [] := va_S.rf
  have hA : ∀ q : Nat, s.heap.size ≤ q → (fun q : Nat => s.heap.size ≤ q) q := fun q h => h
  have hP : va_P G.1 vwB (wl N ad C) s.heap := hP
  have hl := lv_entry ([.ref (ad o), .int (nI x), .int (nI y), .int v]) (n := 5) (Nat.le_of_ble_eq_true rfl)
  rw [lg_entry_eq]
  generalize (lg_sl ([.ref (ad o), .int (nI x), .int (nI y), .int v]) ++ List.replicate (5 - (lg_sl ([.ref (ad o), .int (nI x), .int (nI y), .int v])).length) Slot.unset).toArray = ls at hl ⊢
  have hl : lv_has ls 5 [(0, .ref (ad o)), (1, .int (nI x)), (2, .int (nI y)), (3, .int v)] := hl
  obtain ⟨hN, ⟨ok1, ok2, ok3, ok4, ok5, ok6, ok7, ok8, ok9⟩, h0, ⟨s1, s2, s3⟩, ⟨e1, e2, e3⟩, h7, h8, ⟨TF, tr1, tr2, tr3, tr4, tr5⟩, ⟨TD, dv1, dv2, dv3⟩, ⟨TC, cv1, cv2, cv3⟩, hfr, hfi⟩ := id hcam
  refine lv_iload_n hx hb dX6_ofPlace_0 rfl (lv_at hl 1 rfl) ?_
  refine lv_iload_n hx hb dX6_ofPlace_1 rfl (lv_at hl 2 rfl) ?_
  refine iw_pv (va_runS (As := [.int (nI x), .int (nI y)]) (rest := []) ⟨hx, hb, hml, hown, hts⟩ (kX6_needPlace l (x) (y) (by omega) (by omega)) (va_cwS 2 hts gX6_ofPlace_X6_needPlace rfl rfl rfl (by decide +kernel) ⟨Nat.le_of_ble_eq_true rfl, Nat.le_of_ble_eq_true rfl⟩) ⟨fun a U g mk q => q, fun U hU hW => ⟨rfl, trivial⟩⟩ rfl rfl hl.1 rfl (lv_room (Nat.le_of_ble_eq_true rfl)) dX6_ofPlace_2 ⟨Nat.le_of_ble_eq_true rfl, Nat.le_of_ble_eq_true rfl⟩) hP hS (fun u8 H locs hw8 hP hS => ?_)
  refine lv_iload_n hx hb dX6_ofPlace_5 rfl (lv_at hl 3 rfl) ?_
  refine lv_iconst (v := nI 0) hx hb dX6_ofPlace_6 (by decide) ?_
  refine lv_iconst (v := nI 5) hx hb dX6_ofPlace_7 (by decide) ?_
  refine vx_callv (vx_runS (As := [.int v, .int (nI 0), .int (nI 5)]) (rest := []) ⟨hx, hb, hml, hown, hts⟩ (xX6_needRange l hst (v) (nI 0) (nI 5) h _) (va_cwS 3 hts gX6_ofPlace_X6_needRange rfl rfl rfl (by decide +kernel) ⟨Nat.le_of_ble_eq_true rfl, Nat.le_of_ble_eq_true rfl⟩) (xPS hV hZ hS hA [.int v, .int (nI 0), .int (nI 5)]) rfl rfl hl.1 rfl (lv_room (Nat.le_of_ble_eq_true rfl)) dX6_ofPlace_8 ⟨Nat.le_of_ble_eq_true rfl, Nat.le_of_ble_eq_true rfl⟩) hS (fun q h1 h2 => absurd h1 (Nat.not_lt.mpr h2)) (fun q h => hA q (Nat.le_trans hS.1 h)) (fun q h1 h2 => absurd h1 (Nat.not_lt.mpr h2)) (fun E ce q9 u t H1 locs1 ht hvm hpx hBX hz1 hk1 hS hcell hv9 hcl => ?_) (fun u t H1 locs1 ht hvm hw => hw.elim)
  have hBX : E = _ := hBX
  subst hBX
  exact vx_out (fun x h => (hnt x h).elim) hlocks hcell hv9 hcl (fun t9 ht9 hvm9 => ⟨(), trivial, rfl, hS.F ht9⟩) hS.2.2 (Nat.le_of_ble_eq_true rfl) (Nat.le_of_ble_eq_true rfl)
abbrev rxX6_many : Room := { frames := 7, cells := 1, slots := 6, locals := 112 }
set_option maxHeartbeats 4000000 in
set_option maxRecDepth 100000 in
theorem xX6_many_1 (l : Launch) (hst : l.stackTraces = false) (G : iG) (N : Nat) (ad : Nat → Nat) (C : Nat → va_E) (o : Nat) (S : St) (hcam : Cam G N ad C o S) (v : Int32) (h : v < nI 0 ∨ nI 6 < v) (sz : Nat) : vx_Met l yX6_many wsX6_many rxX6_many (iPreX G N ad C sz [.ref (ad o), .int v]) (va_Qi (fun (_ : Int32) (_ : Unit) => False) (fun _ _ => True) (fun q => sz ≤ q)) (xE "java/lang/IllegalArgumentException" sz) 1 6 (fun q => sz ≤ q) := by
  refine vx_ofW (cc := cX6_many) (maxL := 2) (ret := (some .int)) (by decide) rfl ?_
  intro p e s m args below meth c s₁ B hml hnt hv
  obtain ⟨rfl, ⟨⟨hsz, hP, hK, hD⟩, hV⟩, hZ⟩ := hv
  have hx := B.exec
  have hb := B.bytes
  have hr := B.returns
  have hts := atoms_spec (ws := wsX6_many) B.pre
  have hown : s.vm.findClass RX6 = some m.cls := findClass_of_methodNamed B.named
  have hlocks := B.notSynchronized
  subst hsz
  have hS : va_S (fun q : Nat => s.heap.size ≤ q) s.heap s.heap [] := va_S.rf
  have hA : ∀ q : Nat, s.heap.size ≤ q → (fun q : Nat => s.heap.size ≤ q) q := fun q h => h
  have hP : va_P G.1 vwB (wl N ad C) s.heap := hP
  have hl := lv_entry ([.ref (ad o), .int v]) (n := 2) (Nat.le_of_ble_eq_true rfl)
  rw [lg_entry_eq]
  generalize (lg_sl ([.ref (ad o), .int v]) ++ List.replicate (2 - (lg_sl ([.ref (ad o), .int v])).length) Slot.unset).toArray = ls at hl ⊢
  have hl : lv_has ls 2 [(0, .ref (ad o)), (1, .int v)] := hl
  obtain ⟨hN, ⟨ok1, ok2, ok3, ok4, ok5, ok6, ok7, ok8, ok9⟩, h0, ⟨s1, s2, s3⟩, ⟨e1, e2, e3⟩, h7, h8, ⟨TF, tr1, tr2, tr3, tr4, tr5⟩, ⟨TD, dv1, dv2, dv3⟩, ⟨TC, cv1, cv2, cv3⟩, hfr, hfi⟩ := id hcam
  refine lv_iload_n hx hb dX6_many_0 rfl (lv_at hl 1 rfl) ?_
  refine lv_iconst (v := nI 0) hx hb dX6_many_1 (by decide) ?_
  refine lv_bipush (v := nI 6) hx hb dX6_many_2 (by decide) ?_
  refine vx_callv (vx_runS (As := [.int v, .int (nI 0), .int (nI 6)]) (rest := []) ⟨hx, hb, hml, hown, hts⟩ (xX6_needRange l hst (v) (nI 0) (nI 6) h _) (va_cwS 3 hts gX6_many_X6_needRange rfl rfl rfl (by decide +kernel) ⟨Nat.le_of_ble_eq_true rfl, Nat.le_of_ble_eq_true rfl⟩) (xPS hV hZ hS hA [.int v, .int (nI 0), .int (nI 6)]) rfl rfl hl.1 rfl (lv_room (Nat.le_of_ble_eq_true rfl)) dX6_many_4 ⟨Nat.le_of_ble_eq_true rfl, Nat.le_of_ble_eq_true rfl⟩) hS (fun q h1 h2 => absurd h1 (Nat.not_lt.mpr h2)) (fun q h => hA q (Nat.le_trans hS.1 h)) (fun q h1 h2 => absurd h1 (Nat.not_lt.mpr h2)) (fun E ce q9 u t H1 locs1 ht hvm hpx hBX hz1 hk1 hS hcell hv9 hcl => ?_) (fun u t H1 locs1 ht hvm hw => hw.elim)
  have hBX : E = _ := hBX
  subst hBX
  exact vx_out (fun x h => (hnt x h).elim) hlocks hcell hv9 hcl (fun t9 ht9 hvm9 => ⟨(), trivial, rfl, hS.F ht9⟩) hS.2.2 (Nat.le_of_ble_eq_true rfl) (Nat.le_of_ble_eq_true rfl)
abbrev rxX6_bestTake : Room := { frames := 7, cells := 1, slots := 6, locals := 112 }
set_option maxHeartbeats 4000000 in
set_option maxRecDepth 100000 in
theorem xX6_bestTake_1 (l : Launch) (hst : l.stackTraces = false) (G : iG) (N : Nat) (ad : Nat → Nat) (C : Nat → va_E) (o : Nat) (S : St) (hcam : Cam G N ad C o S) (v : Int32) (h : v < nI 0 ∨ nI 255 < v) (sz : Nat) : vx_Met l yX6_bestTake wsX6_bestTake rxX6_bestTake (iPreX G N ad C sz [.ref (ad o), .int v]) (va_Qi (fun (_ : Int32) (_ : Unit) => False) (fun _ _ => True) (fun q => sz ≤ q)) (xE "java/lang/IllegalArgumentException" sz) 1 6 (fun q => sz ≤ q) := by
  refine vx_ofW (cc := cX6_bestTake) (maxL := 9) (ret := (some .int)) (by decide) rfl ?_
  intro p e s m args below meth c s₁ B hml hnt hv
  obtain ⟨rfl, ⟨⟨hsz, hP, hK, hD⟩, hV⟩, hZ⟩ := hv
  have hx := B.exec
  have hb := B.bytes
  have hr := B.returns
  have hts := atoms_spec (ws := wsX6_bestTake) B.pre
  have hown : s.vm.findClass RX6 = some m.cls := findClass_of_methodNamed B.named
  have hlocks := B.notSynchronized
  subst hsz
  have hS : va_S (fun q : Nat => s.heap.size ≤ q) s.heap s.heap [] := va_S.rf
  have hA : ∀ q : Nat, s.heap.size ≤ q → (fun q : Nat => s.heap.size ≤ q) q := fun q h => h
  have hP : va_P G.1 vwB (wl N ad C) s.heap := hP
  have hl := lv_entry ([.ref (ad o), .int v]) (n := 9) (Nat.le_of_ble_eq_true rfl)
  rw [lg_entry_eq]
  generalize (lg_sl ([.ref (ad o), .int v]) ++ List.replicate (9 - (lg_sl ([.ref (ad o), .int v])).length) Slot.unset).toArray = ls at hl ⊢
  have hl : lv_has ls 9 [(0, .ref (ad o)), (1, .int v)] := hl
  obtain ⟨hN, ⟨ok1, ok2, ok3, ok4, ok5, ok6, ok7, ok8, ok9⟩, h0, ⟨s1, s2, s3⟩, ⟨e1, e2, e3⟩, h7, h8, ⟨TF, tr1, tr2, tr3, tr4, tr5⟩, ⟨TD, dv1, dv2, dv3⟩, ⟨TC, cv1, cv2, cv3⟩, hfr, hfi⟩ := id hcam
  refine lv_iload_n hx hb dX6_bestTake_0 rfl (lv_at hl 1 rfl) ?_
  refine lv_iconst (v := nI 0) hx hb dX6_bestTake_1 (by decide) ?_
  refine lv_sipush (v := nI 255) hx hb dX6_bestTake_2 (by decide) ?_
  refine vx_callv (vx_runS (As := [.int v, .int (nI 0), .int (nI 255)]) (rest := []) ⟨hx, hb, hml, hown, hts⟩ (xX6_needRange l hst (v) (nI 0) (nI 255) h _) (va_cwS 3 hts gX6_bestTake_X6_needRange rfl rfl rfl (by decide +kernel) ⟨Nat.le_of_ble_eq_true rfl, Nat.le_of_ble_eq_true rfl⟩) (xPS hV hZ hS hA [.int v, .int (nI 0), .int (nI 255)]) rfl rfl hl.1 rfl (lv_room (Nat.le_of_ble_eq_true rfl)) dX6_bestTake_5 ⟨Nat.le_of_ble_eq_true rfl, Nat.le_of_ble_eq_true rfl⟩) hS (fun q h1 h2 => absurd h1 (Nat.not_lt.mpr h2)) (fun q h => hA q (Nat.le_trans hS.1 h)) (fun q h1 h2 => absurd h1 (Nat.not_lt.mpr h2)) (fun E ce q9 u t H1 locs1 ht hvm hpx hBX hz1 hk1 hS hcell hv9 hcl => ?_) (fun u t H1 locs1 ht hvm hw => hw.elim)
  have hBX : E = _ := hBX
  subst hBX
  exact vx_out (fun x h => (hnt x h).elim) hlocks hcell hv9 hcl (fun t9 ht9 hvm9 => ⟨(), trivial, rfl, hS.F ht9⟩) hS.2.2 (Nat.le_of_ble_eq_true rfl) (Nat.le_of_ble_eq_true rfl)
