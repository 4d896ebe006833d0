set_option maxRecDepth 20000 in
theorem ggX6_ofPlace_X6_needPlace : GoodIn wsX6_ofPlace wsX6_needPlace := goodIn_ca (goodIn_r _ [6, 7, 8, 9, 10, 5, 11] (by decide +kernel) (by decide +kernel)) (goodIn_sub (fun _ h => List.mem_cons_of_mem _ (List.mem_append_left _ (List.mem_append_right _ h))) (by decide +kernel))
set_option maxRecDepth 20000 in
theorem gX6_ofPlace_X6_needPlace : GoodIn wsX6_ofPlace (va_wsS RX6 58 yX6_needPlace wsX6_needPlace) := goodIn_app (goodIn_of _ (by decide +kernel)) ggX6_ofPlace_X6_needPlace
set_option maxRecDepth 20000 in
theorem ggX6_ofPlace_X6_needRange : GoodIn wsX6_ofPlace wsX6_needRange := goodIn_ca (goodIn_r _ [14, 15, 16] (by decide +kernel) (by decide +kernel)) (goodIn_sub (fun _ h => List.mem_cons_of_mem _ (List.mem_append_right _ h)) (by decide +kernel))
set_option maxRecDepth 20000 in
theorem gX6_ofPlace_X6_needRange : GoodIn wsX6_ofPlace (va_wsS RX6 70 yX6_needRange wsX6_needRange) := goodIn_app (goodIn_of _ (by decide +kernel)) ggX6_ofPlace_X6_needRange
set_option maxRecDepth 20000 in
theorem ggX6_ofPlace_X6_placeOf : GoodIn wsX6_ofPlace wsX6_placeOf := goodIn_r _ [19] (by decide +kernel) (by decide +kernel)
set_option maxRecDepth 20000 in
theorem gX6_ofPlace_X6_placeOf : GoodIn wsX6_ofPlace (va_wsS RX6 74 yX6_placeOf wsX6_placeOf) := goodIn_app (goodIn_of _ (by decide +kernel)) ggX6_ofPlace_X6_placeOf
set_option maxRecDepth 20000 in
theorem ggX6_ofPlace_X3_shade : GoodIn wsX6_ofPlace wsX3_shade := goodIn_r _ [24, 25, 49, 50, 51] (by decide +kernel) (by decide +kernel)
set_option maxRecDepth 20000 in
theorem gX6_ofPlace_X3_shade : GoodIn wsX6_ofPlace (wsV RX6 218 RX3 yX3_shade wsX3_shade) := goodIn_app (goodIn_of _ (by decide +kernel)) ggX6_ofPlace_X3_shade
set_option maxRecDepth 20000 in
theorem ggX6_ofPlace_X6_colourSeen : GoodIn wsX6_ofPlace wsX6_colourSeen := goodIn_r _ [28] (by decide +kernel) (by decide +kernel)
set_option maxRecDepth 20000 in
theorem gX6_ofPlace_X6_colourSeen : GoodIn wsX6_ofPlace (va_wsS RX6 221 yX6_colourSeen wsX6_colourSeen) := goodIn_app (goodIn_of _ (by decide +kernel)) ggX6_ofPlace_X6_colourSeen
set_option maxRecDepth 20000 in
theorem ggX6_ofPlace_X4_howIs : GoodIn wsX6_ofPlace wsX4_howIs := goodIn_r _ [33, 34, 52, 53, 54] (by decide +kernel) (by decide +kernel)
set_option maxRecDepth 20000 in
theorem gX6_ofPlace_X4_howIs : GoodIn wsX6_ofPlace (wsV RX6 88 RX4 yX4_howIs wsX4_howIs) := goodIn_app (goodIn_of _ (by decide +kernel)) ggX6_ofPlace_X4_howIs
set_option maxRecDepth 20000 in
theorem ggX6_ofPlace_X4_isMapped : GoodIn wsX6_ofPlace wsX4_isMapped := goodIn_r _ [38, 39, 52, 53, 54] (by decide +kernel) (by decide +kernel)
set_option maxRecDepth 20000 in
theorem gX6_ofPlace_X4_isMapped : GoodIn wsX6_ofPlace (wsV RX6 224 RX4 yX4_isMapped wsX4_isMapped) := goodIn_app (goodIn_of _ (by decide +kernel)) ggX6_ofPlace_X4_isMapped
set_option maxRecDepth 20000 in
theorem ggX6_wouldClip_X6_needExposure : GoodIn wsX6_wouldClip wsX6_needExposure := goodIn_ca (goodIn_r _ [7, 8, 9, 6, 10, 11, 12] (by decide +kernel) (by decide +kernel)) (goodIn_sub (fun _ h => List.mem_cons_of_mem _ (List.mem_append_right _ h)) (by decide +kernel))
set_option maxRecDepth 20000 in
theorem gX6_wouldClip_X6_needExposure : GoodIn wsX6_wouldClip (va_wsS RX6 102 yX6_needExposure wsX6_needExposure) := goodIn_app (goodIn_of _ (by decide +kernel)) ggX6_wouldClip_X6_needExposure
set_option maxRecDepth 20000 in
theorem ggX6_wouldClip_X4_expose : GoodIn wsX6_wouldClip wsX4_expose := goodIn_r _ [17, 18, 19, 20, 6, 21, 22, 23, 24, 25, 26, 27, 28, 29, 30, 31, 32, 33, 34, 35, 36, 37, 16, 38, 39, 40, 41, 42, 43, 44, 45, 61, 62, 63, 64, 65, 66, 67, 68, 69, 70, 71] (by decide +kernel) (by decide +kernel)
set_option maxRecDepth 20000 in
theorem gX6_wouldClip_X4_expose : GoodIn wsX6_wouldClip (wsV RX6 108 RX4 yX4_expose wsX4_expose) := goodIn_app (goodIn_of _ (by decide +kernel)) ggX6_wouldClip_X4_expose
set_option maxRecDepth 20000 in
theorem ggX6_wouldClip_X1_countClipped : GoodIn wsX6_wouldClip wsX1_countClipped := goodIn_r _ [50, 51, 64, 65, 66, 67, 68] (by decide +kernel) (by decide +kernel)
set_option maxRecDepth 20000 in
theorem gX6_wouldClip_X1_countClipped : GoodIn wsX6_wouldClip (wsV RX6 183 RX1 yX1_countClipped wsX1_countClipped) := goodIn_app (goodIn_of _ (by decide +kernel)) ggX6_wouldClip_X1_countClipped
set_option maxRecDepth 20000 in
theorem ggX6_many_X6_needRange : GoodIn wsX6_many wsX6_needRange := goodIn_ca (goodIn_r _ [7, 8, 9] (by decide +kernel) (by decide +kernel)) (goodIn_sub (fun _ h => List.mem_cons_of_mem _ (List.mem_append_right _ h)) (by decide +kernel))
set_option maxRecDepth 20000 in
theorem gX6_many_X6_needRange : GoodIn wsX6_many (va_wsS RX6 70 yX6_needRange wsX6_needRange) := goodIn_app (goodIn_of _ (by decide +kernel)) ggX6_many_X6_needRange
set_option maxRecDepth 20000 in
theorem ggX6_many_X4_countMapped : GoodIn wsX6_many wsX4_countMapped := goodIn_r _ [14, 15, 41, 42, 43] (by decide +kernel) (by decide +kernel)
set_option maxRecDepth 20000 in
theorem gX6_many_X4_countMapped : GoodIn wsX6_many (wsV RX6 99 RX4 yX4_countMapped wsX4_countMapped) := goodIn_app (goodIn_of _ (by decide +kernel)) ggX6_many_X4_countMapped
set_option maxRecDepth 20000 in
theorem ggX6_many_X6_countEdits : GoodIn wsX6_many wsX6_countEdits := goodIn_r _ [19, 1, 20, 21, 22, 23, 24, 25, 26, 32, 33, 34, 35, 36, 37, 38, 39, 40, 44, 45, 46, 47, 48, 49, 50, 51] (by decide +kernel) (by decide +kernel)
set_option maxRecDepth 20000 in
theorem gX6_many_X6_countEdits : GoodIn wsX6_many (wsV RX6 231 RX6 yX6_countEdits wsX6_countEdits) := goodIn_app (goodIn_of _ (by decide +kernel)) ggX6_many_X6_countEdits
set_option maxRecDepth 20000 in
theorem ggX6_many_X4_countSpoilt : GoodIn wsX6_many wsX4_countSpoilt := goodIn_r _ [30, 31, 15, 41, 42, 43] (by decide +kernel) (by decide +kernel)
set_option maxRecDepth 20000 in
theorem gX6_many_X4_countSpoilt : GoodIn wsX6_many (wsV RX6 234 RX4 yX4_countSpoilt wsX4_countSpoilt) := goodIn_app (goodIn_of _ (by decide +kernel)) ggX6_many_X4_countSpoilt
set_option maxRecDepth 20000 in
theorem ggX6_digest_X6_many : GoodIn wsX6_digest wsX6_many := goodIn_ca (goodIn_r _ [11, 3, 6, 12, 13, 14, 10, 15, 16, 17, 18, 19, 20, 21, 22, 23, 24, 25, 26, 27, 5, 28, 29, 30, 31, 32, 33, 34, 35, 36, 37, 38, 214, 215, 216, 217, 218, 219, 220, 221, 222, 228, 229, 230, 223, 224, 225, 226, 227, 231, 232, 233] (by decide +kernel) (by decide +kernel)) (goodIn_sub (fun _ h => List.mem_cons_of_mem _ (List.mem_append_left _ (List.mem_append_right _ h))) (by decide +kernel))
set_option maxRecDepth 20000 in
theorem gX6_digest_X6_many : GoodIn wsX6_digest (wsV RX6 264 RX6 yX6_many wsX6_many) := goodIn_app (goodIn_of _ (by decide +kernel)) ggX6_digest_X6_many
set_option maxRecDepth 20000 in
theorem ggX6_digest_X6_wouldClip : GoodIn wsX6_digest wsX6_wouldClip := goodIn_ca (goodIn_r _ [186, 12, 187, 188, 189, 190, 10, 191, 13, 14, 15, 16, 17, 192, 193, 194, 21, 195, 196, 38, 65, 66, 63, 64, 197, 198, 199, 200, 201, 202, 203, 204, 205, 206, 207, 208, 209, 210, 211, 212, 72, 61, 73, 213, 75, 76, 49, 50, 51, 52, 53, 54, 214, 215, 216, 217, 218, 219, 220, 221, 222, 228, 229, 230, 223, 224, 225, 226, 227, 239, 240, 241] (by decide +kernel) (by decide +kernel)) (goodIn_sub (fun _ h => List.mem_cons_of_mem _ (List.mem_append_left _ (List.mem_append_right _ h))) (by decide +kernel))
set_option maxRecDepth 20000 in
theorem gX6_digest_X6_wouldClip : GoodIn wsX6_digest (wsV RX6 281 RX6 yX6_wouldClip wsX6_wouldClip) := goodIn_app (goodIn_of _ (by decide +kernel)) ggX6_digest_X6_wouldClip
set_option maxRecDepth 20000 in
theorem ggX6_picture_X6_needFrame : GoodIn wsX6_picture wsX6_needFrame := goodIn_ca (goodIn_r _ [6, 7, 8, 9, 99, 100, 101, 102, 103, 104, 105, 106, 107] (by decide +kernel) (by decide +kernel)) (goodIn_sub (fun _ h => List.mem_cons_of_mem _ (List.mem_append_left _ (List.mem_append_right _ h))) (by decide +kernel))
set_option maxRecDepth 20000 in
theorem gX6_picture_X6_needFrame : GoodIn wsX6_picture (wsV RX6 127 RX6 yX6_needFrame wsX6_needFrame) := goodIn_app (goodIn_of _ (by decide +kernel)) ggX6_picture_X6_needFrame
set_option maxRecDepth 20000 in
theorem ggX6_picture_X6_needPlace : GoodIn wsX6_picture wsX6_needPlace := goodIn_ca (goodIn_r _ [12, 7, 8, 13, 14, 5, 15] (by decide +kernel) (by decide +kernel)) (goodIn_sub (fun _ h => List.mem_cons_of_mem _ (List.mem_append_left _ (List.mem_append_right _ h))) (by decide +kernel))
set_option maxRecDepth 20000 in
theorem gX6_picture_X6_needPlace : GoodIn wsX6_picture (va_wsS RX6 58 yX6_needPlace wsX6_needPlace) := goodIn_app (goodIn_of _ (by decide +kernel)) ggX6_picture_X6_needPlace
set_option maxRecDepth 20000 in
theorem ggX6_picture_X6_needRange : GoodIn wsX6_picture wsX6_needRange := goodIn_ca (goodIn_r _ [18, 19, 20] (by decide +kernel) (by decide +kernel)) (goodIn_sub (fun _ h => List.mem_cons_of_mem _ (List.mem_append_right _ h)) (by decide +kernel))
set_option maxRecDepth 20000 in
theorem gX6_picture_X6_needRange : GoodIn wsX6_picture (va_wsS RX6 70 yX6_needRange wsX6_needRange) := goodIn_app (goodIn_of _ (by decide +kernel)) ggX6_picture_X6_needRange
set_option maxRecDepth 20000 in
theorem ggX6_picture_X6_developFrame : GoodIn wsX6_picture wsX6_developFrame := goodIn_r _ [24, 25, 26, 27, 28, 29, 30, 31, 32, 33, 34, 35, 36, 37, 38, 39, 40, 41, 42, 43, 44, 5, 45, 46, 47, 48, 14, 15, 49, 50, 51, 52, 53, 54, 55, 56, 57, 58, 59, 60, 61, 62, 63, 64, 65, 66, 67, 68, 69, 70, 71, 72, 73, 74, 75, 76, 77, 78, 79, 80, 81, 82, 83, 84, 85, 86, 87, 88, 89, 90, 91, 92, 93, 94, 95, 96, 99, 100, 101, 102, 103, 104, 105, 106, 107, 110, 111, 112, 113, 114, 115, 116, 117, 118, 119, 120, 108, 109] (by decide +kernel) (by decide +kernel)
set_option maxRecDepth 20000 in
theorem gX6_picture_X6_developFrame : GoodIn wsX6_picture (wsV RX6 162 RX6 yX6_developFrame wsX6_developFrame) := goodIn_app (goodIn_of _ (by decide +kernel)) ggX6_picture_X6_developFrame
set_option maxRecDepth 20000 in
theorem ggX6_picture_X6_placeOf : GoodIn wsX6_picture wsX6_placeOf := goodIn_r _ [45] (by decide +kernel) (by decide +kernel)
set_option maxRecDepth 20000 in
theorem gX6_picture_X6_placeOf : GoodIn wsX6_picture (va_wsS RX6 74 yX6_placeOf wsX6_placeOf) := goodIn_app (goodIn_of _ (by decide +kernel)) ggX6_picture_X6_placeOf
set_option maxRecDepth 20000 in
theorem ggX6_picture_X2_indexOf : GoodIn wsX6_picture wsX2_indexOf := goodIn_r _ [62] (by decide +kernel) (by decide +kernel)
set_option maxRecDepth 20000 in
theorem gX6_picture_X2_indexOf : GoodIn wsX6_picture (va_wsS RX6 170 yX2_indexOf wsX2_indexOf) := goodIn_app (goodIn_of _ (by decide +kernel)) ggX6_picture_X2_indexOf
set_option maxRecDepth 20000 in
theorem ggX6_word_X6_needFrame : GoodIn wsX6_word wsX6_needFrame := goodIn_ca (goodIn_r _ [6, 7, 8, 9, 92, 93, 94, 95, 96, 97, 98, 99, 100] (by decide +kernel) (by decide +kernel)) (goodIn_sub (fun _ h => List.mem_cons_of_mem _ (List.mem_append_right _ h)) (by decide +kernel))
set_option maxRecDepth 20000 in
theorem gX6_word_X6_needFrame : GoodIn wsX6_word (wsV RX6 127 RX6 yX6_needFrame wsX6_needFrame) := goodIn_app (goodIn_of _ (by decide +kernel)) ggX6_word_X6_needFrame
set_option maxRecDepth 20000 in
theorem ggX6_word_X6_wordBehind : GoodIn wsX6_word wsX6_wordBehind := goodIn_r _ [13, 14, 1, 15, 16, 17, 18, 19, 20, 21, 22, 23, 24, 25, 26, 27, 28, 29, 30, 31, 32, 33, 5, 34, 35, 36, 37, 38, 39, 40, 41, 42, 43, 44, 45, 46, 47, 48, 49, 50, 51, 52, 53, 54, 55, 56, 57, 58, 59, 60, 61, 62, 63, 64, 65, 66, 67, 68, 69, 70, 71, 72, 73, 74, 75, 76, 77, 78, 79, 80, 81, 82, 83, 84, 85, 86, 87, 88, 89, 90, 91, 92, 93, 94, 95, 96, 97, 98, 99, 100, 101, 102, 103, 104, 105, 106, 107, 108, 109, 110, 111, 112, 113] (by decide +kernel) (by decide +kernel)
set_option maxRecDepth 20000 in
theorem gX6_word_X6_wordBehind : GoodIn wsX6_word (wsV RX6 173 RX6 yX6_wordBehind wsX6_wordBehind) := goodIn_app (goodIn_of _ (by decide +kernel)) ggX6_word_X6_wordBehind
set_option maxRecDepth 20000 in
theorem ggX6_ofFile_X6_needIndex : GoodIn wsX6_ofFile wsX6_needIndex := goodIn_ca (goodIn_r _ [6, 7, 8] (by decide +kernel) (by decide +kernel)) (goodIn_sub (fun _ h => List.mem_cons_of_mem _ (List.mem_append_left _ (List.mem_append_right _ h))) (by decide +kernel))
set_option maxRecDepth 20000 in
theorem gX6_ofFile_X6_needIndex : GoodIn wsX6_ofFile (va_wsS RX6 195 yX6_needIndex wsX6_needIndex) := goodIn_app (goodIn_of _ (by decide +kernel)) ggX6_ofFile_X6_needIndex
set_option maxRecDepth 20000 in
theorem ggX6_ofFile_X6_needRange : GoodIn wsX6_ofFile wsX6_needRange := goodIn_ca (goodIn_r _ [11, 12, 13] (by decide +kernel) (by decide +kernel)) (goodIn_sub (fun _ h => List.mem_cons_of_mem _ (List.mem_append_right _ h)) (by decide +kernel))
set_option maxRecDepth 20000 in
theorem gX6_ofFile_X6_needRange : GoodIn wsX6_ofFile (va_wsS RX6 70 yX6_needRange wsX6_needRange) := goodIn_app (goodIn_of _ (by decide +kernel)) ggX6_ofFile_X6_needRange
set_option maxRecDepth 20000 in
theorem ggX6_ofFile_X0_count : GoodIn wsX6_ofFile wsX0_count := goodIn_r _ [18, 19, 110, 111, 112] (by decide +kernel) (by decide +kernel)
set_option maxRecDepth 20000 in
theorem gX6_ofFile_X0_count : GoodIn wsX6_ofFile (wsV RX6 140 RX0 yX0_count wsX0_count) := goodIn_app (goodIn_of _ (by decide +kernel)) ggX6_ofFile_X0_count
set_option maxRecDepth 20000 in
theorem ggX6_ofFile_X6_wordBehind : GoodIn wsX6_ofFile wsX6_wordBehind := goodIn_r _ [23, 24, 25, 26, 27, 28, 29, 30, 31, 32, 33, 34, 17, 35, 19, 36, 37, 38, 39, 40, 41, 42, 5, 43, 44, 45, 46, 47, 48, 49, 50, 51, 52, 53, 54, 55, 56, 57, 58, 59, 60, 61, 62, 63, 15, 16, 18, 64, 65, 66, 67, 68, 69, 70, 71, 72, 73, 74, 75, 76, 77, 78, 79, 80, 81, 82, 83, 84, 85, 86, 87, 88, 89, 90, 91, 92, 93, 94, 95, 96, 97, 98, 99, 100, 101, 102, 103, 104, 105, 106, 113, 114, 115, 116, 117, 118, 119, 120, 110, 111, 112, 121, 122] (by decide +kernel) (by decide +kernel)
set_option maxRecDepth 20000 in
theorem gX6_ofFile_X6_wordBehind : GoodIn wsX6_ofFile (wsV RX6 173 RX6 yX6_wordBehind wsX6_wordBehind) := goodIn_app (goodIn_of _ (by decide +kernel)) ggX6_ofFile_X6_wordBehind
def ofP (S : St) (x y w : Nat) : Int32 := if w < 3 then nI (sSh S (3 * (8 * y + x) + w)) else if w = 3 then nI (colN x y) else if w = 4 then nI (sHw S (8 * y + x)) else if sMp S (8 * y + x) then nI 1 else nI 0
abbrev rmX6_ofPlace : Room := { frames := 2, cells := 0, slots := 0, locals := 42 }
set_option maxRecDepth 20000 in
theorem iu_X6_ofPlace_6 : ∀ w ∈ u_ws RX6 TX6 9, w ∈ wsX6_ofPlace := by decide +kernel
set_option maxRecDepth 20000 in
theorem il_X6_ofPlace_12 : (Cond.fieldLink RX6 12 "BayerGate" "scene" "LBayerGate$Scene;") ∈ wsX6_ofPlace := by decide +kernel
set_option maxRecDepth 20000 in
theorem il_X6_ofPlace_19 : (Cond.fieldLink RX6 19 "BayerGate" "sensor" "LBayerGate$Sensor;") ∈ wsX6_ofPlace := by decide +kernel
set_option maxHeartbeats 4000000 in
set_option maxRecDepth 100000 in
theorem kX6_ofPlace (l : Launch) (G : iG) (N : Nat) (ad : Nat → Nat) (C : Nat → va_E) (o : Nat) (S : St) (hcam : Cam G N ad C o S) (x y : Nat) (hx8 : x < 8) (hy8 : y < 8) (w : Nat) (hw6 : w < 6) (sz : Nat) : Met l yX6_ofPlace wsX6_ofPlace rmX6_ofPlace (iPre G N ad C sz [.ref (ad o), .int (nI x), .int (nI y), .int (nI w)]) (va_Qi (fun (r : Int32) (u : Nat → va_E) => r = ofP S x y w ∧ u = C) (iB G N ad) (iA N ad sz)) 0 0 (iA N ad sz) := by
  refine Met.ofW (cc := cX6_ofPlace) (maxL := 5) (ret := (some .int)) (by decide) rfl ?_
  intro p e s m args below meth c s₁ B hml hv
  obtain ⟨rfl, hsz, hP, hK, hD0⟩ := hv
  have hx := B.exec
  have hb := B.bytes
  have hr := B.returns
  have hts := atoms_spec (ws := wsX6_ofPlace) B.pre
  have hown : s.vm.findClass RX6 = some m.cls := findClass_of_methodNamed B.named
  have hlocks := B.notSynchronized
  subst hsz
  have hD := wl_self hD0 s.heap.size
  have hA : ∀ q : Nat, s.heap.size ≤ q → iA N ad s.heap.size q := fun q h => Or.inr h
  have hS : va_S (iA N ad s.heap.size) s.heap s.heap [] := va_S.rf
  have hP : va_P G.1 vwB (wl N ad C) s.heap := hP
  have hl := lv_entry ([.ref (ad o), .int (nI x), .int (nI y), .int (nI w)]) (n := 5) (Nat.le_of_ble_eq_true rfl)
  rw [lg_entry_eq]
  generalize (lg_sl ([.ref (ad o), .int (nI x), .int (nI y), .int (nI w)]) ++ List.replicate (5 - (lg_sl ([.ref (ad o), .int (nI x), .int (nI y), .int (nI w)])).length) Slot.unset).toArray = ls at hl ⊢
  have hl : lv_has ls 5 [(0, .ref (ad o)), (1, .int (nI x)), (2, .int (nI y)), (3, .int (nI w))] := hl
  obtain ⟨hN, ⟨ok1, ok2, ok3, ok4, ok5, ok6, ok7, ok8, ok9⟩, h0, ⟨s1, s2, s3⟩, ⟨e1, e2, e3⟩, ⟨F7, h7, hF7⟩, ⟨F8, h8, hF8⟩, ⟨TF, tr1, tr2, tr3, tr4, tr5⟩, ⟨TD, dv1, dv2, dv3⟩, ⟨TC, cv1, cv2, cv3⟩, hfr, hfi⟩ := id hcam
  refine lv_iload_n hx hb dX6_ofPlace_0 rfl (lv_at hl 1 rfl) ?_
  refine lv_iload_n hx hb dX6_ofPlace_1 rfl (lv_at hl 2 rfl) ?_
  refine iw_pv (va_runS (As := [.int (nI x), .int (nI y)]) (rest := []) ⟨hx, hb, hml, hown, hts⟩ (kX6_needPlace l (x) (y) (by omega) (by omega)) (va_cwS 2 hts gX6_ofPlace_X6_needPlace rfl rfl rfl (by decide +kernel) ⟨Nat.le_of_ble_eq_true rfl, Nat.le_of_ble_eq_true rfl⟩) ⟨fun a U g mk q => q, fun U hU hW => ⟨rfl, trivial⟩⟩ rfl rfl hl.1 rfl (lv_room (Nat.le_of_ble_eq_true rfl)) dX6_ofPlace_2 ⟨Nat.le_of_ble_eq_true rfl, Nat.le_of_ble_eq_true rfl⟩) hP hS (fun u8 H locs hw8 hP hS => ?_)
  refine lv_iload_n hx hb dX6_ofPlace_5 rfl (lv_at hl 3 rfl) ?_
  refine lv_iconst (v := nI 0) hx hb dX6_ofPlace_6 (by decide) ?_
  refine lv_iconst (v := nI 5) hx hb dX6_ofPlace_7 (by decide) ?_
  refine iw_pv (va_runS (As := [.int (nI w), .int (nI 0), .int (nI 5)]) (rest := []) ⟨hx, hb, hml, hown, hts⟩ (kX6_needRange l (nI w) (nI 0) (nI 5) (nI_nlt (by omega) (by omega)) (nI_le (by omega) (by omega))) (va_cwS 3 hts gX6_ofPlace_X6_needRange rfl rfl rfl (by decide +kernel) ⟨Nat.le_of_ble_eq_true rfl, Nat.le_of_ble_eq_true rfl⟩) ⟨fun a U g mk q => q, fun U hU hW => ⟨rfl, trivial⟩⟩ rfl rfl hl.1 rfl (lv_room (Nat.le_of_ble_eq_true rfl)) dX6_ofPlace_8 ⟨Nat.le_of_ble_eq_true rfl, Nat.le_of_ble_eq_true rfl⟩) hP hS (fun u8 H locs hw8 hP hS => ?_)
  refine lv_iload_n hx hb dX6_ofPlace_11 rfl (lv_at hl 1 rfl) ?_
  refine lv_iload_n hx hb dX6_ofPlace_12 rfl (lv_at hl 2 rfl) ?_
  refine iw_pi (va_runS (As := [.int (nI x), .int (nI y)]) (rest := []) ⟨hx, hb, hml, hown, hts⟩ (kX6_placeOf l (x) (y)) (va_cwS 2 hts gX6_ofPlace_X6_placeOf rfl rfl rfl (by decide +kernel) ⟨Nat.le_of_ble_eq_true rfl, Nat.le_of_ble_eq_true rfl⟩) ⟨fun a U g mk q => q, fun U hU hW => ⟨rfl, trivial⟩⟩ rfl rfl hl.1 rfl (lv_room (Nat.le_of_ble_eq_true rfl)) dX6_ofPlace_13 ⟨Nat.le_of_ble_eq_true rfl, Nat.le_of_ble_eq_true rfl⟩) hP hS (fun r8 u8 H locs hw8 hP hS => ?_)
  refine lv_asI hw8 ?_
  refine lv_istore (lv' := [(4, .int (nI (8 * y + x))), (0, .ref (ad o)), (1, .int (nI x)), (2, .int (nI y)), (3, .int (nI w))]) hx hb dX6_ofPlace_16 hl (by decide) rfl (fun ls hl => ?_)
  refine lv_iload_n hx hb dX6_ofPlace_18 rfl (lv_at hl 4 rfl) ?_
  rcases (show w = 0 ∨ w = 1 ∨ w = 2 ∨ w = 3 ∨ w = 4 ∨ w = 5 by omega) with rfl | rfl | rfl | rfl | rfl | rfl
  · refine lv_tableIn (off := 33) (tgt := 52) hx hb dX6_ofPlace_19 (by decide) (by decide) (by decide) (by decide) ?_
    refine lv_aload_n hx hb dX6_ofPlace_52 rfl (lv_at hl 1 rfl) ?_
    refine iw_get hx hb hts iu_X6_ofPlace_6 hown hK hP (by omega) (h0) rfl 0 (by decide) (hts _ il_X6_ofPlace_12) (fun _ h9 => h9) rfl dX6_ofPlace_53 ?_
    refine lv_iload hx hb dX6_ofPlace_56 (lv_at hl 0 rfl) ?_
    refine lv_iload_n hx hb dX6_ofPlace_58 rfl (lv_at hl 4 rfl) ?_
    refine iw_i (va_runV (As := [.int (nI (8 * y + x)), .int (nI 0)]) (rest := []) ⟨hx, hb, hml, hown, hts⟩ (kX3_shade l G N ad _ (by omega) (by omega) (by omega) (s1) (s2) (s3) (8 * y + x) 0 (by omega) (by omega) _) (cwV 2 hts gX6_ofPlace_X3_shade rfl rfl rfl (by decide +kernel) ⟨Nat.le_of_ble_eq_true rfl, Nat.le_of_ble_eq_true rfl⟩) (iPV hK hP hD (by omega) (s1) rfl [.int (nI (8 * y + x)), .int (nI 0)]) rfl rfl hl.1 rfl (lv_room (Nat.le_of_ble_eq_true rfl)) dX6_ofPlace_59 ⟨Nat.le_of_ble_eq_true rfl, Nat.le_of_ble_eq_true rfl⟩) hD hS hA (fun r8 u8 H locs hw8 hP hD hS => ?_)
    obtain ⟨hr8, hu8⟩ := hw8
    refine lv_asI hr8 ?_
    rw [hu8] at hP hD
    exact W.iret (v := (nI (sSh S (3 * (8 * y + x) + 0)))) hx hb hr (fun t ht hW => ⟨⟨_, _, rfl, ⟨(by first | rfl | (unfold ofP; simp_all; done)), rfl⟩, iB_of ht hP⟩, hS.F ht⟩) hS.2.2 dX6_ofPlace_62
  · refine lv_tableIn (off := 33) (tgt := 52) hx hb dX6_ofPlace_19 (by decide) (by decide) (by decide) (by decide) ?_
    refine lv_aload_n hx hb dX6_ofPlace_52 rfl (lv_at hl 1 rfl) ?_
    refine iw_get hx hb hts iu_X6_ofPlace_6 hown hK hP (by omega) (h0) rfl 0 (by decide) (hts _ il_X6_ofPlace_12) (fun _ h9 => h9) rfl dX6_ofPlace_53 ?_
    refine lv_iload hx hb dX6_ofPlace_56 (lv_at hl 0 rfl) ?_
    refine lv_iload_n hx hb dX6_ofPlace_58 rfl (lv_at hl 4 rfl) ?_
    refine iw_i (va_runV (As := [.int (nI (8 * y + x)), .int (nI 1)]) (rest := []) ⟨hx, hb, hml, hown, hts⟩ (kX3_shade l G N ad _ (by omega) (by omega) (by omega) (s1) (s2) (s3) (8 * y + x) 1 (by omega) (by omega) _) (cwV 2 hts gX6_ofPlace_X3_shade rfl rfl rfl (by decide +kernel) ⟨Nat.le_of_ble_eq_true rfl, Nat.le_of_ble_eq_true rfl⟩) (iPV hK hP hD (by omega) (s1) rfl [.int (nI (8 * y + x)), .int (nI 1)]) rfl rfl hl.1 rfl (lv_room (Nat.le_of_ble_eq_true rfl)) dX6_ofPlace_59 ⟨Nat.le_of_ble_eq_true rfl, Nat.le_of_ble_eq_true rfl⟩) hD hS hA (fun r8 u8 H locs hw8 hP hD hS => ?_)
    obtain ⟨hr8, hu8⟩ := hw8
    refine lv_asI hr8 ?_
    rw [hu8] at hP hD
    exact W.iret (v := (nI (sSh S (3 * (8 * y + x) + 1)))) hx hb hr (fun t ht hW => ⟨⟨_, _, rfl, ⟨(by first | rfl | (unfold ofP; simp_all; done)), rfl⟩, iB_of ht hP⟩, hS.F ht⟩) hS.2.2 dX6_ofPlace_62
  · refine lv_tableIn (off := 33) (tgt := 52) hx hb dX6_ofPlace_19 (by decide) (by decide) (by decide) (by decide) ?_
    refine lv_aload_n hx hb dX6_ofPlace_52 rfl (lv_at hl 1 rfl) ?_
    refine iw_get hx hb hts iu_X6_ofPlace_6 hown hK hP (by omega) (h0) rfl 0 (by decide) (hts _ il_X6_ofPlace_12) (fun _ h9 => h9) rfl dX6_ofPlace_53 ?_
    refine lv_iload hx hb dX6_ofPlace_56 (lv_at hl 0 rfl) ?_
    refine lv_iload_n hx hb dX6_ofPlace_58 rfl (lv_at hl 4 rfl) ?_
    refine iw_i (va_runV (As := [.int (nI (8 * y + x)), .int (nI 2)]) (rest := []) ⟨hx, hb, hml, hown, hts⟩ (kX3_shade l G N ad _ (by omega) (by omega) (by omega) (s1) (s2) (s3) (8 * y + x) 2 (by omega) (by omega) _) (cwV 2 hts gX6_ofPlace_X3_shade rfl rfl rfl (by decide +kernel) ⟨Nat.le_of_ble_eq_true rfl, Nat.le_of_ble_eq_true rfl⟩) (iPV hK hP hD (by omega) (s1) rfl [.int (nI (8 * y + x)), .int (nI 2)]) rfl rfl hl.1 rfl (lv_room (Nat.le_of_ble_eq_true rfl)) dX6_ofPlace_59 ⟨Nat.le_of_ble_eq_true rfl, Nat.le_of_ble_eq_true rfl⟩) hD hS hA (fun r8 u8 H locs hw8 hP hD hS => ?_)
    obtain ⟨hr8, hu8⟩ := hw8
    refine lv_asI hr8 ?_
    rw [hu8] at hP hD
    exact W.iret (v := (nI (sSh S (3 * (8 * y + x) + 2)))) hx hb hr (fun t ht hW => ⟨⟨_, _, rfl, ⟨(by first | rfl | (unfold ofP; simp_all; done)), rfl⟩, iB_of ht hP⟩, hS.F ht⟩) hS.2.2 dX6_ofPlace_62
  · refine lv_tableIn (off := 44) (tgt := 63) hx hb dX6_ofPlace_19 (by decide) (by decide) (by decide) (by decide) ?_
    refine lv_iload_n hx hb dX6_ofPlace_63 rfl (lv_at hl 2 rfl) ?_
    refine lv_iload_n hx hb dX6_ofPlace_64 rfl (lv_at hl 3 rfl) ?_
    refine iw_pi (va_runS (As := [.int (nI x), .int (nI y)]) (rest := []) ⟨hx, hb, hml, hown, hts⟩ (kX6_colourSeen l x y (by omega) (by omega)) (va_cwS 2 hts gX6_ofPlace_X6_colourSeen rfl rfl rfl (by decide +kernel) ⟨Nat.le_of_ble_eq_true rfl, Nat.le_of_ble_eq_true rfl⟩) ⟨fun a U g mk q => q, fun U hU hW => ⟨rfl, trivial⟩⟩ rfl rfl hl.1 rfl (lv_room (Nat.le_of_ble_eq_true rfl)) dX6_ofPlace_65 ⟨Nat.le_of_ble_eq_true rfl, Nat.le_of_ble_eq_true rfl⟩) hP hS (fun r8 u8 H locs hw8 hP hS => ?_)
    refine lv_asI hw8 ?_
    exact W.iret (v := (nI (colN x y))) hx hb hr (fun t ht hW => ⟨⟨_, _, rfl, ⟨(by first | rfl | (unfold ofP; simp_all; done)), rfl⟩, iB_of ht hP⟩, hS.F ht⟩) hS.2.2 dX6_ofPlace_68
  · refine lv_tableIn (off := 50) (tgt := 69) hx hb dX6_ofPlace_19 (by decide) (by decide) (by decide) (by decide) ?_
    refine lv_aload_n hx hb dX6_ofPlace_69 rfl (lv_at hl 1 rfl) ?_
    refine iw_get hx hb hts iu_X6_ofPlace_6 hown hK hP (by omega) (h0) rfl 1 (by decide) (hts _ il_X6_ofPlace_19) (fun _ h9 => h9) rfl dX6_ofPlace_70 ?_
    refine lv_iload hx hb dX6_ofPlace_73 (lv_at hl 0 rfl) ?_
    refine iw_i (va_runV (As := [.int (nI (8 * y + x))]) (rest := []) ⟨hx, hb, hml, hown, hts⟩ (kX4_howIs l G N ad _ (by omega) (by omega) (by omega) (e1) (e2) (e3) (8 * y + x) (by omega) _) (cwV 1 hts gX6_ofPlace_X4_howIs rfl rfl rfl (by decide +kernel) ⟨Nat.le_of_ble_eq_true rfl, Nat.le_of_ble_eq_true rfl⟩) (iPV hK hP hD (by omega) (e1) rfl [.int (nI (8 * y + x))]) rfl rfl hl.1 rfl (lv_room (Nat.le_of_ble_eq_true rfl)) dX6_ofPlace_75 ⟨Nat.le_of_ble_eq_true rfl, Nat.le_of_ble_eq_true rfl⟩) hD hS hA (fun r8 u8 H locs hw8 hP hD hS => ?_)
    obtain ⟨hr8, hu8⟩ := hw8
    refine lv_asI hr8 ?_
    rw [hu8] at hP hD
    exact W.iret (v := (nI (sHw S (8 * y + x)))) hx hb hr (fun t ht hW => ⟨⟨_, _, rfl, ⟨(by first | rfl | (unfold ofP; simp_all; done)), rfl⟩, iB_of ht hP⟩, hS.F ht⟩) hS.2.2 dX6_ofPlace_78
  · refine lv_tableOut (tgt := 79) hx hb dX6_ofPlace_19 (by decide) (by decide) ?_
    refine lv_aload_n hx hb dX6_ofPlace_79 rfl (lv_at hl 1 rfl) ?_
    refine iw_get hx hb hts iu_X6_ofPlace_6 hown hK hP (by omega) (h0) rfl 1 (by decide) (hts _ il_X6_ofPlace_19) (fun _ h9 => h9) rfl dX6_ofPlace_80 ?_
    refine lv_iload hx hb dX6_ofPlace_83 (lv_at hl 0 rfl) ?_
    refine iw_i (va_runV (As := [.int (nI (8 * y + x))]) (rest := []) ⟨hx, hb, hml, hown, hts⟩ (kX4_isMapped l G N ad _ (by omega) (by omega) (by omega) (e1) (e2) (e3) (8 * y + x) (by omega) _) (cwV 1 hts gX6_ofPlace_X4_isMapped rfl rfl rfl (by decide +kernel) ⟨Nat.le_of_ble_eq_true rfl, Nat.le_of_ble_eq_true rfl⟩) (iPV hK hP hD (by omega) (e1) rfl [.int (nI (8 * y + x))]) rfl rfl hl.1 rfl (lv_room (Nat.le_of_ble_eq_true rfl)) dX6_ofPlace_85 ⟨Nat.le_of_ble_eq_true rfl, Nat.le_of_ble_eq_true rfl⟩) hD hS hA (fun r8 u8 H locs hw8 hP hD hS => ?_)
    obtain ⟨hr8, hu8⟩ := hw8
    refine lv_asI hr8 ?_
    rw [hu8] at hP hD
    refine lv_if_eq (tgt := 95) hx hb dX6_ofPlace_88 (by decide) (fun c88 => ?_) (fun c88 => ?_)
    · have hm9 : sMp S (8 * y + x) = false := by cases e9 : sMp S (8 * y + x) with | false => rfl | true => rw [e9] at c88; exact absurd c88 (by decide)
      refine lv_iconst (v := nI 0) hx hb dX6_ofPlace_95 (by decide) ?_
      exact W.iret (v := (nI 0)) hx hb hr (fun t ht hW => ⟨⟨_, _, rfl, ⟨(by first | rfl | (unfold ofP; simp_all; done)), rfl⟩, iB_of ht hP⟩, hS.F ht⟩) hS.2.2 dX6_ofPlace_96
    · have hm9 : sMp S (8 * y + x) = true := by cases e9 : sMp S (8 * y + x) with | true => rfl | false => rw [e9] at c88; exact absurd rfl c88
      refine lv_iconst (v := nI 1) hx hb dX6_ofPlace_91 (by decide) ?_
      refine lv_goto (tgt := 96) hx hb dX6_ofPlace_92 (by decide) ?_
      exact W.iret (v := (nI 1)) hx hb hr (fun t ht hW => ⟨⟨_, _, rfl, ⟨(by first | rfl | (unfold ofP; simp_all; done)), rfl⟩, iB_of ht hP⟩, hS.F ht⟩) hS.2.2 dX6_ofPlace_96
abbrev rmX6_wouldClip : Room := { frames := 3, cells := 0, slots := 0, locals := 74 }
set_option maxRecDepth 20000 in
theorem iu_X6_wouldClip_6 : ∀ w ∈ u_ws RX6 TX6 9, w ∈ wsX6_wouldClip := by decide +kernel
set_option maxRecDepth 20000 in
theorem il_X6_wouldClip_19 : (Cond.fieldLink RX6 19 "BayerGate" "sensor" "LBayerGate$Sensor;") ∈ wsX6_wouldClip := by decide +kernel
set_option maxRecDepth 20000 in
theorem il_X6_wouldClip_12 : (Cond.fieldLink RX6 12 "BayerGate" "scene" "LBayerGate$Scene;") ∈ wsX6_wouldClip := by decide +kernel
set_option maxRecDepth 20000 in
theorem il_X6_wouldClip_43 : (Cond.fieldLink RX6 43 "BayerGate" "trial" "LBayerGate$Frame;") ∈ wsX6_wouldClip := by decide +kernel
set_option maxHeartbeats 4000000 in
set_option maxRecDepth 100000 in
theorem kX6_wouldClip (l : Launch) (G : iG) (N : Nat) (ad : Nat → Nat) (C : Nat → va_E) (o : Nat) (S : St) (hcam : Cam G N ad C o S) (t1 g1 : Nat) (ht : 0 < t1 ∧ t1 < 65) (hg : 0 < g1 ∧ g1 < 9) (sz : Nat) : Met l yX6_wouldClip wsX6_wouldClip rmX6_wouldClip (iPre G N ad C sz [.ref (ad o), .int (nI t1), .int (nI g1)]) (va_Qi (fun (r : Int32) (u : Nat → va_E) => r = nI (clN (exN (sHw S) (sSh S) (sFac S) (sDr S) t1 g1) 64) ∧ Cam G N ad u o S ∧ same C u o) (iB G N ad) (iA N ad sz)) 0 0 (iA N ad sz) := by
  refine Met.ofW (cc := cX6_wouldClip) (maxL := 3) (ret := (some .int)) (by decide) rfl ?_
  intro p e s m args below meth c s₁ B hml hv
  obtain ⟨rfl, hsz, hP, hK, hD0⟩ := hv
  have hx := B.exec
  have hb := B.bytes
  have hr := B.returns
  have hts := atoms_spec (ws := wsX6_wouldClip) B.pre
  have hown : s.vm.findClass RX6 = some m.cls := findClass_of_methodNamed B.named
  have hlocks := B.notSynchronized
  subst hsz
  have hD := wl_self hD0 s.heap.size
  have hA : ∀ q : Nat, s.heap.size ≤ q → iA N ad s.heap.size q := fun q h => Or.inr h
  have hS : va_S (iA N ad s.heap.size) s.heap s.heap [] := va_S.rf
  have hP : va_P G.1 vwB (wl N ad C) s.heap := hP
  have hl := lv_entry ([.ref (ad o), .int (nI t1), .int (nI g1)]) (n := 3) (Nat.le_of_ble_eq_true rfl)
  rw [lg_entry_eq]
  generalize (lg_sl ([.ref (ad o), .int (nI t1), .int (nI g1)]) ++ List.replicate (3 - (lg_sl ([.ref (ad o), .int (nI t1), .int (nI g1)])).length) Slot.unset).toArray = ls at hl ⊢
  have hl : lv_has ls 3 [(0, .ref (ad o)), (1, .int (nI t1)), (2, .int (nI g1))] := hl
  obtain ⟨hN, ⟨ok1, ok2, ok3, ok4, ok5, ok6, ok7, ok8, ok9⟩, h0, ⟨s1, s2, s3⟩, ⟨e1, e2, e3⟩, ⟨F7, h7, hF7⟩, ⟨F8, h8, hF8⟩, ⟨TF, tr1, tr2, tr3, tr4, tr5⟩, ⟨TD, dv1, dv2, dv3⟩, ⟨TC, cv1, cv2, cv3⟩, hfr, hfi⟩ := id hcam
  refine lv_iload_n hx hb dX6_wouldClip_0 rfl (lv_at hl 1 rfl) ?_
  refine lv_iload_n hx hb dX6_wouldClip_1 rfl (lv_at hl 2 rfl) ?_
  refine iw_pv (va_runS (As := [.int (nI t1), .int (nI g1)]) (rest := []) ⟨hx, hb, hml, hown, hts⟩ (kX6_needExposure l t1 g1 ht hg) (va_cwS 2 hts gX6_wouldClip_X6_needExposure rfl rfl rfl (by decide +kernel) ⟨Nat.le_of_ble_eq_true rfl, Nat.le_of_ble_eq_true rfl⟩) ⟨fun a U g mk q => q, fun U hU hW => ⟨rfl, trivial⟩⟩ rfl rfl hl.1 rfl (lv_room (Nat.le_of_ble_eq_true rfl)) dX6_wouldClip_2 ⟨Nat.le_of_ble_eq_true rfl, Nat.le_of_ble_eq_true rfl⟩) hP hS (fun u8 H locs hw8 hP hS => ?_)
  refine lv_aload_n hx hb dX6_wouldClip_5 rfl (lv_at hl 0 rfl) ?_
  refine iw_get hx hb hts iu_X6_wouldClip_6 hown hK hP (by omega) (h0) rfl 1 (by decide) (hts _ il_X6_wouldClip_19) (fun _ h9 => h9) rfl dX6_wouldClip_6 ?_
  refine lv_aload_n hx hb dX6_wouldClip_9 rfl (lv_at hl 0 rfl) ?_
  refine iw_get hx hb hts iu_X6_wouldClip_6 hown hK hP (by omega) (h0) rfl 0 (by decide) (hts _ il_X6_wouldClip_12) (fun _ h9 => h9) rfl dX6_wouldClip_10 ?_
  refine lv_iload_n hx hb dX6_wouldClip_13 rfl (lv_at hl 1 rfl) ?_
  refine lv_iload_n hx hb dX6_wouldClip_14 rfl (lv_at hl 2 rfl) ?_
  refine lv_aload_n hx hb dX6_wouldClip_15 rfl (lv_at hl 0 rfl) ?_
  refine iw_get hx hb hts iu_X6_wouldClip_6 hown hK hP (by omega) (h0) rfl 6 (by decide) (hts _ il_X6_wouldClip_43) (fun _ h9 => h9) rfl dX6_wouldClip_16 ?_
  refine iw_i (va_runV (As := [.ref (ad (o + 1)), .int (nI t1), .int (nI g1), .ref (ad (o + 9))]) (rest := []) ⟨hx, hb, hml, hown, hts⟩ (kX4_expose l G N ad _ (by omega) (by omega) (by omega) (s1) (s2) (s3) (by omega) (by omega) (by omega) (e1) (e2) (e3) (by omega) (by omega) (tr1) (tr2) (by omega) (by omega) ok5 (time := t1) (gain := g1) ht.1 ht.2 ok2 _) (cwV 4 hts gX6_wouldClip_X4_expose rfl rfl rfl (by decide +kernel) ⟨Nat.le_of_ble_eq_true rfl, Nat.le_of_ble_eq_true rfl⟩) (iPV hK hP hD (by omega) (e1) rfl [.ref (ad (o + 1)), .int (nI t1), .int (nI g1), .ref (ad (o + 9))]) rfl rfl hl.1 rfl (lv_room (Nat.le_of_ble_eq_true rfl)) dX6_wouldClip_19 ⟨Nat.le_of_ble_eq_true rfl, Nat.le_of_ble_eq_true rfl⟩) hD hS hA (fun r8 u8 H locs hw8 hP hD hS => ?_)
  obtain ⟨hr8, hu8⟩ := hw8
  refine lv_asI hr8 ?_
  rw [hu8] at hP hD
  refine lv_pop hx hb dX6_wouldClip_22 rfl ?_
  refine lv_aload_n hx hb dX6_wouldClip_23 rfl (lv_at hl 0 rfl) ?_
  refine iw_get hx hb hts iu_X6_wouldClip_6 hown hK hP (by omega) ((va_un _ _ (by omega)).trans ((va_un _ _ (by omega)).trans (h0))) rfl 6 (by decide) (hts _ il_X6_wouldClip_43) (fun _ h9 => h9) rfl dX6_wouldClip_24 ?_
  refine iw_i (va_runV (As := []) (rest := []) ⟨hx, hb, hml, hown, hts⟩ (kX1_countClipped l G N ad _ (by omega) (by omega) (va_us _ _ _) ((va_un _ _ (by omega)).trans (va_us _ _ _)) (fun i _ => (exN_ok _ _ _ _ _ _ i).1) _) (cwV 0 hts gX6_wouldClip_X1_countClipped rfl rfl rfl (by decide +kernel) ⟨Nat.le_of_ble_eq_true rfl, Nat.le_of_ble_eq_true rfl⟩) (iPV hK hP hD (by omega) (va_us _ _ _) rfl []) rfl rfl hl.1 rfl (lv_room (Nat.le_of_ble_eq_true rfl)) dX6_wouldClip_27 ⟨Nat.le_of_ble_eq_true rfl, Nat.le_of_ble_eq_true rfl⟩) hD hS hA (fun r8 u8 H locs hw8 hP hD hS => ?_)
  obtain ⟨hr8, hu8⟩ := hw8
  refine lv_asI hr8 ?_
  rw [hu8] at hP hD
  have q1 := up_traw hcam (exN (sHw S) (sSh S) (sFac S) (sDr S) t1 g1)
  have q2 := up_tobj q1 (nI t1) (nI g1) TF.2.2.2.2
  exact W.iret (v := (nI (clN (exN (sHw S) (sSh S) (sFac S) (sDr S) t1 g1) 64))) hx hb hr (fun t ht hW => ⟨⟨_, _, rfl, ⟨rfl, q2, same_up (same_up (same_rf) _ (by omega) (by omega)) _ (by omega) (by omega)⟩, iB_of ht hP⟩, hS.F ht⟩) hS.2.2 dX6_wouldClip_30
abbrev rmX6_many : Room := { frames := 2, cells := 0, slots := 0, locals := 42 }
set_option maxRecDepth 20000 in
theorem iu_X6_many_6 : ∀ w ∈ u_ws RX6 TX6 9, w ∈ wsX6_many := by decide +kernel
set_option maxRecDepth 20000 in
theorem il_X6_many_35 : (Cond.fieldLink RX6 35 "BayerGate" "frameCount" "I") ∈ wsX6_many := by decide +kernel
set_option maxRecDepth 20000 in
theorem il_X6_many_39 : (Cond.fieldLink RX6 39 "BayerGate" "fileCount" "I") ∈ wsX6_many := by decide +kernel
set_option maxRecDepth 20000 in
theorem il_X6_many_19 : (Cond.fieldLink RX6 19 "BayerGate" "sensor" "LBayerGate$Sensor;") ∈ wsX6_many := by decide +kernel
set_option maxRecDepth 20000 in
theorem iu_X6_many_4 : ∀ w ∈ u_ws RX4 TX4 3, w ∈ wsX6_many := by decide +kernel
set_option maxHeartbeats 4000000 in
set_option maxRecDepth 100000 in
theorem kX6_many (l : Launch) (G : iG) (N : Nat) (ad : Nat → Nat) (C : Nat → va_E) (o : Nat) (S : St) (hcam : Cam G N ad C o S) (w : Nat) (hw7 : w < 7) (sz : Nat) : Met l yX6_many wsX6_many rmX6_many (iPre G N ad C sz [.ref (ad o), .int (nI w)]) (va_Qi (fun (r : Int32) (u : Nat → va_E) => r = maI S w ∧ u = C) (iB G N ad) (iA N ad sz)) 0 0 (iA N ad sz) := by
  refine Met.ofW (cc := cX6_many) (maxL := 2) (ret := (some .int)) (by decide) rfl ?_
  intro p e s m args below meth c s₁ B hml hv
  obtain ⟨rfl, hsz, hP, hK, hD0⟩ := hv
  have hx := B.exec
  have hb := B.bytes
  have hr := B.returns
  have hts := atoms_spec (ws := wsX6_many) B.pre
  have hown : s.vm.findClass RX6 = some m.cls := findClass_of_methodNamed B.named
  have hlocks := B.notSynchronized
  subst hsz
  have hD := wl_self hD0 s.heap.size
  have hA : ∀ q : Nat, s.heap.size ≤ q → iA N ad s.heap.size q := fun q h => Or.inr h
  have hS : va_S (iA N ad s.heap.size) s.heap s.heap [] := va_S.rf
  have hP : va_P G.1 vwB (wl N ad C) s.heap := hP
  have hl := lv_entry ([.ref (ad o), .int (nI w)]) (n := 2) (Nat.le_of_ble_eq_true rfl)
  rw [lg_entry_eq]
  generalize (lg_sl ([.ref (ad o), .int (nI w)]) ++ List.replicate (2 - (lg_sl ([.ref (ad o), .int (nI w)])).length) Slot.unset).toArray = ls at hl ⊢
  have hl : lv_has ls 2 [(0, .ref (ad o)), (1, .int (nI w))] := hl
  obtain ⟨hN, ⟨ok1, ok2, ok3, ok4, ok5, ok6, ok7, ok8, ok9⟩, h0, ⟨s1, s2, s3⟩, ⟨e1, e2, e3⟩, ⟨F7, h7, hF7⟩, ⟨F8, h8, hF8⟩, ⟨TF, tr1, tr2, tr3, tr4, tr5⟩, ⟨TD, dv1, dv2, dv3⟩, ⟨TC, cv1, cv2, cv3⟩, hfr, hfi⟩ := id hcam
  refine lv_iload_n hx hb dX6_many_0 rfl (lv_at hl 1 rfl) ?_
  refine lv_iconst (v := nI 0) hx hb dX6_many_1 (by decide) ?_
  refine lv_bipush (v := nI 6) hx hb dX6_many_2 (by decide) ?_
  refine iw_pv (va_runS (As := [.int (nI w), .int (nI 0), .int (nI 6)]) (rest := []) ⟨hx, hb, hml, hown, hts⟩ (kX6_needRange l (nI w) (nI 0) (nI 6) (nI_nlt (by omega) (by omega)) (nI_le (by omega) (by omega))) (va_cwS 3 hts gX6_many_X6_needRange rfl rfl rfl (by decide +kernel) ⟨Nat.le_of_ble_eq_true rfl, Nat.le_of_ble_eq_true rfl⟩) ⟨fun a U g mk q => q, fun U hU hW => ⟨rfl, trivial⟩⟩ rfl rfl hl.1 rfl (lv_room (Nat.le_of_ble_eq_true rfl)) dX6_many_4 ⟨Nat.le_of_ble_eq_true rfl, Nat.le_of_ble_eq_true rfl⟩) hP hS (fun u8 H locs hw8 hP hS => ?_)
  refine lv_iload_n hx hb dX6_many_7 rfl (lv_at hl 1 rfl) ?_
  rcases (show w = 0 ∨ w = 1 ∨ w = 2 ∨ w = 3 ∨ w = 4 ∨ w = 5 ∨ w = 6 by omega) with rfl | rfl | rfl | rfl | rfl | rfl | rfl
  · refine lv_tableIn (off := 40) (tgt := 48) hx hb dX6_many_8 (by decide) (by decide) (by decide) (by decide) ?_
    refine lv_aload_n hx hb dX6_many_48 rfl (lv_at hl 0 rfl) ?_
    refine iw_get hx hb hts iu_X6_many_6 hown hK hP (by omega) (h0) rfl 4 (by decide) (hts _ il_X6_many_35) (fun _ h9 => h9) rfl dX6_many_49 ?_
    exact W.iret (v := (nI (sFn S))) hx hb hr (fun t ht hW => ⟨⟨_, _, rfl, ⟨rfl, rfl⟩, iB_of ht hP⟩, hS.F ht⟩) hS.2.2 dX6_many_52
  · refine lv_tableIn (off := 45) (tgt := 53) hx hb dX6_many_8 (by decide) (by decide) (by decide) (by decide) ?_
    refine lv_aload_n hx hb dX6_many_53 rfl (lv_at hl 0 rfl) ?_
    refine iw_get hx hb hts iu_X6_many_6 hown hK hP (by omega) (h0) rfl 5 (by decide) (hts _ il_X6_many_39) (fun _ h9 => h9) rfl dX6_many_54 ?_
    exact W.iret (v := (nI (sFl S))) hx hb hr (fun t ht hW => ⟨⟨_, _, rfl, ⟨rfl, rfl⟩, iB_of ht hP⟩, hS.F ht⟩) hS.2.2 dX6_many_57
  · refine lv_tableIn (off := 50) (tgt := 58) hx hb dX6_many_8 (by decide) (by decide) (by decide) (by decide) ?_
    refine lv_aload_n hx hb dX6_many_58 rfl (lv_at hl 0 rfl) ?_
    refine iw_get hx hb hts iu_X6_many_6 hown hK hP (by omega) (h0) rfl 1 (by decide) (hts _ il_X6_many_19) (fun _ h9 => h9) rfl dX6_many_59 ?_
    refine iw_i (va_runV (As := []) (rest := []) ⟨hx, hb, hml, hown, hts⟩ (kX4_countMapped l G N ad _ (by omega) (by omega) (by omega) (e1) (e2) (e3) _) (cwV 0 hts gX6_many_X4_countMapped rfl rfl rfl (by decide +kernel) ⟨Nat.le_of_ble_eq_true rfl, Nat.le_of_ble_eq_true rfl⟩) (iPV hK hP hD (by omega) (e1) rfl []) rfl rfl hl.1 rfl (lv_room (Nat.le_of_ble_eq_true rfl)) dX6_many_62 ⟨Nat.le_of_ble_eq_true rfl, Nat.le_of_ble_eq_true rfl⟩) hD hS hA (fun r8 u8 H locs hw8 hP hD hS => ?_)
    obtain ⟨hr8, hu8⟩ := hw8
    refine lv_asI hr8 ?_
    rw [hu8] at hP hD
    exact W.iret (v := (nI (ctN (sMp S) 64))) hx hb hr (fun t ht hW => ⟨⟨_, _, rfl, ⟨rfl, rfl⟩, iB_of ht hP⟩, hS.F ht⟩) hS.2.2 dX6_many_65
  · refine lv_tableIn (off := 58) (tgt := 66) hx hb dX6_many_8 (by decide) (by decide) (by decide) (by decide) ?_
    refine lv_aload_n hx hb dX6_many_66 rfl (lv_at hl 0 rfl) ?_
    refine iw_get hx hb hts iu_X6_many_6 hown hK hP (by omega) (h0) rfl 1 (by decide) (hts _ il_X6_many_19) (fun _ h9 => h9) rfl dX6_many_67 ?_
    refine iw_getN hx hb hts iu_X6_many_4 hown hK hP (by omega) (e1) rfl 2 (by decide) (nw_RX6_228 hK.2) (fun _ h9 => h9) rfl dX6_many_70 ?_
    exact W.iret (v := (nI (sDr S))) hx hb hr (fun t ht hW => ⟨⟨_, _, rfl, ⟨rfl, rfl⟩, iB_of ht hP⟩, hS.F ht⟩) hS.2.2 dX6_many_73
  · refine lv_tableIn (off := 66) (tgt := 74) hx hb dX6_many_8 (by decide) (by decide) (by decide) (by decide) ?_
    refine lv_aload_n hx hb dX6_many_74 rfl (lv_at hl 0 rfl) ?_
    refine iw_i (va_runV (As := []) (rest := []) ⟨hx, hb, hml, hown, hts⟩ (kX6_countEdits l G N ad C o S hcam _) (cwV 0 hts gX6_many_X6_countEdits rfl rfl rfl (by decide +kernel) ⟨Nat.le_of_ble_eq_true rfl, Nat.le_of_ble_eq_true rfl⟩) (iPV hK hP hD (by omega) (h0) rfl []) rfl rfl hl.1 rfl (lv_room (Nat.le_of_ble_eq_true rfl)) dX6_many_75 ⟨Nat.le_of_ble_eq_true rfl, Nat.le_of_ble_eq_true rfl⟩) hD hS hA (fun r8 u8 H locs hw8 hP hD hS => ?_)
    obtain ⟨hr8, hu8⟩ := hw8
    refine lv_asI hr8 ?_
    rw [hu8] at hP hD
    exact W.iret (v := (nI (ceN (sFr S) (sFn S)))) hx hb hr (fun t ht hW => ⟨⟨_, _, rfl, ⟨rfl, rfl⟩, iB_of ht hP⟩, hS.F ht⟩) hS.2.2 dX6_many_78
  · refine lv_tableIn (off := 71) (tgt := 79) hx hb dX6_many_8 (by decide) (by decide) (by decide) (by decide) ?_
    refine lv_aload_n hx hb dX6_many_79 rfl (lv_at hl 0 rfl) ?_
    refine iw_get hx hb hts iu_X6_many_6 hown hK hP (by omega) (h0) rfl 1 (by decide) (hts _ il_X6_many_19) (fun _ h9 => h9) rfl dX6_many_80 ?_
    refine lv_iconst (v := nI 1) hx hb dX6_many_83 (by decide) ?_
    refine lv_asI (y := if true then nI 1 else nI 0) rfl ?_
    refine iw_i (va_runV (As := [.int (if true then nI 1 else nI 0)]) (rest := []) ⟨hx, hb, hml, hown, hts⟩ (kX4_countSpoilt l G N ad _ (by omega) (by omega) (by omega) (e1) (e2) (e3) ok4 true _) (cwV 1 hts gX6_many_X4_countSpoilt rfl rfl rfl (by decide +kernel) ⟨Nat.le_of_ble_eq_true rfl, Nat.le_of_ble_eq_true rfl⟩) (iPV hK hP hD (by omega) (e1) rfl [.int (if true then nI 1 else nI 0)]) rfl rfl hl.1 rfl (lv_room (Nat.le_of_ble_eq_true rfl)) dX6_many_84 ⟨Nat.le_of_ble_eq_true rfl, Nat.le_of_ble_eq_true rfl⟩) hD hS hA (fun r8 u8 H locs hw8 hP hD hS => ?_)
    obtain ⟨hr8, hu8⟩ := hw8
    refine lv_asI hr8 ?_
    rw [hu8] at hP hD
    exact W.iret (v := (nI (csN (sHw S) (sMp S) true 64))) hx hb hr (fun t ht hW => ⟨⟨_, _, rfl, ⟨rfl, rfl⟩, iB_of ht hP⟩, hS.F ht⟩) hS.2.2 dX6_many_87
  · refine lv_tableOut (tgt := 88) hx hb dX6_many_8 (by decide) (by decide) ?_
    refine lv_aload_n hx hb dX6_many_88 rfl (lv_at hl 0 rfl) ?_
    refine iw_get hx hb hts iu_X6_many_6 hown hK hP (by omega) (h0) rfl 1 (by decide) (hts _ il_X6_many_19) (fun _ h9 => h9) rfl dX6_many_89 ?_
    refine lv_iconst (v := nI 0) hx hb dX6_many_92 (by decide) ?_
    refine lv_asI (y := if false then nI 1 else nI 0) rfl ?_
    refine iw_i (va_runV (As := [.int (if false then nI 1 else nI 0)]) (rest := []) ⟨hx, hb, hml, hown, hts⟩ (kX4_countSpoilt l G N ad _ (by omega) (by omega) (by omega) (e1) (e2) (e3) ok4 false _) (cwV 1 hts gX6_many_X4_countSpoilt rfl rfl rfl (by decide +kernel) ⟨Nat.le_of_ble_eq_true rfl, Nat.le_of_ble_eq_true rfl⟩) (iPV hK hP hD (by omega) (e1) rfl [.int (if false then nI 1 else nI 0)]) rfl rfl hl.1 rfl (lv_room (Nat.le_of_ble_eq_true rfl)) dX6_many_93 ⟨Nat.le_of_ble_eq_true rfl, Nat.le_of_ble_eq_true rfl⟩) hD hS hA (fun r8 u8 H locs hw8 hP hD hS => ?_)
    obtain ⟨hr8, hu8⟩ := hw8
    refine lv_asI hr8 ?_
    rw [hu8] at hP hD
    exact W.iret (v := (nI (csN (sHw S) (sMp S) false 64))) hx hb hr (fun t ht hW => ⟨⟨_, _, rfl, ⟨rfl, rfl⟩, iB_of ht hP⟩, hS.F ht⟩) hS.2.2 dX6_many_96
def dgM (S : St) : Nat → Int64
  | 0 => 9602
  | n + 1 => dgM S n * 31 + (maI S n).toInt64
def dgI (S : St) : Int64 := dgM S 7 * 31 + (nI (clN (exN (sHw S) (sSh S) (sFac S) (sDr S) 16 1) 64)).toInt64
abbrev rmX6_digest : Room := { frames := 4, cells := 0, slots := 0, locals := 96 }
set_option maxRecDepth 20000 in
theorem il_X6_digest_260 : (Cond.constantLong RX6 260 (9602)) ∈ wsX6_digest := by decide +kernel
set_option maxRecDepth 20000 in
theorem il_X6_digest_262 : (Cond.constantLong RX6 262 (31)) ∈ wsX6_digest := by decide +kernel
set_option maxRecDepth 20000 in
theorem iu_X6_digest_6 : ∀ w ∈ u_ws RX6 TX6 9, w ∈ wsX6_digest := by decide +kernel
set_option maxRecDepth 20000 in
theorem il_X6_digest_35 : (Cond.fieldLink RX6 35 "BayerGate" "frameCount" "I") ∈ wsX6_digest := by decide +kernel
set_option maxRecDepth 20000 in
theorem il_X6_digest_39 : (Cond.fieldLink RX6 39 "BayerGate" "fileCount" "I") ∈ wsX6_digest := by decide +kernel
set_option maxHeartbeats 4000000 in
set_option maxRecDepth 100000 in
theorem kX6_digest (l : Launch) (G : iG) (N : Nat) (ad : Nat → Nat) (C : Nat → va_E) (o : Nat) (S : St) (hcam : Cam G N ad C o S) (hf0 : sFn S = 0) (hl0 : sFl S = 0) (sz : Nat) : Met l yX6_digest wsX6_digest rmX6_digest (iPre G N ad C sz [.ref (ad o)]) (va_Ql (fun (r : Int64) (u : Nat → va_E) => r = dgI S ∧ Cam G N ad u o S ∧ same C u o) (iB G N ad) (iA N ad sz)) 0 0 (iA N ad sz) := by
  refine Met.ofW (cc := cX6_digest) (maxL := 6) (ret := (some .long)) (by decide) rfl ?_
  intro p e s m args below meth c s₁ B hml hv
  obtain ⟨rfl, hsz, hP, hK, hD0⟩ := hv
  have hx := B.exec
  have hb := B.bytes
  have hr := B.returns
  have hts := atoms_spec (ws := wsX6_digest) B.pre
  have hown : s.vm.findClass RX6 = some m.cls := findClass_of_methodNamed B.named
  have hlocks := B.notSynchronized
  subst hsz
  have hD := wl_self hD0 s.heap.size
  have hA : ∀ q : Nat, s.heap.size ≤ q → iA N ad s.heap.size q := fun q h => Or.inr h
  have hS : va_S (iA N ad s.heap.size) s.heap s.heap [] := va_S.rf
  have hP : va_P G.1 vwB (wl N ad C) s.heap := hP
  have hl := lv_entry ([.ref (ad o)]) (n := 6) (Nat.le_of_ble_eq_true rfl)
  rw [lg_entry_eq]
  generalize (lg_sl ([.ref (ad o)]) ++ List.replicate (6 - (lg_sl ([.ref (ad o)])).length) Slot.unset).toArray = ls at hl ⊢
  have hl : lv_has ls 6 [(0, .ref (ad o))] := hl
  obtain ⟨hN, ⟨ok1, ok2, ok3, ok4, ok5, ok6, ok7, ok8, ok9⟩, h0, ⟨s1, s2, s3⟩, ⟨e1, e2, e3⟩, ⟨F7, h7, hF7⟩, ⟨F8, h8, hF8⟩, ⟨TF, tr1, tr2, tr3, tr4, tr5⟩, ⟨TD, dv1, dv2, dv3⟩, ⟨TC, cv1, cv2, cv3⟩, hfr, hfi⟩ := id hcam
  refine lv_ldc2 hx hb hown (hts _ il_X6_digest_260) dX6_digest_0 ?_
  refine lv_asL (y := dgM S 0) rfl ?_
  refine lv_lstore_n (lv' := [(1, .long (dgM S 0)), (0, .ref (ad o))]) hx hb dX6_digest_3 rfl hl (by decide) rfl (fun ls hl => ?_)
  refine lv_iconst (v := nI 0) hx hb dX6_digest_4 (by decide) ?_
  refine lv_istore_n (lv' := [(3, .int (nI 0)), (1, .long (dgM S 0)), (0, .ref (ad o))]) hx hb dX6_digest_5 rfl hl (by decide) rfl (fun ls hl => ?_)
  refine lv_iload_n hx hb dX6_digest_6 rfl (lv_at hl 0 rfl) ?_
  refine lv_bipush (v := nI 6) hx hb dX6_digest_7 (by decide) ?_
  refine lv_icmp_gt (tgt := 31) hx hb dX6_digest_9 (by decide) (fun c9 => absurd c9 (by decide)) (fun _ => ?_)
  refine lv_lload_n hx hb dX6_digest_12 rfl (lv_at hl 1 rfl) ?_
  refine lv_ldc2 hx hb hown (hts _ il_X6_digest_262) dX6_digest_13 ?_
  refine lv_lmul hx hb dX6_digest_16 ?_
  refine lv_aload_n hx hb dX6_digest_17 rfl (lv_at hl 2 rfl) ?_
  refine lv_iload_n hx hb dX6_digest_18 rfl (lv_at hl 0 rfl) ?_
  refine iw_i (va_runV (As := [.int (nI 0)]) (rest := [.long ((dgM S 0) * (31))]) ⟨hx, hb, hml, hown, hts⟩ (kX6_many l G N ad C o S hcam 0 (by omega) _) (cwV 1 hts gX6_digest_X6_many rfl rfl rfl (by decide +kernel) ⟨Nat.le_of_ble_eq_true rfl, Nat.le_of_ble_eq_true rfl⟩) (iPV hK hP hD (by omega) (h0) rfl [.int (nI 0)]) rfl rfl hl.1 rfl (lv_room (Nat.le_of_ble_eq_true rfl)) dX6_digest_19 ⟨Nat.le_of_ble_eq_true rfl, Nat.le_of_ble_eq_true rfl⟩) hD hS hA (fun r8 u8 H locs hw8 hP hD hS => ?_)
  obtain ⟨hr8, hu8⟩ := hw8
  refine lv_asI hr8 ?_
  rw [hu8] at hP hD
  refine lv_i2l (v := (maI S 0).toInt64) hx hb dX6_digest_22 rfl ?_
  refine lv_ladd hx hb dX6_digest_23 ?_
  refine lv_asL (y := dgM S 1) rfl ?_
  refine lv_lstore_n (lv' := [(1, .long (dgM S 1)), (3, .int (nI 0)), (0, .ref (ad o))]) hx hb dX6_digest_24 rfl hl (by decide) rfl (fun ls hl => ?_)
  refine lv_iinc (v := nI 1) (lv' := [(3, .int (nI 1)), (1, .long (dgM S 1)), (0, .ref (ad o))]) hx hb dX6_digest_25 hl (k := 1) rfl (iinc_nat _ 1) (by decide) rfl (fun ls hl => ?_)
  refine lv_goto (tgt := 6) hx hb dX6_digest_28 (by decide) ?_
  refine lv_iload_n hx hb dX6_digest_6 rfl (lv_at hl 0 rfl) ?_
  refine lv_bipush (v := nI 6) hx hb dX6_digest_7 (by decide) ?_
  refine lv_icmp_gt (tgt := 31) hx hb dX6_digest_9 (by decide) (fun c9 => absurd c9 (by decide)) (fun _ => ?_)
  refine lv_lload_n hx hb dX6_digest_12 rfl (lv_at hl 1 rfl) ?_
  refine lv_ldc2 hx hb hown (hts _ il_X6_digest_262) dX6_digest_13 ?_
  refine lv_lmul hx hb dX6_digest_16 ?_
  refine lv_aload_n hx hb dX6_digest_17 rfl (lv_at hl 2 rfl) ?_
  refine lv_iload_n hx hb dX6_digest_18 rfl (lv_at hl 0 rfl) ?_
  refine iw_i (va_runV (As := [.int (nI 1)]) (rest := [.long ((dgM S 1) * (31))]) ⟨hx, hb, hml, hown, hts⟩ (kX6_many l G N ad C o S hcam 1 (by omega) _) (cwV 1 hts gX6_digest_X6_many rfl rfl rfl (by decide +kernel) ⟨Nat.le_of_ble_eq_true rfl, Nat.le_of_ble_eq_true rfl⟩) (iPV hK hP hD (by omega) (h0) rfl [.int (nI 1)]) rfl rfl hl.1 rfl (lv_room (Nat.le_of_ble_eq_true rfl)) dX6_digest_19 ⟨Nat.le_of_ble_eq_true rfl, Nat.le_of_ble_eq_true rfl⟩) hD hS hA (fun r8 u8 H locs hw8 hP hD hS => ?_)
  obtain ⟨hr8, hu8⟩ := hw8
  refine lv_asI hr8 ?_
  rw [hu8] at hP hD
  refine lv_i2l (v := (maI S 1).toInt64) hx hb dX6_digest_22 rfl ?_
  refine lv_ladd hx hb dX6_digest_23 ?_
  refine lv_asL (y := dgM S 2) rfl ?_
  refine lv_lstore_n (lv' := [(1, .long (dgM S 2)), (3, .int (nI 1)), (0, .ref (ad o))]) hx hb dX6_digest_24 rfl hl (by decide) rfl (fun ls hl => ?_)
  refine lv_iinc (v := nI 2) (lv' := [(3, .int (nI 2)), (1, .long (dgM S 2)), (0, .ref (ad o))]) hx hb dX6_digest_25 hl (k := 1) rfl (iinc_nat _ 1) (by decide) rfl (fun ls hl => ?_)
  refine lv_goto (tgt := 6) hx hb dX6_digest_28 (by decide) ?_
  refine lv_iload_n hx hb dX6_digest_6 rfl (lv_at hl 0 rfl) ?_
  refine lv_bipush (v := nI 6) hx hb dX6_digest_7 (by decide) ?_
  refine lv_icmp_gt (tgt := 31) hx hb dX6_digest_9 (by decide) (fun c9 => absurd c9 (by decide)) (fun _ => ?_)
  refine lv_lload_n hx hb dX6_digest_12 rfl (lv_at hl 1 rfl) ?_
  refine lv_ldc2 hx hb hown (hts _ il_X6_digest_262) dX6_digest_13 ?_
  refine lv_lmul hx hb dX6_digest_16 ?_
  refine lv_aload_n hx hb dX6_digest_17 rfl (lv_at hl 2 rfl) ?_
  refine lv_iload_n hx hb dX6_digest_18 rfl (lv_at hl 0 rfl) ?_
  refine iw_i (va_runV (As := [.int (nI 2)]) (rest := [.long ((dgM S 2) * (31))]) ⟨hx, hb, hml, hown, hts⟩ (kX6_many l G N ad C o S hcam 2 (by omega) _) (cwV 1 hts gX6_digest_X6_many rfl rfl rfl (by decide +kernel) ⟨Nat.le_of_ble_eq_true rfl, Nat.le_of_ble_eq_true rfl⟩) (iPV hK hP hD (by omega) (h0) rfl [.int (nI 2)]) rfl rfl hl.1 rfl (lv_room (Nat.le_of_ble_eq_true rfl)) dX6_digest_19 ⟨Nat.le_of_ble_eq_true rfl, Nat.le_of_ble_eq_true rfl⟩) hD hS hA (fun r8 u8 H locs hw8 hP hD hS => ?_)
  obtain ⟨hr8, hu8⟩ := hw8
  refine lv_asI hr8 ?_
  rw [hu8] at hP hD
  refine lv_i2l (v := (maI S 2).toInt64) hx hb dX6_digest_22 rfl ?_
  refine lv_ladd hx hb dX6_digest_23 ?_
  refine lv_asL (y := dgM S 3) rfl ?_
  refine lv_lstore_n (lv' := [(1, .long (dgM S 3)), (3, .int (nI 2)), (0, .ref (ad o))]) hx hb dX6_digest_24 rfl hl (by decide) rfl (fun ls hl => ?_)
  refine lv_iinc (v := nI 3) (lv' := [(3, .int (nI 3)), (1, .long (dgM S 3)), (0, .ref (ad o))]) hx hb dX6_digest_25 hl (k := 1) rfl (iinc_nat _ 1) (by decide) rfl (fun ls hl => ?_)
  refine lv_goto (tgt := 6) hx hb dX6_digest_28 (by decide) ?_
  refine lv_iload_n hx hb dX6_digest_6 rfl (lv_at hl 0 rfl) ?_
  refine lv_bipush (v := nI 6) hx hb dX6_digest_7 (by decide) ?_
  refine lv_icmp_gt (tgt := 31) hx hb dX6_digest_9 (by decide) (fun c9 => absurd c9 (by decide)) (fun _ => ?_)
  refine lv_lload_n hx hb dX6_digest_12 rfl (lv_at hl 1 rfl) ?_
  refine lv_ldc2 hx hb hown (hts _ il_X6_digest_262) dX6_digest_13 ?_
  refine lv_lmul hx hb dX6_digest_16 ?_
  refine lv_aload_n hx hb dX6_digest_17 rfl (lv_at hl 2 rfl) ?_
  refine lv_iload_n hx hb dX6_digest_18 rfl (lv_at hl 0 rfl) ?_
  refine iw_i (va_runV (As := [.int (nI 3)]) (rest := [.long ((dgM S 3) * (31))]) ⟨hx, hb, hml, hown, hts⟩ (kX6_many l G N ad C o S hcam 3 (by omega) _) (cwV 1 hts gX6_digest_X6_many rfl rfl rfl (by decide +kernel) ⟨Nat.le_of_ble_eq_true rfl, Nat.le_of_ble_eq_true rfl⟩) (iPV hK hP hD (by omega) (h0) rfl [.int (nI 3)]) rfl rfl hl.1 rfl (lv_room (Nat.le_of_ble_eq_true rfl)) dX6_digest_19 ⟨Nat.le_of_ble_eq_true rfl, Nat.le_of_ble_eq_true rfl⟩) hD hS hA (fun r8 u8 H locs hw8 hP hD hS => ?_)
  obtain ⟨hr8, hu8⟩ := hw8
  refine lv_asI hr8 ?_
  rw [hu8] at hP hD
  refine lv_i2l (v := (maI S 3).toInt64) hx hb dX6_digest_22 rfl ?_
  refine lv_ladd hx hb dX6_digest_23 ?_
  refine lv_asL (y := dgM S 4) rfl ?_
  refine lv_lstore_n (lv' := [(1, .long (dgM S 4)), (3, .int (nI 3)), (0, .ref (ad o))]) hx hb dX6_digest_24 rfl hl (by decide) rfl (fun ls hl => ?_)
  refine lv_iinc (v := nI 4) (lv' := [(3, .int (nI 4)), (1, .long (dgM S 4)), (0, .ref (ad o))]) hx hb dX6_digest_25 hl (k := 1) rfl (iinc_nat _ 1) (by decide) rfl (fun ls hl => ?_)
  refine lv_goto (tgt := 6) hx hb dX6_digest_28 (by decide) ?_
  refine lv_iload_n hx hb dX6_digest_6 rfl (lv_at hl 0 rfl) ?_
  refine lv_bipush (v := nI 6) hx hb dX6_digest_7 (by decide) ?_
  refine lv_icmp_gt (tgt := 31) hx hb dX6_digest_9 (by decide) (fun c9 => absurd c9 (by decide)) (fun _ => ?_)
  refine lv_lload_n hx hb dX6_digest_12 rfl (lv_at hl 1 rfl) ?_
  refine lv_ldc2 hx hb hown (hts _ il_X6_digest_262) dX6_digest_13 ?_
  refine lv_lmul hx hb dX6_digest_16 ?_
  refine lv_aload_n hx hb dX6_digest_17 rfl (lv_at hl 2 rfl) ?_
  refine lv_iload_n hx hb dX6_digest_18 rfl (lv_at hl 0 rfl) ?_
  refine iw_i (va_runV (As := [.int (nI 4)]) (rest := [.long ((dgM S 4) * (31))]) ⟨hx, hb, hml, hown, hts⟩ (kX6_many l G N ad C o S hcam 4 (by omega) _) (cwV 1 hts gX6_digest_X6_many rfl rfl rfl (by decide +kernel) ⟨Nat.le_of_ble_eq_true rfl, Nat.le_of_ble_eq_true rfl⟩) (iPV hK hP hD (by omega) (h0) rfl [.int (nI 4)]) rfl rfl hl.1 rfl (lv_room (Nat.le_of_ble_eq_true rfl)) dX6_digest_19 ⟨Nat.le_of_ble_eq_true rfl, Nat.le_of_ble_eq_true rfl⟩) hD hS hA (fun r8 u8 H locs hw8 hP hD hS => ?_)
  obtain ⟨hr8, hu8⟩ := hw8
  refine lv_asI hr8 ?_
  rw [hu8] at hP hD
  refine lv_i2l (v := (maI S 4).toInt64) hx hb dX6_digest_22 rfl ?_
  refine lv_ladd hx hb dX6_digest_23 ?_
  refine lv_asL (y := dgM S 5) rfl ?_
  refine lv_lstore_n (lv' := [(1, .long (dgM S 5)), (3, .int (nI 4)), (0, .ref (ad o))]) hx hb dX6_digest_24 rfl hl (by decide) rfl (fun ls hl => ?_)
  refine lv_iinc (v := nI 5) (lv' := [(3, .int (nI 5)), (1, .long (dgM S 5)), (0, .ref (ad o))]) hx hb dX6_digest_25 hl (k := 1) rfl (iinc_nat _ 1) (by decide) rfl (fun ls hl => ?_)
  refine lv_goto (tgt := 6) hx hb dX6_digest_28 (by decide) ?_
  refine lv_iload_n hx hb dX6_digest_6 rfl (lv_at hl 0 rfl) ?_
  refine lv_bipush (v := nI 6) hx hb dX6_digest_7 (by decide) ?_
  refine lv_icmp_gt (tgt := 31) hx hb dX6_digest_9 (by decide) (fun c9 => absurd c9 (by decide)) (fun _ => ?_)
  refine lv_lload_n hx hb dX6_digest_12 rfl (lv_at hl 1 rfl) ?_
  refine lv_ldc2 hx hb hown (hts _ il_X6_digest_262) dX6_digest_13 ?_
  refine lv_lmul hx hb dX6_digest_16 ?_
  refine lv_aload_n hx hb dX6_digest_17 rfl (lv_at hl 2 rfl) ?_
  refine lv_iload_n hx hb dX6_digest_18 rfl (lv_at hl 0 rfl) ?_
  refine iw_i (va_runV (As := [.int (nI 5)]) (rest := [.long ((dgM S 5) * (31))]) ⟨hx, hb, hml, hown, hts⟩ (kX6_many l G N ad C o S hcam 5 (by omega) _) (cwV 1 hts gX6_digest_X6_many rfl rfl rfl (by decide +kernel) ⟨Nat.le_of_ble_eq_true rfl, Nat.le_of_ble_eq_true rfl⟩) (iPV hK hP hD (by omega) (h0) rfl [.int (nI 5)]) rfl rfl hl.1 rfl (lv_room (Nat.le_of_ble_eq_true rfl)) dX6_digest_19 ⟨Nat.le_of_ble_eq_true rfl, Nat.le_of_ble_eq_true rfl⟩) hD hS hA (fun r8 u8 H locs hw8 hP hD hS => ?_)
  obtain ⟨hr8, hu8⟩ := hw8
  refine lv_asI hr8 ?_
  rw [hu8] at hP hD
  refine lv_i2l (v := (maI S 5).toInt64) hx hb dX6_digest_22 rfl ?_
  refine lv_ladd hx hb dX6_digest_23 ?_
  refine lv_asL (y := dgM S 6) rfl ?_
  refine lv_lstore_n (lv' := [(1, .long (dgM S 6)), (3, .int (nI 5)), (0, .ref (ad o))]) hx hb dX6_digest_24 rfl hl (by decide) rfl (fun ls hl => ?_)
  refine lv_iinc (v := nI 6) (lv' := [(3, .int (nI 6)), (1, .long (dgM S 6)), (0, .ref (ad o))]) hx hb dX6_digest_25 hl (k := 1) rfl (iinc_nat _ 1) (by decide) rfl (fun ls hl => ?_)
  refine lv_goto (tgt := 6) hx hb dX6_digest_28 (by decide) ?_
  refine lv_iload_n hx hb dX6_digest_6 rfl (lv_at hl 0 rfl) ?_
  refine lv_bipush (v := nI 6) hx hb dX6_digest_7 (by decide) ?_
  refine lv_icmp_gt (tgt := 31) hx hb dX6_digest_9 (by decide) (fun c9 => absurd c9 (by decide)) (fun _ => ?_)
  refine lv_lload_n hx hb dX6_digest_12 rfl (lv_at hl 1 rfl) ?_
  refine lv_ldc2 hx hb hown (hts _ il_X6_digest_262) dX6_digest_13 ?_
  refine lv_lmul hx hb dX6_digest_16 ?_
  refine lv_aload_n hx hb dX6_digest_17 rfl (lv_at hl 2 rfl) ?_
  refine lv_iload_n hx hb dX6_digest_18 rfl (lv_at hl 0 rfl) ?_
  refine iw_i (va_runV (As := [.int (nI 6)]) (rest := [.long ((dgM S 6) * (31))]) ⟨hx, hb, hml, hown, hts⟩ (kX6_many l G N ad C o S hcam 6 (by omega) _) (cwV 1 hts gX6_digest_X6_many rfl rfl rfl (by decide +kernel) ⟨Nat.le_of_ble_eq_true rfl, Nat.le_of_ble_eq_true rfl⟩) (iPV hK hP hD (by omega) (h0) rfl [.int (nI 6)]) rfl rfl hl.1 rfl (lv_room (Nat.le_of_ble_eq_true rfl)) dX6_digest_19 ⟨Nat.le_of_ble_eq_true rfl, Nat.le_of_ble_eq_true rfl⟩) hD hS hA (fun r8 u8 H locs hw8 hP hD hS => ?_)
  obtain ⟨hr8, hu8⟩ := hw8
  refine lv_asI hr8 ?_
  rw [hu8] at hP hD
  refine lv_i2l (v := (maI S 6).toInt64) hx hb dX6_digest_22 rfl ?_
  refine lv_ladd hx hb dX6_digest_23 ?_
  refine lv_asL (y := dgM S 7) rfl ?_
  refine lv_lstore_n (lv' := [(1, .long (dgM S 7)), (3, .int (nI 6)), (0, .ref (ad o))]) hx hb dX6_digest_24 rfl hl (by decide) rfl (fun ls hl => ?_)
  refine lv_iinc (v := nI 7) (lv' := [(3, .int (nI 7)), (1, .long (dgM S 7)), (0, .ref (ad o))]) hx hb dX6_digest_25 hl (k := 1) rfl (iinc_nat _ 1) (by decide) rfl (fun ls hl => ?_)
  refine lv_goto (tgt := 6) hx hb dX6_digest_28 (by decide) ?_
  refine lv_iload_n hx hb dX6_digest_6 rfl (lv_at hl 0 rfl) ?_
  refine lv_bipush (v := nI 6) hx hb dX6_digest_7 (by decide) ?_
  refine lv_icmp_gt (tgt := 31) hx hb dX6_digest_9 (by decide) (fun _ => ?_) (fun c9 => absurd (by decide) c9)
  refine lv_iconst (v := nI 0) hx hb dX6_digest_31 (by decide) ?_
  refine lv_istore_n (lv' := [(3, .int (nI 0)), (1, .long (dgM S 7)), (0, .ref (ad o))]) hx hb dX6_digest_32 rfl hl (by decide) rfl (fun ls hl => ?_)
  refine lv_iload_n hx hb dX6_digest_33 rfl (lv_at hl 0 rfl) ?_
  refine lv_aload_n hx hb dX6_digest_34 rfl (lv_at hl 2 rfl) ?_
  refine iw_get hx hb hts iu_X6_digest_6 hown hK hP (by omega) (h0) rfl 4 (by decide) (hts _ il_X6_digest_35) (fun _ h9 => h9) rfl dX6_digest_35 ?_
  refine lv_icmp_ge (tgt := 148) hx hb dX6_digest_38 (by decide) (fun _ => ?_) (fun c9 => absurd ((by rw [hf0]; decide)) c9)
  refine lv_iconst (v := nI 0) hx hb dX6_digest_148 (by decide) ?_
  refine lv_istore_n (lv' := [(3, .int (nI 0)), (1, .long (dgM S 7)), (0, .ref (ad o))]) hx hb dX6_digest_149 rfl hl (by decide) rfl (fun ls hl => ?_)
  refine lv_iload_n hx hb dX6_digest_150 rfl (lv_at hl 0 rfl) ?_
  refine lv_aload_n hx hb dX6_digest_151 rfl (lv_at hl 2 rfl) ?_
  refine iw_get hx hb hts iu_X6_digest_6 hown hK hP (by omega) (h0) rfl 5 (by decide) (hts _ il_X6_digest_39) (fun _ h9 => h9) rfl dX6_digest_152 ?_
  refine lv_icmp_ge (tgt := 194) hx hb dX6_digest_155 (by decide) (fun _ => ?_) (fun c9 => absurd ((by rw [hl0]; decide)) c9)
  refine lv_lload_n hx hb dX6_digest_194 rfl (lv_at hl 1 rfl) ?_
  refine lv_ldc2 hx hb hown (hts _ il_X6_digest_262) dX6_digest_195 ?_
  refine lv_lmul hx hb dX6_digest_198 ?_
  refine lv_aload_n hx hb dX6_digest_199 rfl (lv_at hl 2 rfl) ?_
  refine lv_bipush (v := nI 16) hx hb dX6_digest_200 (by decide) ?_
  refine lv_iconst (v := nI 1) hx hb dX6_digest_202 (by decide) ?_
  refine iw_i (va_runV (As := [.int (nI 16), .int (nI 1)]) (rest := [.long ((dgM S 7) * (31))]) ⟨hx, hb, hml, hown, hts⟩ (kX6_wouldClip l G N ad C o S hcam 16 1 (by omega) (by omega) _) (cwV 2 hts gX6_digest_X6_wouldClip rfl rfl rfl (by decide +kernel) ⟨Nat.le_of_ble_eq_true rfl, Nat.le_of_ble_eq_true rfl⟩) (iPV hK hP hD (by omega) (h0) rfl [.int (nI 16), .int (nI 1)]) rfl rfl hl.1 rfl (lv_room (Nat.le_of_ble_eq_true rfl)) dX6_digest_203 ⟨Nat.le_of_ble_eq_true rfl, Nat.le_of_ble_eq_true rfl⟩) hD hS hA (fun r8 u8 H locs hw8 hP hD hS => ?_)
  obtain ⟨hr8, hc8, hs8⟩ := hw8
  refine lv_asI hr8 ?_
  refine lv_i2l (v := (nI (clN (exN (sHw S) (sSh S) (sFac S) (sDr S) 16 1) 64)).toInt64) hx hb dX6_digest_206 rfl ?_
  refine lv_ladd hx hb dX6_digest_207 ?_
  exact W.lret (v := (((dgM S 7) * (31)) + ((nI (clN (exN (sHw S) (sSh S) (sFac S) (sDr S) 16 1) 64)).toInt64))) hx hb hr (fun t ht hW => ⟨⟨_, _, rfl, ⟨rfl, hc8, hs8⟩, iB_of ht hP⟩, hS.F ht⟩) hS.2.2 dX6_digest_208
theorem piF_n (rw : Nat → Nat) (mp : Nat → Bool) {E : Er} (h : okEr E) {i : Nat} (hi : i < 192) : vf_n32 (piF rw mp E i) := bdF_n (coF_n rw mp h i hi)
abbrev rmX6_picture : Room := { frames := 5, cells := 0, slots := 0, locals := 124 }
set_option maxRecDepth 20000 in
theorem iu_X6_picture_6 : ∀ w ∈ u_ws RX6 TX6 9, w ∈ wsX6_picture := by decide +kernel
set_option maxRecDepth 20000 in
theorem il_X6_picture_50 : (Cond.fieldLink RX6 50 "BayerGate" "developed" "LBayerGate$Picture;") ∈ wsX6_picture := by decide +kernel
set_option maxRecDepth 20000 in
theorem iu_X6_picture_2 : ∀ w ∈ u_ws RX2 TX2 2, w ∈ wsX6_picture := by decide +kernel
set_option maxHeartbeats 4000000 in
set_option maxRecDepth 100000 in
theorem kX6_picture (l : Launch) (G : iG) (N : Nat) (ad : Nat → Nat) (C : Nat → va_E) (o : Nat) (S : St) (hcam : Cam G N ad C o S) (k : Nat) (hkn : k < sFn S) (x y : Nat) (hx8 : x < 8) (hy8 : y < 8) (c1 : Nat) (hc3 : c1 < 3) (sz : Nat) : Met l yX6_picture wsX6_picture rmX6_picture (iPre G N ad C sz [.ref (ad o), .int (nI k), .int (nI x), .int (nI y), .int (nI c1)]) (va_Qd (fun (r : UInt64) (u : Nat → va_E) => r = FP.f2d ((piF (sFr S k).1 (sMp S) (sFr S k).2.1) (3 * (8 * y + x) + c1)) ∧ Cam G N ad u o S ∧ same C u o) (iB G N ad) (iA N ad sz)) 0 0 (iA N ad sz) := by
  refine Met.ofW (cc := cX6_picture) (maxL := 5) (ret := (some .double)) (by decide) rfl ?_
  intro p e s m args below meth c s₁ B hml hv
  obtain ⟨rfl, hsz, hP, hK, hD0⟩ := hv
  have hx := B.exec
  have hb := B.bytes
  have hr := B.returns
  have hts := atoms_spec (ws := wsX6_picture) B.pre
  have hown : s.vm.findClass RX6 = some m.cls := findClass_of_methodNamed B.named
  have hlocks := B.notSynchronized
  subst hsz
  have hD := wl_self hD0 s.heap.size
  have hA : ∀ q : Nat, s.heap.size ≤ q → iA N ad s.heap.size q := fun q h => Or.inr h
  have hS : va_S (iA N ad s.heap.size) s.heap s.heap [] := va_S.rf
  have hP : va_P G.1 vwB (wl N ad C) s.heap := hP
  have hl := lv_entry ([.ref (ad o), .int (nI k), .int (nI x), .int (nI y), .int (nI c1)]) (n := 5) (Nat.le_of_ble_eq_true rfl)
  rw [lg_entry_eq]
  generalize (lg_sl ([.ref (ad o), .int (nI k), .int (nI x), .int (nI y), .int (nI c1)]) ++ List.replicate (5 - (lg_sl ([.ref (ad o), .int (nI k), .int (nI x), .int (nI y), .int (nI c1)])).length) Slot.unset).toArray = ls at hl ⊢
  have hl : lv_has ls 5 [(0, .ref (ad o)), (1, .int (nI k)), (2, .int (nI x)), (3, .int (nI y)), (4, .int (nI c1))] := hl
  obtain ⟨hN, ⟨ok1, ok2, ok3, ok4, ok5, ok6, ok7, ok8, ok9⟩, h0, ⟨s1, s2, s3⟩, ⟨e1, e2, e3⟩, ⟨F7, h7, hF7⟩, ⟨F8, h8, hF8⟩, ⟨TF, tr1, tr2, tr3, tr4, tr5⟩, ⟨TD, dv1, dv2, dv3⟩, ⟨TC, cv1, cv2, cv3⟩, hfr, hfi⟩ := id hcam
  have hk : k < 6 := by omega
  obtain ⟨f1, f2, f3, f4, f5⟩ := hfr (k) hk
  obtain ⟨okr, oke, oki⟩ := ok8 (k) hk
  refine lv_aload_n hx hb dX6_picture_0 rfl (lv_at hl 0 rfl) ?_
  refine lv_iload_n hx hb dX6_picture_1 rfl (lv_at hl 1 rfl) ?_
  refine iw_v (va_runV (As := [.int (nI k)]) (rest := []) ⟨hx, hb, hml, hown, hts⟩ (kX6_needFrame l G N ad _ o (fn := sFn S) (by omega) (h0) (k) ok6 hkn _) (cwV 1 hts gX6_picture_X6_needFrame rfl rfl rfl (by decide +kernel) ⟨Nat.le_of_ble_eq_true rfl, Nat.le_of_ble_eq_true rfl⟩) (iPV hK hP hD (by omega) (h0) rfl [.int (nI k)]) rfl rfl hl.1 rfl (lv_room (Nat.le_of_ble_eq_true rfl)) dX6_picture_2 ⟨Nat.le_of_ble_eq_true rfl, Nat.le_of_ble_eq_true rfl⟩) hD hS hA (fun u8 H locs hw8 hP hD hS => ?_)
  rw [hw8] at hP hD
  refine lv_iload_n hx hb dX6_picture_5 rfl (lv_at hl 2 rfl) ?_
  refine lv_iload_n hx hb dX6_picture_6 rfl (lv_at hl 3 rfl) ?_
  refine iw_pv (va_runS (As := [.int (nI x), .int (nI y)]) (rest := []) ⟨hx, hb, hml, hown, hts⟩ (kX6_needPlace l (x) (y) (by omega) (by omega)) (va_cwS 2 hts gX6_picture_X6_needPlace rfl rfl rfl (by decide +kernel) ⟨Nat.le_of_ble_eq_true rfl, Nat.le_of_ble_eq_true rfl⟩) ⟨fun a U g mk q => q, fun U hU hW => ⟨rfl, trivial⟩⟩ rfl rfl hl.1 rfl (lv_room (Nat.le_of_ble_eq_true rfl)) dX6_picture_7 ⟨Nat.le_of_ble_eq_true rfl, Nat.le_of_ble_eq_true rfl⟩) hP hS (fun u8 H locs hw8 hP hS => ?_)
  refine lv_iload hx hb dX6_picture_10 (lv_at hl 4 rfl) ?_
  refine lv_iconst (v := nI 0) hx hb dX6_picture_12 (by decide) ?_
  refine lv_iconst (v := nI 2) hx hb dX6_picture_13 (by decide) ?_
  refine iw_pv (va_runS (As := [.int (nI c1), .int (nI 0), .int (nI 2)]) (rest := []) ⟨hx, hb, hml, hown, hts⟩ (kX6_needRange l (nI c1) (nI 0) (nI 2) (nI_nlt (by omega) (by omega)) (nI_le (by omega) (by omega))) (va_cwS 3 hts gX6_picture_X6_needRange rfl rfl rfl (by decide +kernel) ⟨Nat.le_of_ble_eq_true rfl, Nat.le_of_ble_eq_true rfl⟩) ⟨fun a U g mk q => q, fun U hU hW => ⟨rfl, trivial⟩⟩ rfl rfl hl.1 rfl (lv_room (Nat.le_of_ble_eq_true rfl)) dX6_picture_14 ⟨Nat.le_of_ble_eq_true rfl, Nat.le_of_ble_eq_true rfl⟩) hP hS (fun u8 H locs hw8 hP hS => ?_)
  refine lv_aload_n hx hb dX6_picture_17 rfl (lv_at hl 0 rfl) ?_
  refine lv_iload_n hx hb dX6_picture_18 rfl (lv_at hl 1 rfl) ?_
  refine lv_aload_n hx hb dX6_picture_19 rfl (lv_at hl 0 rfl) ?_
  refine iw_get hx hb hts iu_X6_picture_6 hown hK hP (by omega) (h0) rfl 7 (by decide) (hts _ il_X6_picture_50) (fun _ h9 => h9) rfl dX6_picture_20 ?_
  refine iw_v (va_runV (As := [.int (nI k), .ref (ad (o + 14))]) (rest := []) ⟨hx, hb, hml, hown, hts⟩ (kX6_developFrame l G N ad C o S hcam k hk _) (cwV 2 hts gX6_picture_X6_developFrame rfl rfl rfl (by decide +kernel) ⟨Nat.le_of_ble_eq_true rfl, Nat.le_of_ble_eq_true rfl⟩) (iPV hK hP hD (by omega) (h0) rfl [.int (nI k), .ref (ad (o + 14))]) rfl rfl hl.1 rfl (lv_room (Nat.le_of_ble_eq_true rfl)) dX6_picture_23 ⟨Nat.le_of_ble_eq_true rfl, Nat.le_of_ble_eq_true rfl⟩) hD hS hA (fun u8 H locs hw8 hP hD hS => ?_)
  rw [hw8] at hP hD
  refine lv_aload_n hx hb dX6_picture_26 rfl (lv_at hl 0 rfl) ?_
  refine iw_get hx hb hts iu_X6_picture_6 hown hK hP (by omega) ((va_un _ _ (by omega)).trans ((va_un _ _ (by omega)).trans (h0))) rfl 7 (by decide) (hts _ il_X6_picture_50) (fun _ h9 => h9) rfl dX6_picture_27 ?_
  refine iw_getN hx hb hts iu_X6_picture_2 hown hK hP (by omega) ((va_un _ _ (by omega)).trans ((va_un _ _ (by omega)).trans (dv1))) rfl 0 (by decide) (nw_RX6_166 hK.2) (fun _ h9 => h9) rfl dX6_picture_30 ?_
  refine lv_iload_n hx hb dX6_picture_33 rfl (lv_at hl 2 rfl) ?_
  refine lv_iload_n hx hb dX6_picture_34 rfl (lv_at hl 3 rfl) ?_
  refine iw_pi (va_runS (As := [.int (nI x), .int (nI y)]) (rest := [.ref (ad (o + 14 + 1))]) ⟨hx, hb, hml, hown, hts⟩ (kX6_placeOf l (x) (y)) (va_cwS 2 hts gX6_picture_X6_placeOf rfl rfl rfl (by decide +kernel) ⟨Nat.le_of_ble_eq_true rfl, Nat.le_of_ble_eq_true rfl⟩) ⟨fun a U g mk q => q, fun U hU hW => ⟨rfl, trivial⟩⟩ rfl rfl hl.1 rfl (lv_room (Nat.le_of_ble_eq_true rfl)) dX6_picture_35 ⟨Nat.le_of_ble_eq_true rfl, Nat.le_of_ble_eq_true rfl⟩) hP hS (fun r8 u8 H locs hw8 hP hS => ?_)
  refine lv_asI hw8 ?_
  refine lv_iload hx hb dX6_picture_38 (lv_at hl 4 rfl) ?_
  refine iw_pi (va_runS (As := [.int (nI (8 * y + x)), .int (nI c1)]) (rest := [.ref (ad (o + 14 + 1))]) ⟨hx, hb, hml, hown, hts⟩ (kX2_indexOf l (8 * y + x) c1) (va_cwS 2 hts gX6_picture_X2_indexOf rfl rfl rfl (by decide +kernel) ⟨Nat.le_of_ble_eq_true rfl, Nat.le_of_ble_eq_true rfl⟩) ⟨fun a U g mk q => q, fun U hU hW => ⟨rfl, trivial⟩⟩ rfl rfl hl.1 rfl (lv_room (Nat.le_of_ble_eq_true rfl)) dX6_picture_40 ⟨Nat.le_of_ble_eq_true rfl, Nat.le_of_ble_eq_true rfl⟩) hP hS (fun r8 u8 H locs hw8 hP hS => ?_)
  refine lv_asI hw8 ?_
  refine iw_fald (v := (piF (sFr S k).1 (sMp S) (sFr S k).2.1) (3 * (8 * y + x) + c1)) hx hb hK hP (by omega) (va_us _ _ _) (vp_in_nI (show 3 * (8 * y + x) + c1 < 192 by omega) (by omega)) (congrArg (piF (sFr S k).1 (sMp S) (sFr S k).2.1) (nI_clamp (by omega))) dX6_picture_43 ?_
  refine lv_f2d hx hb dX6_picture_44 (f2d_n (piF_n _ _ ⟨oke, oki⟩ (by omega))) ?_
  have q1 := up_dmen hcam (mmN (sFr S k).1 (sMp S) (hasM (fun i => nI ((sFr S k).2.1.1 i)) (sFr S k).2.1.2.2))
  have q2 := up_dnum q1 (piF (sFr S k).1 (sMp S) (sFr S k).2.1)
  exact W.dret (v := (FP.f2d ((piF (sFr S k).1 (sMp S) (sFr S k).2.1) (3 * (8 * y + x) + c1)))) hx hb hr (fun t ht hW => ⟨⟨_, _, rfl, ⟨rfl, q2, same_up (same_up (same_rf) _ (by omega) (by omega)) _ (by omega) (by omega)⟩, iB_of ht hP⟩, hS.F ht⟩) hS.2.2 dX6_picture_45
abbrev rmX6_word : Room := { frames := 5, cells := 0, slots := 0, locals := 123 }
set_option maxRecDepth 20000 in
theorem iu_X6_word_6 : ∀ w ∈ u_ws RX6 TX6 9, w ∈ wsX6_word := by decide +kernel
set_option maxRecDepth 20000 in
theorem il_X6_word_25 : (Cond.fieldLink RX6 25 "BayerGate" "frameRow" "[LBayerGate$Frame;") ∈ wsX6_word := by decide +kernel
set_option maxRecDepth 20000 in
theorem iu_X6_word_1 : ∀ w ∈ u_ws RX1 TX1 5, w ∈ wsX6_word := by decide +kernel
set_option maxHeartbeats 4000000 in
set_option maxRecDepth 100000 in
theorem kX6_word (l : Launch) (G : iG) (N : Nat) (ad : Nat → Nat) (C : Nat → va_E) (o : Nat) (S : St) (hcam : Cam G N ad C o S) (k : Nat) (hkn : k < sFn S) (sz : Nat) : Met l yX6_word wsX6_word rmX6_word (iPre G N ad C sz [.ref (ad o), .int (nI k)]) (va_Qi (fun (r : Int32) (u : Nat → va_E) => r = wdI (sFr S k).1 (sMp S) (sFr S k).2.1 ∧ Cam G N ad u o S ∧ same C u o) (iB G N ad) (iA N ad sz)) 0 0 (iA N ad sz) := by
  refine Met.ofW (cc := cX6_word) (maxL := 2) (ret := (some .int)) (by decide) rfl ?_
  intro p e s m args below meth c s₁ B hml hv
  obtain ⟨rfl, hsz, hP, hK, hD0⟩ := hv
  have hx := B.exec
  have hb := B.bytes
  have hr := B.returns
  have hts := atoms_spec (ws := wsX6_word) B.pre
  have hown : s.vm.findClass RX6 = some m.cls := findClass_of_methodNamed B.named
  have hlocks := B.notSynchronized
  subst hsz
  have hD := wl_self hD0 s.heap.size
  have hA : ∀ q : Nat, s.heap.size ≤ q → iA N ad s.heap.size q := fun q h => Or.inr h
  have hS : va_S (iA N ad s.heap.size) s.heap s.heap [] := va_S.rf
  have hP : va_P G.1 vwB (wl N ad C) s.heap := hP
  have hl := lv_entry ([.ref (ad o), .int (nI k)]) (n := 2) (Nat.le_of_ble_eq_true rfl)
  rw [lg_entry_eq]
  generalize (lg_sl ([.ref (ad o), .int (nI k)]) ++ List.replicate (2 - (lg_sl ([.ref (ad o), .int (nI k)])).length) Slot.unset).toArray = ls at hl ⊢
  have hl : lv_has ls 2 [(0, .ref (ad o)), (1, .int (nI k))] := hl
  obtain ⟨hN, ⟨ok1, ok2, ok3, ok4, ok5, ok6, ok7, ok8, ok9⟩, h0, ⟨s1, s2, s3⟩, ⟨e1, e2, e3⟩, ⟨F7, h7, hF7⟩, ⟨F8, h8, hF8⟩, ⟨TF, tr1, tr2, tr3, tr4, tr5⟩, ⟨TD, dv1, dv2, dv3⟩, ⟨TC, cv1, cv2, cv3⟩, hfr, hfi⟩ := id hcam
  have hk : k < 6 := by omega
  obtain ⟨f1, f2, f3, f4, f5⟩ := hfr (k) hk
  obtain ⟨okr, oke, oki⟩ := ok8 (k) hk
  refine lv_aload_n hx hb dX6_word_0 rfl (lv_at hl 0 rfl) ?_
  refine lv_iload_n hx hb dX6_word_1 rfl (lv_at hl 1 rfl) ?_
  refine iw_v (va_runV (As := [.int (nI k)]) (rest := []) ⟨hx, hb, hml, hown, hts⟩ (kX6_needFrame l G N ad _ o (fn := sFn S) (by omega) (h0) (k) ok6 hkn _) (cwV 1 hts gX6_word_X6_needFrame rfl rfl rfl (by decide +kernel) ⟨Nat.le_of_ble_eq_true rfl, Nat.le_of_ble_eq_true rfl⟩) (iPV hK hP hD (by omega) (h0) rfl [.int (nI k)]) rfl rfl hl.1 rfl (lv_room (Nat.le_of_ble_eq_true rfl)) dX6_word_2 ⟨Nat.le_of_ble_eq_true rfl, Nat.le_of_ble_eq_true rfl⟩) hD hS hA (fun u8 H locs hw8 hP hD hS => ?_)
  rw [hw8] at hP hD
  refine lv_aload_n hx hb dX6_word_5 rfl (lv_at hl 0 rfl) ?_
  refine lv_iload_n hx hb dX6_word_6 rfl (lv_at hl 1 rfl) ?_
  refine lv_aload_n hx hb dX6_word_7 rfl (lv_at hl 0 rfl) ?_
  refine iw_get hx hb hts iu_X6_word_6 hown hK hP (by omega) (h0) rfl 2 (by decide) (hts _ il_X6_word_25) (fun _ h9 => h9) rfl dX6_word_8 ?_
  refine lv_iload_n hx hb dX6_word_11 rfl (lv_at hl 1 rfl) ?_
  refine iw_ralM (v := ad (o + 20 + 5 * k)) hx hb hK hP (by omega) (h7) (vp_in_nI (show k < 6 by omega) (by omega)) ((congrArg F7 (nI_clamp (by omega))).trans (hF7 _ (by omega))) dX6_word_12 ?_
  refine iw_getN hx hb hts iu_X6_word_1 hown hK hP (by omega) (f1) rfl 1 (by decide) (nw_RX6_136 hK.2) (fun _ h9 => h9) rfl dX6_word_13 ?_
  refine iw_i (va_runV (As := [.int (nI k), .ref (ad (o + 20 + 5 * k + 2))]) (rest := []) ⟨hx, hb, hml, hown, hts⟩ (kX6_wordBehind l G N ad C o S hcam (k) hk (o + 20 + 5 * k + 2) (sFr S k).2.1 ⟨f3, f4, f5⟩ ⟨oke, oki⟩ (by omega) (by omega) _) (cwV 2 hts gX6_word_X6_wordBehind rfl rfl rfl (by decide +kernel) ⟨Nat.le_of_ble_eq_true rfl, Nat.le_of_ble_eq_true rfl⟩) (iPV hK hP hD (by omega) (h0) rfl [.int (nI k), .ref (ad (o + 20 + 5 * k + 2))]) rfl rfl hl.1 rfl (lv_room (Nat.le_of_ble_eq_true rfl)) dX6_word_16 ⟨Nat.le_of_ble_eq_true rfl, Nat.le_of_ble_eq_true rfl⟩) hD hS hA (fun r8 u8 H locs hw8 hP hD hS => ?_)
  obtain ⟨hr8, hc8, hs8⟩ := hw8
  refine lv_asI hr8 ?_
  exact W.iret (v := (wdI (sFr S k).1 (sMp S) (sFr S k).2.1)) hx hb hr (fun t ht hW => ⟨⟨_, _, rfl, ⟨rfl, hc8, hs8⟩, iB_of ht hP⟩, hS.F ht⟩) hS.2.2 dX6_word_19
abbrev rmX6_ofFile : Room := { frames := 5, cells := 0, slots := 0, locals := 123 }
set_option maxRecDepth 20000 in
theorem iu_X6_ofFile_6 : ∀ w ∈ u_ws RX6 TX6 9, w ∈ wsX6_ofFile := by decide +kernel
set_option maxRecDepth 20000 in
theorem il_X6_ofFile_39 : (Cond.fieldLink RX6 39 "BayerGate" "fileCount" "I") ∈ wsX6_ofFile := by decide +kernel
set_option maxRecDepth 20000 in
theorem il_X6_ofFile_31 : (Cond.fieldLink RX6 31 "BayerGate" "fileRow" "[LBayerGate$StoredFile;") ∈ wsX6_ofFile := by decide +kernel
set_option maxRecDepth 20000 in
theorem iu_X6_ofFile_5 : ∀ w ∈ u_ws RX5 TX5 3, w ∈ wsX6_ofFile := by decide +kernel
set_option maxHeartbeats 4000000 in
set_option maxRecDepth 100000 in
theorem kX6_ofFile (l : Launch) (G : iG) (N : Nat) (ad : Nat → Nat) (C : Nat → va_E) (o : Nat) (S : St) (hcam : Cam G N ad C o S) (k : Nat) (hkn : k < sFl S) (w1 : Nat) (hw23 : w1 = 2 ∨ w1 = 3) (sz : Nat) : Met l yX6_ofFile wsX6_ofFile rmX6_ofFile (iPre G N ad C sz [.ref (ad o), .int (nI k), .int (nI w1)]) (va_Qi (fun (r : Int32) (u : Nat → va_E) => r = fiI S k w1 ∧ Cam G N ad u o S ∧ same C u o) (iB G N ad) (iA N ad sz)) 0 0 (iA N ad sz) := by
  refine Met.ofW (cc := cX6_ofFile) (maxL := 4) (ret := (some .int)) (by decide) rfl ?_
  intro p e s m args below meth c s₁ B hml hv
  obtain ⟨rfl, hsz, hP, hK, hD0⟩ := hv
  have hx := B.exec
  have hb := B.bytes
  have hr := B.returns
  have hts := atoms_spec (ws := wsX6_ofFile) B.pre
  have hown : s.vm.findClass RX6 = some m.cls := findClass_of_methodNamed B.named
  have hlocks := B.notSynchronized
  subst hsz
  have hD := wl_self hD0 s.heap.size
  have hA : ∀ q : Nat, s.heap.size ≤ q → iA N ad s.heap.size q := fun q h => Or.inr h
  have hS : va_S (iA N ad s.heap.size) s.heap s.heap [] := va_S.rf
  have hP : va_P G.1 vwB (wl N ad C) s.heap := hP
  have hl := lv_entry ([.ref (ad o), .int (nI k), .int (nI w1)]) (n := 4) (Nat.le_of_ble_eq_true rfl)
  rw [lg_entry_eq]
  generalize (lg_sl ([.ref (ad o), .int (nI k), .int (nI w1)]) ++ List.replicate (4 - (lg_sl ([.ref (ad o), .int (nI k), .int (nI w1)])).length) Slot.unset).toArray = ls at hl ⊢
  have hl : lv_has ls 4 [(0, .ref (ad o)), (1, .int (nI k)), (2, .int (nI w1))] := hl
  obtain ⟨hN, ⟨ok1, ok2, ok3, ok4, ok5, ok6, ok7, ok8, ok9⟩, h0, ⟨s1, s2, s3⟩, ⟨e1, e2, e3⟩, ⟨F7, h7, hF7⟩, ⟨F8, h8, hF8⟩, ⟨TF, tr1, tr2, tr3, tr4, tr5⟩, ⟨TD, dv1, dv2, dv3⟩, ⟨TC, cv1, cv2, cv3⟩, hfr, hfi⟩ := id hcam
  have hk : k < 6 := by omega
  obtain ⟨i1, i2, i3, i4⟩ := hfi (k) hk
  obtain ⟨⟨oje, oji⟩, ojf⟩ := ok9 (k) hk
  refine lv_iload_n hx hb dX6_ofFile_0 rfl (lv_at hl 1 rfl) ?_
  refine lv_aload_n hx hb dX6_ofFile_1 rfl (lv_at hl 0 rfl) ?_
  refine iw_get hx hb hts iu_X6_ofFile_6 hown hK hP (by omega) (h0) rfl 5 (by decide) (hts _ il_X6_ofFile_39) (fun _ h9 => h9) rfl dX6_ofFile_2 ?_
  refine iw_pv (va_runS (As := [.int (nI k), .int (nI (sFl S))]) (rest := []) ⟨hx, hb, hml, hown, hts⟩ (kX6_needIndex l (k) (sFl S) hkn (by omega)) (va_cwS 2 hts gX6_ofFile_X6_needIndex rfl rfl rfl (by decide +kernel) ⟨Nat.le_of_ble_eq_true rfl, Nat.le_of_ble_eq_true rfl⟩) ⟨fun a U g mk q => q, fun U hU hW => ⟨rfl, trivial⟩⟩ rfl rfl hl.1 rfl (lv_room (Nat.le_of_ble_eq_true rfl)) dX6_ofFile_5 ⟨Nat.le_of_ble_eq_true rfl, Nat.le_of_ble_eq_true rfl⟩) hP hS (fun u8 H locs hw8 hP hS => ?_)
  refine lv_iload_n hx hb dX6_ofFile_8 rfl (lv_at hl 2 rfl) ?_
  refine lv_iconst (v := nI 0) hx hb dX6_ofFile_9 (by decide) ?_
  refine lv_iconst (v := nI 3) hx hb dX6_ofFile_10 (by decide) ?_
  refine iw_pv (va_runS (As := [.int (nI w1), .int (nI 0), .int (nI 3)]) (rest := []) ⟨hx, hb, hml, hown, hts⟩ (kX6_needRange l (nI w1) (nI 0) (nI 3) (nI_nlt (by omega) (by omega)) (nI_le (by omega) (by omega))) (va_cwS 3 hts gX6_ofFile_X6_needRange rfl rfl rfl (by decide +kernel) ⟨Nat.le_of_ble_eq_true rfl, Nat.le_of_ble_eq_true rfl⟩) ⟨fun a U g mk q => q, fun U hU hW => ⟨rfl, trivial⟩⟩ rfl rfl hl.1 rfl (lv_room (Nat.le_of_ble_eq_true rfl)) dX6_ofFile_11 ⟨Nat.le_of_ble_eq_true rfl, Nat.le_of_ble_eq_true rfl⟩) hP hS (fun u8 H locs hw8 hP hS => ?_)
  refine lv_aload_n hx hb dX6_ofFile_14 rfl (lv_at hl 0 rfl) ?_
  refine iw_get hx hb hts iu_X6_ofFile_6 hown hK hP (by omega) (h0) rfl 3 (by decide) (hts _ il_X6_ofFile_31) (fun _ h9 => h9) rfl dX6_ofFile_15 ?_
  refine lv_iload_n hx hb dX6_ofFile_18 rfl (lv_at hl 1 rfl) ?_
  refine iw_ralS (v := ad (o + 50 + 4 * k)) hx hb hK hP (by omega) (h8) (vp_in_nI (show k < 6 by omega) (by omega)) ((congrArg F8 (nI_clamp (by omega))).trans (hF8 _ (by omega))) dX6_ofFile_19 ?_
  refine lv_astore_n (lv' := [(3, .ref (ad (o + 50 + 4 * k))), (0, .ref (ad o)), (1, .int (nI k)), (2, .int (nI w1))]) hx hb dX6_ofFile_20 rfl hl (by decide) rfl (fun ls hl => ?_)
  refine lv_iload_n hx hb dX6_ofFile_21 rfl (lv_at hl 3 rfl) ?_
  rcases hw23 with rfl | rfl
  · refine lv_tableIn (off := 36) (tgt := 58) hx hb dX6_ofFile_22 (by decide) (by decide) (by decide) (by decide) ?_
    refine lv_aload_n hx hb dX6_ofFile_58 rfl (lv_at hl 0 rfl) ?_
    refine iw_getN hx hb hts iu_X6_ofFile_5 hown hK hP (by omega) (i1) rfl 0 (by decide) (nw_RX6_217 hK.2) (fun _ h9 => h9) rfl dX6_ofFile_59 ?_
    refine iw_i (va_runV (As := []) (rest := []) ⟨hx, hb, hml, hown, hts⟩ (kX0_count l G N ad _ (n := (sFi S k).1.2.2) (by omega) (by omega) (by omega) (i2) (i3) (i4) (by omega) _) (cwV 0 hts gX6_ofFile_X0_count rfl rfl rfl (by decide +kernel) ⟨Nat.le_of_ble_eq_true rfl, Nat.le_of_ble_eq_true rfl⟩) (iPV hK hP hD (by omega) (i2) rfl []) rfl rfl hl.1 rfl (lv_room (Nat.le_of_ble_eq_true rfl)) dX6_ofFile_62 ⟨Nat.le_of_ble_eq_true rfl, Nat.le_of_ble_eq_true rfl⟩) hD hS hA (fun r8 u8 H locs hw8 hP hD hS => ?_)
    obtain ⟨hr8, hu8⟩ := hw8
    refine lv_asI hr8 ?_
    rw [hu8] at hP hD
    exact W.iret (v := (nI ((sFi S k).1.2.2))) hx hb hr (fun t ht hW => ⟨⟨_, _, rfl, ⟨rfl, hcam, same_rf⟩, iB_of ht hP⟩, hS.F ht⟩) hS.2.2 dX6_ofFile_65
  · refine lv_tableOut (tgt := 66) hx hb dX6_ofFile_22 (by decide) (by decide) ?_
    refine lv_aload_n hx hb dX6_ofFile_66 rfl (lv_at hl 1 rfl) ?_
    refine lv_aload_n hx hb dX6_ofFile_67 rfl (lv_at hl 0 rfl) ?_
    refine iw_getN hx hb hts iu_X6_ofFile_5 hown hK hP (by omega) (i1) rfl 1 (by decide) (nw_RX6_211 hK.2) (fun _ h9 => h9) rfl dX6_ofFile_68 ?_
    refine lv_aload_n hx hb dX6_ofFile_71 rfl (lv_at hl 0 rfl) ?_
    refine iw_getN hx hb hts iu_X6_ofFile_5 hown hK hP (by omega) (i1) rfl 0 (by decide) (nw_RX6_217 hK.2) (fun _ h9 => h9) rfl dX6_ofFile_72 ?_
    refine iw_i (va_runV (As := [.int (nI ((sFi S k).2.1)), .ref (ad (o + 50 + 4 * k + 1))]) (rest := []) ⟨hx, hb, hml, hown, hts⟩ (kX6_wordBehind l G N ad C o S hcam ((sFi S k).2.1) ojf (o + 50 + 4 * k + 1) (sFi S k).1 ⟨i2, i3, i4⟩ ⟨oje, oji⟩ (by omega) (by omega) _) (cwV 2 hts gX6_ofFile_X6_wordBehind rfl rfl rfl (by decide +kernel) ⟨Nat.le_of_ble_eq_true rfl, Nat.le_of_ble_eq_true rfl⟩) (iPV hK hP hD (by omega) (h0) rfl [.int (nI ((sFi S k).2.1)), .ref (ad (o + 50 + 4 * k + 1))]) rfl rfl hl.1 rfl (lv_room (Nat.le_of_ble_eq_true rfl)) dX6_ofFile_75 ⟨Nat.le_of_ble_eq_true rfl, Nat.le_of_ble_eq_true rfl⟩) hD hS hA (fun r8 u8 H locs hw8 hP hD hS => ?_)
    obtain ⟨hr8, hc8, hs8⟩ := hw8
    refine lv_asI hr8 ?_
    exact W.iret (v := (wdI (sFr S ((sFi S k).2.1)).1 (sMp S) (sFi S k).1)) hx hb hr (fun t ht hW => ⟨⟨_, _, rfl, ⟨rfl, hc8, hs8⟩, iB_of ht hP⟩, hS.F ht⟩) hS.2.2 dX6_ofFile_78
