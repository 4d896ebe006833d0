set_option maxRecDepth 20000 in
theorem ggX6_take_X6_needExposure : GoodIn wsX6_take wsX6_needExposure := goodIn_ca (goodIn_r _ [8, 9, 10, 7, 11, 12, 13] (by decide +kernel) (by decide +kernel)) (goodIn_sub (fun _ h => List.mem_cons_of_mem _ (List.mem_append_left _ (List.mem_append_right _ h))) (by decide +kernel))
set_option maxRecDepth 20000 in
theorem gX6_take_X6_needExposure : GoodIn wsX6_take (va_wsS RX6 102 yX6_needExposure wsX6_needExposure) := goodIn_app (goodIn_of _ (by decide +kernel)) ggX6_take_X6_needExposure
set_option maxRecDepth 20000 in
theorem ggX6_take_X6_needRoom : GoodIn wsX6_take wsX6_needRoom := goodIn_ca (goodIn_r _ [16, 17, 18] (by decide +kernel) (by decide +kernel)) (goodIn_sub (fun _ h => List.mem_cons_of_mem _ (List.mem_append_right _ h)) (by decide +kernel))
set_option maxRecDepth 20000 in
theorem gX6_take_X6_needRoom : GoodIn wsX6_take (va_wsS RX6 105 yX6_needRoom wsX6_needRoom) := goodIn_app (goodIn_of _ (by decide +kernel)) ggX6_take_X6_needRoom
set_option maxRecDepth 20000 in
theorem ggX6_take_X4_expose : GoodIn wsX6_take wsX4_expose := goodIn_r _ [23, 24, 25, 26, 7, 27, 28, 29, 30, 31, 32, 33, 34, 35, 36, 37, 38, 39, 40, 41, 42, 43, 22, 44, 45, 46, 47, 48, 49, 50, 51, 65, 66, 67, 68, 69, 70, 71, 72, 73, 74, 75] (by decide +kernel) (by decide +kernel)
set_option maxRecDepth 20000 in
theorem gX6_take_X4_expose : GoodIn wsX6_take (wsV RX6 108 RX4 yX4_expose wsX4_expose) := goodIn_app (goodIn_of _ (by decide +kernel)) ggX6_take_X4_expose
set_option maxRecDepth 20000 in
theorem ggX6_take_X4_advance : GoodIn wsX6_take wsX4_advance := goodIn_r _ [55, 24, 65, 66, 67] (by decide +kernel) (by decide +kernel)
set_option maxRecDepth 20000 in
theorem gX6_take_X4_advance : GoodIn wsX6_take (wsV RX6 112 RX4 yX4_advance wsX4_advance) := goodIn_app (goodIn_of _ (by decide +kernel)) ggX6_take_X4_advance
set_option maxRecDepth 20000 in
theorem ggX6_edit_X6_needFrame : GoodIn wsX6_edit wsX6_needFrame := goodIn_ca (goodIn_r _ [6, 7, 8, 9, 38, 39, 40, 41, 42, 43, 44, 45, 46] (by decide +kernel) (by decide +kernel)) (goodIn_sub (fun _ h => List.mem_cons_of_mem _ (List.mem_append_left _ (List.mem_append_left _ (List.mem_append_right _ h)))) (by decide +kernel))
set_option maxRecDepth 20000 in
theorem gX6_edit_X6_needFrame : GoodIn wsX6_edit (wsV RX6 127 RX6 yX6_needFrame wsX6_needFrame) := goodIn_app (goodIn_of _ (by decide +kernel)) ggX6_edit_X6_needFrame
set_option maxRecDepth 20000 in
theorem ggX6_edit_X6_needRange : GoodIn wsX6_edit wsX6_needRange := goodIn_ca (goodIn_r _ [12, 13, 14] (by decide +kernel) (by decide +kernel)) (goodIn_sub (fun _ h => List.mem_cons_of_mem _ (List.mem_append_left _ (List.mem_append_right _ h))) (by decide +kernel))
set_option maxRecDepth 20000 in
theorem gX6_edit_X6_needRange : GoodIn wsX6_edit (va_wsS RX6 70 yX6_needRange wsX6_needRange) := goodIn_app (goodIn_of _ (by decide +kernel)) ggX6_edit_X6_needRange
set_option maxRecDepth 20000 in
theorem ggX6_edit_X6_leastNumber : GoodIn wsX6_edit wsX6_leastNumber := goodIn_r _ [17] (by decide +kernel) (by decide +kernel)
set_option maxRecDepth 20000 in
theorem gX6_edit_X6_leastNumber : GoodIn wsX6_edit (va_wsS RX6 130 yX6_leastNumber wsX6_leastNumber) := goodIn_app (goodIn_of _ (by decide +kernel)) ggX6_edit_X6_leastNumber
set_option maxRecDepth 20000 in
theorem ggX6_edit_X6_mostNumber : GoodIn wsX6_edit wsX6_mostNumber := goodIn_r _ [20] (by decide +kernel) (by decide +kernel)
set_option maxRecDepth 20000 in
theorem gX6_edit_X6_mostNumber : GoodIn wsX6_edit (va_wsS RX6 133 yX6_mostNumber wsX6_mostNumber) := goodIn_app (goodIn_of _ (by decide +kernel)) ggX6_edit_X6_mostNumber
set_option maxRecDepth 20000 in
theorem ggX6_edit_X0_count : GoodIn wsX6_edit wsX0_count := goodIn_r _ [25, 26, 52, 53, 54] (by decide +kernel) (by decide +kernel)
set_option maxRecDepth 20000 in
theorem gX6_edit_X0_count : GoodIn wsX6_edit (wsV RX6 140 RX0 yX0_count wsX0_count) := goodIn_app (goodIn_of _ (by decide +kernel)) ggX6_edit_X0_count
set_option maxRecDepth 20000 in
theorem ggX6_edit_X6_needRoom : GoodIn wsX6_edit wsX6_needRoom := goodIn_ca (goodIn_r _ [29, 30, 31] (by decide +kernel) (by decide +kernel)) (goodIn_sub (fun _ h => List.mem_cons_of_mem _ (List.mem_append_right _ h)) (by decide +kernel))
set_option maxRecDepth 20000 in
theorem gX6_edit_X6_needRoom : GoodIn wsX6_edit (va_wsS RX6 105 yX6_needRoom wsX6_needRoom) := goodIn_app (goodIn_of _ (by decide +kernel)) ggX6_edit_X6_needRoom
set_option maxRecDepth 20000 in
theorem ggX6_edit_X0_append : GoodIn wsX6_edit wsX0_append := goodIn_r _ [35, 26, 36, 37, 52, 53, 54] (by decide +kernel) (by decide +kernel)
set_option maxRecDepth 20000 in
theorem gX6_edit_X0_append : GoodIn wsX6_edit (wsV RX6 145 RX0 yX0_append wsX0_append) := goodIn_app (goodIn_of _ (by decide +kernel)) ggX6_edit_X0_append
set_option maxRecDepth 20000 in
theorem ggX6_undo_X6_needFrame : GoodIn wsX6_undo wsX6_needFrame := goodIn_ca (goodIn_r _ [6, 7, 8, 9, 17, 18, 19, 20, 21, 22, 23, 24, 25] (by decide +kernel) (by decide +kernel)) (goodIn_sub (fun _ h => List.mem_cons_of_mem _ (List.mem_append_right _ h)) (by decide +kernel))
set_option maxRecDepth 20000 in
theorem gX6_undo_X6_needFrame : GoodIn wsX6_undo (wsV RX6 127 RX6 yX6_needFrame wsX6_needFrame) := goodIn_app (goodIn_of _ (by decide +kernel)) ggX6_undo_X6_needFrame
set_option maxRecDepth 20000 in
theorem ggX6_undo_X0_takeBack : GoodIn wsX6_undo wsX0_takeBack := goodIn_r _ [14, 15, 16, 31, 32, 33] (by decide +kernel) (by decide +kernel)
set_option maxRecDepth 20000 in
theorem gX6_undo_X0_takeBack : GoodIn wsX6_undo (wsV RX6 148 RX0 yX0_takeBack wsX0_takeBack) := goodIn_app (goodIn_of _ (by decide +kernel)) ggX6_undo_X0_takeBack
set_option maxRecDepth 20000 in
theorem ggX6_raw_X6_needFrame : GoodIn wsX6_raw wsX6_needFrame := goodIn_ca (goodIn_r _ [6, 7, 8, 9, 19, 20, 21, 22, 23, 24, 25, 26, 27] (by decide +kernel) (by decide +kernel)) (goodIn_sub (fun _ h => List.mem_cons_of_mem _ (List.mem_append_right _ h)) (by decide +kernel))
set_option maxRecDepth 20000 in
theorem gX6_raw_X6_needFrame : GoodIn wsX6_raw (wsV RX6 127 RX6 yX6_needFrame wsX6_needFrame) := goodIn_app (goodIn_of _ (by decide +kernel)) ggX6_raw_X6_needFrame
set_option maxRecDepth 20000 in
theorem ggX6_raw_X6_needPlace : GoodIn wsX6_raw wsX6_needPlace := goodIn_ca (goodIn_r _ [12, 7, 8, 13, 14, 5, 15] (by decide +kernel) (by decide +kernel)) (goodIn_sub (fun _ h => List.mem_cons_of_mem _ (List.mem_append_right _ h)) (by decide +kernel))
set_option maxRecDepth 20000 in
theorem gX6_raw_X6_needPlace : GoodIn wsX6_raw (va_wsS RX6 58 yX6_needPlace wsX6_needPlace) := goodIn_app (goodIn_of _ (by decide +kernel)) ggX6_raw_X6_needPlace
set_option maxRecDepth 20000 in
theorem ggX6_raw_X6_placeOf : GoodIn wsX6_raw wsX6_placeOf := goodIn_r _ [18] (by decide +kernel) (by decide +kernel)
set_option maxRecDepth 20000 in
theorem gX6_raw_X6_placeOf : GoodIn wsX6_raw (va_wsS RX6 74 yX6_placeOf wsX6_placeOf) := goodIn_app (goodIn_of _ (by decide +kernel)) ggX6_raw_X6_placeOf
set_option maxRecDepth 20000 in
theorem ggX6_meter_X6_needFrame : GoodIn wsX6_meter wsX6_needFrame := goodIn_ca (goodIn_r _ [6, 7, 8, 9, 26, 27, 28, 29, 30, 31, 32, 33, 34] (by decide +kernel) (by decide +kernel)) (goodIn_sub (fun _ h => List.mem_cons_of_mem _ (List.mem_append_right _ h)) (by decide +kernel))
set_option maxRecDepth 20000 in
theorem gX6_meter_X6_needFrame : GoodIn wsX6_meter (wsV RX6 127 RX6 yX6_needFrame wsX6_needFrame) := goodIn_app (goodIn_of _ (by decide +kernel)) ggX6_meter_X6_needFrame
set_option maxRecDepth 20000 in
theorem ggX6_meter_X1_meanOfZones : GoodIn wsX6_meter wsX1_meanOfZones := goodIn_r _ [14, 15, 16, 17, 18, 13, 19, 20, 21, 22, 5, 23, 24, 25, 35, 36, 37, 38, 39] (by decide +kernel) (by decide +kernel)
set_option maxRecDepth 20000 in
theorem gX6_meter_X1_meanOfZones : GoodIn wsX6_meter (wsV RX6 207 RX1 yX1_meanOfZones wsX1_meanOfZones) := goodIn_app (goodIn_of _ (by decide +kernel)) ggX6_meter_X1_meanOfZones
theorem up_take {G : iG} {N : Nat} {ad : Nat → Nat} {C : Nat → va_E} {o : Nat} {S : St} (h : Cam G N ad C o S) {k : Nat} (hk : k < 6) {rw : Nat → Nat} (hv : ∀ i, i < 64 → rw i ≤ 255) (t g q : Int32) : Cam G N ad (va_up (va_up C (o + 20 + 5 * k + 1) (ia G 64 (fun i => nI (rw i)))) (o + 20 + 5 * k) (ob 1 [.ref (ad (o + 20 + 5 * k + 1)), .ref (ad (o + 20 + 5 * k + 2)), .int t, .int g, .int q])) o (mkS (sSh S) (sFac S) (sGq S) (sHw S) (sMp S) (sDr S) (sFn S) (sFl S) (va_up (sFr S) k (rw, (sFr S k).2.1, t, g, q)) (sFi S)) := by
  obtain ⟨hN, ⟨ok1, ok2, ok3, ok4, ok5, ok6, ok7, ok8, ok9⟩, h0, ⟨s1, s2, s3⟩, ⟨e1, e2, e3⟩, ⟨F7, h7, hF7⟩, ⟨F8, h8, hF8⟩, ⟨TF, h9⟩, ⟨TD, h14⟩, ⟨TC, h17⟩, hfr, hfi⟩ := h
  exact ⟨hN, ⟨ok1, ok2, ok3, ok4, ok5, ok6, ok7, fun i hi => by
    by_cases e : i = k
    · subst e
      show okFr (va_up (sFr S) i _ i)
      rw [va_us]
      exact ⟨hv, (ok8 i hi).2⟩
    · show okFr (va_up (sFr S) k _ i)
      rw [va_un _ _ e]
      exact ok8 i hi, ok9⟩, ((va_un _ _ (by omega)).trans ((va_un _ _ (by omega)).trans h0)), ⟨((va_un _ _ (by omega)).trans ((va_un _ _ (by omega)).trans s1)), ((va_un _ _ (by omega)).trans ((va_un _ _ (by omega)).trans s2)), ((va_un _ _ (by omega)).trans ((va_un _ _ (by omega)).trans s3))⟩, ⟨((va_un _ _ (by omega)).trans ((va_un _ _ (by omega)).trans e1)), ((va_un _ _ (by omega)).trans ((va_un _ _ (by omega)).trans e2)), ((va_un _ _ (by omega)).trans ((va_un _ _ (by omega)).trans e3))⟩, ⟨F7, ((va_un _ _ (by omega)).trans ((va_un _ _ (by omega)).trans h7)), hF7⟩, ⟨F8, ((va_un _ _ (by omega)).trans ((va_un _ _ (by omega)).trans h8)), hF8⟩, ⟨TF, (isFr_up (isFr_up h9 (by omega)) (by omega))⟩, ⟨TD, (isPi_up (isPi_up h14 (by omega)) (by omega))⟩, ⟨TC, (isPi_up (isPi_up h17 (by omega)) (by omega))⟩, fun i hi => by
    by_cases e : i = k
    · subst e
      show isFr G ad _ _ (va_up (sFr S) i _ i)
      rw [va_us]
      obtain ⟨a1, a2, a3, a4, a5⟩ := hfr i hi
      exact ⟨(va_us _ _ _), ((va_un _ _ (by omega)).trans (va_us _ _ _)), ((va_un _ _ (by omega)).trans ((va_un _ _ (by omega)).trans a3)), ((va_un _ _ (by omega)).trans ((va_un _ _ (by omega)).trans a4)), ((va_un _ _ (by omega)).trans ((va_un _ _ (by omega)).trans a5))⟩
    · show isFr G ad _ _ (va_up (sFr S) k _ i)
      rw [va_un _ _ e]
      exact (isFr_up (isFr_up (hfr i hi) (by omega)) (by omega)), fun i hi => (isFi_up (isFi_up (hfi i hi) (by omega)) (by omega))⟩
theorem up_edit {G : iG} {N : Nat} {ad : Nat → Nat} {C : Nat → va_E} {o : Nat} {S : St} (h : Cam G N ad C o S) {k : Nat} (hk : k < 6) {E : Er} (hv : okEr E) : Cam G N ad (va_up (va_up (va_up C (o + 20 + 5 * k + 2 + 1) (ia G 6 (fun i => nI (E.1 i)))) (o + 20 + 5 * k + 2 + 2) (ia G 6 (fun i => nI (E.2.1 i)))) (o + 20 + 5 * k + 2) (ob 0 [.ref (ad (o + 20 + 5 * k + 2 + 1)), .ref (ad (o + 20 + 5 * k + 2 + 2)), .int (nI E.2.2)])) o (mkS (sSh S) (sFac S) (sGq S) (sHw S) (sMp S) (sDr S) (sFn S) (sFl S) (va_up (sFr S) k ((sFr S k).1, E, (sFr S k).2.2)) (sFi S)) := by
  obtain ⟨hN, ⟨ok1, ok2, ok3, ok4, ok5, ok6, ok7, ok8, ok9⟩, h0, ⟨s1, s2, s3⟩, ⟨e1, e2, e3⟩, ⟨F7, h7, hF7⟩, ⟨F8, h8, hF8⟩, ⟨TF, h9⟩, ⟨TD, h14⟩, ⟨TC, h17⟩, hfr, hfi⟩ := h
  exact ⟨hN, ⟨ok1, ok2, ok3, ok4, ok5, ok6, ok7, fun i hi => by
    by_cases e : i = k
    · subst e
      show okFr (va_up (sFr S) i _ i)
      rw [va_us]
      exact ⟨(ok8 i hi).1, hv⟩
    · show okFr (va_up (sFr S) k _ i)
      rw [va_un _ _ e]
      exact ok8 i hi, ok9⟩, ((va_un _ _ (by omega)).trans ((va_un _ _ (by omega)).trans ((va_un _ _ (by omega)).trans h0))), ⟨((va_un _ _ (by omega)).trans ((va_un _ _ (by omega)).trans ((va_un _ _ (by omega)).trans s1))), ((va_un _ _ (by omega)).trans ((va_un _ _ (by omega)).trans ((va_un _ _ (by omega)).trans s2))), ((va_un _ _ (by omega)).trans ((va_un _ _ (by omega)).trans ((va_un _ _ (by omega)).trans s3)))⟩, ⟨((va_un _ _ (by omega)).trans ((va_un _ _ (by omega)).trans ((va_un _ _ (by omega)).trans e1))), ((va_un _ _ (by omega)).trans ((va_un _ _ (by omega)).trans ((va_un _ _ (by omega)).trans e2))), ((va_un _ _ (by omega)).trans ((va_un _ _ (by omega)).trans ((va_un _ _ (by omega)).trans e3)))⟩, ⟨F7, ((va_un _ _ (by omega)).trans ((va_un _ _ (by omega)).trans ((va_un _ _ (by omega)).trans h7))), hF7⟩, ⟨F8, ((va_un _ _ (by omega)).trans ((va_un _ _ (by omega)).trans ((va_un _ _ (by omega)).trans h8))), hF8⟩, ⟨TF, (isFr_up (isFr_up (isFr_up h9 (by omega)) (by omega)) (by omega))⟩, ⟨TD, (isPi_up (isPi_up (isPi_up h14 (by omega)) (by omega)) (by omega))⟩, ⟨TC, (isPi_up (isPi_up (isPi_up h17 (by omega)) (by omega)) (by omega))⟩, fun i hi => by
    by_cases e : i = k
    · subst e
      show isFr G ad _ _ (va_up (sFr S) i _ i)
      rw [va_us]
      obtain ⟨a1, a2, a3, a4, a5⟩ := hfr i hi
      exact ⟨((va_un _ _ (by omega)).trans ((va_un _ _ (by omega)).trans ((va_un _ _ (by omega)).trans a1))), ((va_un _ _ (by omega)).trans ((va_un _ _ (by omega)).trans ((va_un _ _ (by omega)).trans a2))), (va_us _ _ _), ((va_un _ _ (by omega)).trans ((va_un _ _ (by omega)).trans (va_us _ _ _))), ((va_un _ _ (by omega)).trans (va_us _ _ _))⟩
    · show isFr G ad _ _ (va_up (sFr S) k _ i)
      rw [va_un _ _ e]
      exact (isFr_up (isFr_up (isFr_up (hfr i hi) (by omega)) (by omega)) (by omega)), fun i hi => (isFi_up (isFi_up (isFi_up (hfi i hi) (by omega)) (by omega)) (by omega))⟩
theorem up_undo {G : iG} {N : Nat} {ad : Nat → Nat} {C : Nat → va_E} {o : Nat} {S : St} (h : Cam G N ad C o S) {k : Nat} (hk : k < 6) {n : Nat} (hv : okEr ((sFr S k).2.1.1, (sFr S k).2.1.2.1, n)) : Cam G N ad (va_up C (o + 20 + 5 * k + 2) (ob 0 [.ref (ad (o + 20 + 5 * k + 2 + 1)), .ref (ad (o + 20 + 5 * k + 2 + 2)), .int (nI n)])) o (mkS (sSh S) (sFac S) (sGq S) (sHw S) (sMp S) (sDr S) (sFn S) (sFl S) (va_up (sFr S) k ((sFr S k).1, ((sFr S k).2.1.1, (sFr S k).2.1.2.1, n), (sFr S k).2.2)) (sFi S)) := by
  obtain ⟨hN, ⟨ok1, ok2, ok3, ok4, ok5, ok6, ok7, ok8, ok9⟩, h0, ⟨s1, s2, s3⟩, ⟨e1, e2, e3⟩, ⟨F7, h7, hF7⟩, ⟨F8, h8, hF8⟩, ⟨TF, h9⟩, ⟨TD, h14⟩, ⟨TC, h17⟩, hfr, hfi⟩ := h
  exact ⟨hN, ⟨ok1, ok2, ok3, ok4, ok5, ok6, ok7, fun i hi => by
    by_cases e : i = k
    · subst e
      show okFr (va_up (sFr S) i _ i)
      rw [va_us]
      exact ⟨(ok8 i hi).1, hv⟩
    · show okFr (va_up (sFr S) k _ i)
      rw [va_un _ _ e]
      exact ok8 i hi, ok9⟩, ((va_un _ _ (by omega)).trans h0), ⟨((va_un _ _ (by omega)).trans s1), ((va_un _ _ (by omega)).trans s2), ((va_un _ _ (by omega)).trans s3)⟩, ⟨((va_un _ _ (by omega)).trans e1), ((va_un _ _ (by omega)).trans e2), ((va_un _ _ (by omega)).trans e3)⟩, ⟨F7, ((va_un _ _ (by omega)).trans h7), hF7⟩, ⟨F8, ((va_un _ _ (by omega)).trans h8), hF8⟩, ⟨TF, (isFr_up h9 (by omega))⟩, ⟨TD, (isPi_up h14 (by omega))⟩, ⟨TC, (isPi_up h17 (by omega))⟩, fun i hi => by
    by_cases e : i = k
    · subst e
      show isFr G ad _ _ (va_up (sFr S) i _ i)
      rw [va_us]
      obtain ⟨a1, a2, a3, a4, a5⟩ := hfr i hi
      exact ⟨((va_un _ _ (by omega)).trans a1), ((va_un _ _ (by omega)).trans a2), (va_us _ _ _), ((va_un _ _ (by omega)).trans a4), ((va_un _ _ (by omega)).trans a5)⟩
    · show isFr G ad _ _ (va_up (sFr S) k _ i)
      rw [va_un _ _ e]
      exact (isFr_up (hfr i hi) (by omega)), fun i hi => (isFi_up (hfi i hi) (by omega))⟩
theorem up_save {G : iG} {N : Nat} {ad : Nat → Nat} {C : Nat → va_E} {o : Nat} {S : St} (h : Cam G N ad C o S) {k : Nat} (hk : k < 6) {E : Er} (hv : okEr E) {f v : Nat} (hf : f < 6) : Cam G N ad (va_up (va_up (va_up (va_up C (o + 50 + 4 * k) (ob 5 [.ref (ad (o + 50 + 4 * k + 1)), .int (nI f), .int (nI v)])) (o + 50 + 4 * k + 1 + 1) (ia G 6 (fun i => nI (E.1 i)))) (o + 50 + 4 * k + 1 + 2) (ia G 6 (fun i => nI (E.2.1 i)))) (o + 50 + 4 * k + 1) (ob 0 [.ref (ad (o + 50 + 4 * k + 1 + 1)), .ref (ad (o + 50 + 4 * k + 1 + 2)), .int (nI E.2.2)])) o (mkS (sSh S) (sFac S) (sGq S) (sHw S) (sMp S) (sDr S) (sFn S) (sFl S) (sFr S) (va_up (sFi S) k (E, f, v))) := by
  obtain ⟨hN, ⟨ok1, ok2, ok3, ok4, ok5, ok6, ok7, ok8, ok9⟩, h0, ⟨s1, s2, s3⟩, ⟨e1, e2, e3⟩, ⟨F7, h7, hF7⟩, ⟨F8, h8, hF8⟩, ⟨TF, h9⟩, ⟨TD, h14⟩, ⟨TC, h17⟩, hfr, hfi⟩ := h
  exact ⟨hN, ⟨ok1, ok2, ok3, ok4, ok5, ok6, ok7, ok8, fun i hi => by
    by_cases e : i = k
    · subst e
      show okFi (va_up (sFi S) i _ i)
      rw [va_us]
      exact ⟨hv, hf⟩
    · show okFi (va_up (sFi S) k _ i)
      rw [va_un _ _ e]
      exact ok9 i hi⟩, ((va_un _ _ (by omega)).trans ((va_un _ _ (by omega)).trans ((va_un _ _ (by omega)).trans ((va_un _ _ (by omega)).trans h0)))), ⟨((va_un _ _ (by omega)).trans ((va_un _ _ (by omega)).trans ((va_un _ _ (by omega)).trans ((va_un _ _ (by omega)).trans s1)))), ((va_un _ _ (by omega)).trans ((va_un _ _ (by omega)).trans ((va_un _ _ (by omega)).trans ((va_un _ _ (by omega)).trans s2)))), ((va_un _ _ (by omega)).trans ((va_un _ _ (by omega)).trans ((va_un _ _ (by omega)).trans ((va_un _ _ (by omega)).trans s3))))⟩, ⟨((va_un _ _ (by omega)).trans ((va_un _ _ (by omega)).trans ((va_un _ _ (by omega)).trans ((va_un _ _ (by omega)).trans e1)))), ((va_un _ _ (by omega)).trans ((va_un _ _ (by omega)).trans ((va_un _ _ (by omega)).trans ((va_un _ _ (by omega)).trans e2)))), ((va_un _ _ (by omega)).trans ((va_un _ _ (by omega)).trans ((va_un _ _ (by omega)).trans ((va_un _ _ (by omega)).trans e3))))⟩, ⟨F7, ((va_un _ _ (by omega)).trans ((va_un _ _ (by omega)).trans ((va_un _ _ (by omega)).trans ((va_un _ _ (by omega)).trans h7)))), hF7⟩, ⟨F8, ((va_un _ _ (by omega)).trans ((va_un _ _ (by omega)).trans ((va_un _ _ (by omega)).trans ((va_un _ _ (by omega)).trans h8)))), hF8⟩, ⟨TF, (isFr_up (isFr_up (isFr_up (isFr_up h9 (by omega)) (by omega)) (by omega)) (by omega))⟩, ⟨TD, (isPi_up (isPi_up (isPi_up (isPi_up h14 (by omega)) (by omega)) (by omega)) (by omega))⟩, ⟨TC, (isPi_up (isPi_up (isPi_up (isPi_up h17 (by omega)) (by omega)) (by omega)) (by omega))⟩, fun i hi => (isFr_up (isFr_up (isFr_up (isFr_up (hfr i hi) (by omega)) (by omega)) (by omega)) (by omega)), fun i hi => by
    by_cases e : i = k
    · subst e
      show isFi G ad _ _ (va_up (sFi S) i _ i)
      rw [va_us]
      obtain ⟨a1, a2, a3, a4⟩ := hfi i hi
      exact ⟨((va_un _ _ (by omega)).trans ((va_un _ _ (by omega)).trans ((va_un _ _ (by omega)).trans (va_us _ _ _)))), (va_us _ _ _), ((va_un _ _ (by omega)).trans ((va_un _ _ (by omega)).trans (va_us _ _ _))), ((va_un _ _ (by omega)).trans (va_us _ _ _))⟩
    · show isFi G ad _ _ (va_up (sFi S) k _ i)
      rw [va_un _ _ e]
      exact (isFi_up (isFi_up (isFi_up (isFi_up (hfi i hi) (by omega)) (by omega)) (by omega)) (by omega))⟩
theorem upd_n (f : Nat → Nat) (n v : Nat) : upd (fun i => nI (f i)) n (nI v) = fun i => nI (va_up f n v i) := by
  funext i
  by_cases h : i = n <;> simp [upd, va_up, h]
def leN (k : Nat) : Nat := if k = 1 ∨ k = 2 then 1 else 0
theorem leN_eq {k : Nat} (hk : k < 6) : leastI (nI k) = nI (leN k) := by
  unfold leastI leN
  have a1 : nI k = nI 1 ↔ k = 1 := nI_eq (by omega) (by omega)
  have a2 : nI k = nI 2 ↔ k = 2 := nI_eq (by omega) (by omega)
  simp only [a1, a2]
  split <;> rfl
theorem okE_rng {k n : Nat} (h : okE k n) (h4 : 4 ≤ k → n = 0) : leN k ≤ n ∧ n ≤ mostN k := by
  obtain ⟨h1, h2, h3, h5⟩ := h
  unfold leN mostN
  split <;> (try split) <;> (try split) <;> (try split) <;> omega
/-- files of a frame, edits of all frames -/
def cfN (fi : Nat → Fi) (f : Nat) : Nat → Nat
  | 0 => 0
  | n + 1 => cfN fi f n + if (fi n).2.1 = f then 1 else 0
theorem cfN_le (fi : Nat → Fi) (f : Nat) : ∀ n, cfN fi f n ≤ n
  | 0 => Nat.le_refl _
  | n + 1 => by
    have := cfN_le fi f n
    unfold cfN
    split <;> omega
def ceN (fr : Nat → Fr) : Nat → Nat
  | 0 => 0
  | n + 1 => ceN fr n + (fr n).2.1.2.2
abbrev rmX6_needFrame : Room := { frames := 0, cells := 0, slots := 0, locals := 0 }
set_option maxRecDepth 20000 in
theorem iu_X6_needFrame_6 : ∀ w ∈ u_ws RX6 TX6 9, w ∈ wsX6_needFrame := by decide +kernel
set_option maxRecDepth 20000 in
theorem il_X6_needFrame_35 : (Cond.fieldLink RX6 35 "BayerGate" "frameCount" "I") ∈ wsX6_needFrame := by decide +kernel
set_option maxHeartbeats 4000000 in
set_option maxRecDepth 100000 in
theorem kX6_needFrame (l : Launch) (G : iG) (N : Nat) (ad : Nat → Nat) (C : Nat → va_E) (o : Nat) {fn fl q0 q1 q2 q3 q6 q7 q8 : Nat} (lo : o < N) (h0 : C o = ob 6 [.ref (ad q0), .ref (ad q1), .ref (ad q2), .ref (ad q3), .int (nI fn), .int (nI fl), .ref (ad q6), .ref (ad q7), .ref (ad q8)]) (k : Nat) (hfn : fn ≤ 6) (hk : k < fn) (sz : Nat) : Met l yX6_needFrame wsX6_needFrame rmX6_needFrame (iPre G N ad C sz [.ref (ad o), .int (nI k)]) (va_Qv (fun (u : Nat → va_E) => u = C) (iB G N ad) (iA N ad sz)) 0 0 (iA N ad sz) := by
  refine Met.ofW (cc := cX6_needFrame) (maxL := 2) (ret := none) (by decide) rfl ?_
  intro p e s m args below meth c s₁ B hml hv
  obtain ⟨rfl, hsz, hP, hK, hD0⟩ := hv
  have hx := B.exec
  have hb := B.bytes
  have hr := B.returns
  have hts := atoms_spec (ws := wsX6_needFrame) B.pre
  have hown : s.vm.findClass RX6 = some m.cls := findClass_of_methodNamed B.named
  have hlocks := B.notSynchronized
  subst hsz
  have hD := wl_self hD0 s.heap.size
  have hA : ∀ q : Nat, s.heap.size ≤ q → iA N ad s.heap.size q := fun q h => Or.inr h
  have hS : va_S (iA N ad s.heap.size) s.heap s.heap [] := va_S.rf
  have hP : va_P G.1 vwB (wl N ad C) s.heap := hP
  have hl := lv_entry ([.ref (ad o), .int (nI k)]) (n := 2) (Nat.le_of_ble_eq_true rfl)
  rw [lg_entry_eq]
  generalize (lg_sl ([.ref (ad o), .int (nI k)]) ++ List.replicate (2 - (lg_sl ([.ref (ad o), .int (nI k)])).length) Slot.unset).toArray = ls at hl ⊢
  have hl : lv_has ls 2 [(0, .ref (ad o)), (1, .int (nI k))] := hl
  refine lv_iload_n hx hb dX6_needFrame_0 rfl (lv_at hl 1 rfl) ?_
  refine lv_if_lt (tgt := 12) hx hb dX6_needFrame_1 (by decide) (fun c9 => absurd c9 (nI_pos (by omega))) (fun _ => ?_)
  refine lv_iload_n hx hb dX6_needFrame_4 rfl (lv_at hl 1 rfl) ?_
  refine lv_aload_n hx hb dX6_needFrame_5 rfl (lv_at hl 0 rfl) ?_
  refine iw_get hx hb hts iu_X6_needFrame_6 hown hK hP lo (h0) rfl 4 (by decide) (hts _ il_X6_needFrame_35) (fun _ h9 => h9) rfl dX6_needFrame_6 ?_
  refine lv_icmp_lt (tgt := 23) hx hb dX6_needFrame_9 (by decide) (fun _ => ?_) (fun c9 => absurd (nI_lt hk (by omega)) c9)
  exact W.vret hx hb hr (fun t ht hW => ⟨⟨_, rfl, rfl, iB_of ht hP⟩, hS.F ht⟩) hS.2.2 dX6_needFrame_23
abbrev rmX6_take : Room := { frames := 3, cells := 0, slots := 0, locals := 74 }
set_option maxRecDepth 20000 in
theorem iu_X6_take_6 : ∀ w ∈ u_ws RX6 TX6 9, w ∈ wsX6_take := by decide +kernel
set_option maxRecDepth 20000 in
theorem il_X6_take_35 : (Cond.fieldLink RX6 35 "BayerGate" "frameCount" "I") ∈ wsX6_take := by decide +kernel
set_option maxRecDepth 20000 in
theorem il_X6_take_19 : (Cond.fieldLink RX6 19 "BayerGate" "sensor" "LBayerGate$Sensor;") ∈ wsX6_take := by decide +kernel
set_option maxRecDepth 20000 in
theorem il_X6_take_12 : (Cond.fieldLink RX6 12 "BayerGate" "scene" "LBayerGate$Scene;") ∈ wsX6_take := by decide +kernel
set_option maxRecDepth 20000 in
theorem il_X6_take_25 : (Cond.fieldLink RX6 25 "BayerGate" "frameRow" "[LBayerGate$Frame;") ∈ wsX6_take := by decide +kernel
set_option maxHeartbeats 4000000 in
set_option maxRecDepth 100000 in
theorem kX6_take (l : Launch) (G : iG) (N : Nat) (ad : Nat → Nat) (C : Nat → va_E) (o : Nat) (S : St) (hcam : Cam G N ad C o S) (t1 g1 : Nat) (ht : 0 < t1 ∧ t1 < 65) (hg : 0 < g1 ∧ g1 < 9) (hfn : sFn S < 6) (sz : Nat) : Met l yX6_take wsX6_take rmX6_take (iPre G N ad C sz [.ref (ad o), .int (nI t1), .int (nI g1)]) (va_Qi (fun (r : Int32) (u : Nat → va_E) => r = nI (sFn S) ∧ Cam G N ad u o (mkS (sSh S) (sFac S) (sGq S) (sHw S) (sMp S) (drN (sDr S) 64) (sFn S + 1) (sFl S) (va_up (sFr S) (sFn S) ((exN (sHw S) (sSh S) (sFac S) (sDr S) t1 g1), (sFr S (sFn S)).2.1, nI t1, nI g1, (sFr S (sFn S)).2.2.2.2)) (sFi S)) ∧ same C u o) (iB G N ad) (iA N ad sz)) 0 0 (iA N ad sz) := by
  refine Met.ofW (cc := cX6_take) (maxL := 4) (ret := (some .int)) (by decide) rfl ?_
  intro p e s m args below meth c s₁ B hml hv
  obtain ⟨rfl, hsz, hP, hK, hD0⟩ := hv
  have hx := B.exec
  have hb := B.bytes
  have hr := B.returns
  have hts := atoms_spec (ws := wsX6_take) B.pre
  have hown : s.vm.findClass RX6 = some m.cls := findClass_of_methodNamed B.named
  have hlocks := B.notSynchronized
  subst hsz
  have hD := wl_self hD0 s.heap.size
  have hA : ∀ q : Nat, s.heap.size ≤ q → iA N ad s.heap.size q := fun q h => Or.inr h
  have hS : va_S (iA N ad s.heap.size) s.heap s.heap [] := va_S.rf
  have hP : va_P G.1 vwB (wl N ad C) s.heap := hP
  have hl := lv_entry ([.ref (ad o), .int (nI t1), .int (nI g1)]) (n := 4) (Nat.le_of_ble_eq_true rfl)
  rw [lg_entry_eq]
  generalize (lg_sl ([.ref (ad o), .int (nI t1), .int (nI g1)]) ++ List.replicate (4 - (lg_sl ([.ref (ad o), .int (nI t1), .int (nI g1)])).length) Slot.unset).toArray = ls at hl ⊢
  have hl : lv_has ls 4 [(0, .ref (ad o)), (1, .int (nI t1)), (2, .int (nI g1))] := hl
  obtain ⟨hN, ⟨ok1, ok2, ok3, ok4, ok5, ok6, ok7, ok8, ok9⟩, h0, ⟨s1, s2, s3⟩, ⟨e1, e2, e3⟩, ⟨F7, h7, hF7⟩, ⟨F8, h8, hF8⟩, ⟨TF, tr1, tr2, tr3, tr4, tr5⟩, ⟨TD, dv1, dv2, dv3⟩, ⟨TC, cv1, cv2, cv3⟩, hfr, hfi⟩ := id hcam
  obtain ⟨f1, f2, f3, f4, f5⟩ := hfr (sFn S) hfn
  obtain ⟨okr, oke, oki⟩ := ok8 (sFn S) hfn
  refine lv_iload_n hx hb dX6_take_0 rfl (lv_at hl 1 rfl) ?_
  refine lv_iload_n hx hb dX6_take_1 rfl (lv_at hl 2 rfl) ?_
  refine iw_pv (va_runS (As := [.int (nI t1), .int (nI g1)]) (rest := []) ⟨hx, hb, hml, hown, hts⟩ (kX6_needExposure l t1 g1 ht hg) (va_cwS 2 hts gX6_take_X6_needExposure rfl rfl rfl (by decide +kernel) ⟨Nat.le_of_ble_eq_true rfl, Nat.le_of_ble_eq_true rfl⟩) ⟨fun a U g mk q => q, fun U hU hW => ⟨rfl, trivial⟩⟩ rfl rfl hl.1 rfl (lv_room (Nat.le_of_ble_eq_true rfl)) dX6_take_2 ⟨Nat.le_of_ble_eq_true rfl, Nat.le_of_ble_eq_true rfl⟩) hP hS (fun u8 H locs hw8 hP hS => ?_)
  refine lv_aload_n hx hb dX6_take_5 rfl (lv_at hl 0 rfl) ?_
  refine iw_get hx hb hts iu_X6_take_6 hown hK hP (by omega) (h0) rfl 4 (by decide) (hts _ il_X6_take_35) (fun _ h9 => h9) rfl dX6_take_6 ?_
  refine lv_bipush (v := nI 6) hx hb dX6_take_9 (by decide) ?_
  refine iw_pv (va_runS (As := [.int (nI (sFn S)), .int (nI 6)]) (rest := []) ⟨hx, hb, hml, hown, hts⟩ (kX6_needRoom l (sFn S) 6 hfn (by omega)) (va_cwS 2 hts gX6_take_X6_needRoom rfl rfl rfl (by decide +kernel) ⟨Nat.le_of_ble_eq_true rfl, Nat.le_of_ble_eq_true rfl⟩) ⟨fun a U g mk q => q, fun U hU hW => ⟨rfl, trivial⟩⟩ rfl rfl hl.1 rfl (lv_room (Nat.le_of_ble_eq_true rfl)) dX6_take_11 ⟨Nat.le_of_ble_eq_true rfl, Nat.le_of_ble_eq_true rfl⟩) hP hS (fun u8 H locs hw8 hP hS => ?_)
  refine lv_aload_n hx hb dX6_take_14 rfl (lv_at hl 0 rfl) ?_
  refine iw_get hx hb hts iu_X6_take_6 hown hK hP (by omega) (h0) rfl 4 (by decide) (hts _ il_X6_take_35) (fun _ h9 => h9) rfl dX6_take_15 ?_
  refine lv_istore_n (lv' := [(3, .int (nI (sFn S))), (0, .ref (ad o)), (1, .int (nI t1)), (2, .int (nI g1))]) hx hb dX6_take_18 rfl hl (by decide) rfl (fun ls hl => ?_)
  refine lv_aload_n hx hb dX6_take_19 rfl (lv_at hl 1 rfl) ?_
  refine iw_get hx hb hts iu_X6_take_6 hown hK hP (by omega) (h0) rfl 1 (by decide) (hts _ il_X6_take_19) (fun _ h9 => h9) rfl dX6_take_20 ?_
  refine lv_aload_n hx hb dX6_take_23 rfl (lv_at hl 1 rfl) ?_
  refine iw_get hx hb hts iu_X6_take_6 hown hK hP (by omega) (h0) rfl 1 (by decide) (hts _ il_X6_take_19) (fun _ h9 => h9) rfl dX6_take_24 ?_
  refine lv_aload_n hx hb dX6_take_27 rfl (lv_at hl 1 rfl) ?_
  refine iw_get hx hb hts iu_X6_take_6 hown hK hP (by omega) (h0) rfl 0 (by decide) (hts _ il_X6_take_12) (fun _ h9 => h9) rfl dX6_take_28 ?_
  refine lv_iload_n hx hb dX6_take_31 rfl (lv_at hl 2 rfl) ?_
  refine lv_iload_n hx hb dX6_take_32 rfl (lv_at hl 3 rfl) ?_
  refine lv_aload_n hx hb dX6_take_33 rfl (lv_at hl 1 rfl) ?_
  refine iw_get hx hb hts iu_X6_take_6 hown hK hP (by omega) (h0) rfl 2 (by decide) (hts _ il_X6_take_25) (fun _ h9 => h9) rfl dX6_take_34 ?_
  refine lv_iload_n hx hb dX6_take_37 rfl (lv_at hl 0 rfl) ?_
  refine iw_ralM (v := ad (o + 20 + 5 * (sFn S))) hx hb hK hP (by omega) (h7) (vp_in_nI (show sFn S < 6 by omega) (by omega)) ((congrArg F7 (nI_clamp (by omega))).trans (hF7 _ (by omega))) dX6_take_38 ?_
  refine iw_i (va_runV (As := [.ref (ad (o + 1)), .int (nI t1), .int (nI g1), .ref (ad (o + 20 + 5 * (sFn S)))]) (rest := [.ref (ad (o + 4))]) ⟨hx, hb, hml, hown, hts⟩ (kX4_expose l G N ad _ (by omega) (by omega) (by omega) (s1) (s2) (s3) (by omega) (by omega) (by omega) (e1) (e2) (e3) (by omega) (by omega) (f1) (f2) (by omega) (by omega) ok5 (time := t1) (gain := g1) ht.1 ht.2 ok2 _) (cwV 4 hts gX6_take_X4_expose rfl rfl rfl (by decide +kernel) ⟨Nat.le_of_ble_eq_true rfl, Nat.le_of_ble_eq_true rfl⟩) (iPV hK hP hD (by omega) (e1) rfl [.ref (ad (o + 1)), .int (nI t1), .int (nI g1), .ref (ad (o + 20 + 5 * (sFn S)))]) rfl rfl hl.1 rfl (lv_room (Nat.le_of_ble_eq_true rfl)) dX6_take_39 ⟨Nat.le_of_ble_eq_true rfl, Nat.le_of_ble_eq_true rfl⟩) hD hS hA (fun r8 u8 H locs hw8 hP hD hS => ?_)
  obtain ⟨hr8, hu8⟩ := hw8
  refine lv_asI hr8 ?_
  rw [hu8] at hP hD
  refine iw_v (va_runV (As := [.int (nI (drN (sDr S) 64))]) (rest := []) ⟨hx, hb, hml, hown, hts⟩ (kX4_advance l G N ad _ (by omega) (by omega) (by omega) ((va_un _ _ (by omega)).trans ((va_un _ _ (by omega)).trans (e1))) ((va_un _ _ (by omega)).trans ((va_un _ _ (by omega)).trans (e2))) ((va_un _ _ (by omega)).trans ((va_un _ _ (by omega)).trans (e3))) (drN (sDr S) 64) _) (cwV 1 hts gX6_take_X4_advance rfl rfl rfl (by decide +kernel) ⟨Nat.le_of_ble_eq_true rfl, Nat.le_of_ble_eq_true rfl⟩) (iPV hK hP hD (by omega) ((va_un _ _ (by omega)).trans ((va_un _ _ (by omega)).trans (e1))) rfl [.int (nI (drN (sDr S) 64))]) rfl rfl hl.1 rfl (lv_room (Nat.le_of_ble_eq_true rfl)) dX6_take_42 ⟨Nat.le_of_ble_eq_true rfl, Nat.le_of_ble_eq_true rfl⟩) hD hS hA (fun u8 H locs hw8 hP hD hS => ?_)
  rw [hw8] at hP hD
  refine lv_aload_n hx hb dX6_take_45 rfl (lv_at hl 1 rfl) ?_
  refine lv_iload_n hx hb dX6_take_46 rfl (lv_at hl 0 rfl) ?_
  refine lv_iconst (v := nI 1) hx hb dX6_take_47 (by decide) ?_
  refine lv_iadd hx hb dX6_take_48 ?_
  refine lv_asI (y := nI ((sFn S) + 1)) (nI_add _ _) ?_
  refine iw_put (ty := .int) hx hb hts iu_X6_take_6 tyX6 tyX6_ok nmX6 hown hK hP hD hS (by omega) ((va_un _ _ (by omega)).trans ((va_un _ _ (by omega)).trans ((va_un _ _ (by omega)).trans (h0)))) rfl 4 (by decide) (hts _ il_X6_take_35) (fun _ h9 => h9) rfl (by decide +kernel) rfl rfl (Nat.le_of_ble_eq_true rfl) rfl dX6_take_49 (fun H locs hP hD hS => ?_)
  refine lv_iload_n hx hb dX6_take_52 rfl (lv_at hl 0 rfl) ?_
  have q1 := up_take hcam hfn (rw := (exN (sHw S) (sSh S) (sFac S) (sDr S) t1 g1)) (fun i hi => (exN_ok _ _ _ _ _ _ i).1) (nI t1) (nI g1) (sFr S (sFn S)).2.2.2.2
  have q2 := up_dr q1 (d := drN (sDr S) 64) (drN_lt ok5 64)
  have q3 := up_fn q2 (n := sFn S + 1) (by omega)
  exact W.iret (v := (nI (sFn S))) hx hb hr (fun t ht hW => ⟨⟨_, _, rfl, ⟨rfl, q3, same_up (same_up (same_up (same_up (same_rf) _ (by omega) (by omega)) _ (by omega) (by omega)) _ (by omega) (by omega)) _ (by omega) (by omega)⟩, iB_of ht hP⟩, hS.F ht⟩) hS.2.2 dX6_take_53
abbrev rmX6_edit : Room := { frames := 1, cells := 0, slots := 0, locals := 22 }
set_option maxRecDepth 20000 in
theorem iu_X6_edit_6 : ∀ w ∈ u_ws RX6 TX6 9, w ∈ wsX6_edit := by decide +kernel
set_option maxRecDepth 20000 in
theorem il_X6_edit_25 : (Cond.fieldLink RX6 25 "BayerGate" "frameRow" "[LBayerGate$Frame;") ∈ wsX6_edit := by decide +kernel
set_option maxRecDepth 20000 in
theorem iu_X6_edit_1 : ∀ w ∈ u_ws RX1 TX1 5, w ∈ wsX6_edit := by decide +kernel
set_option maxHeartbeats 4000000 in
set_option maxRecDepth 100000 in
theorem kX6_edit (l : Launch) (G : iG) (N : Nat) (ad : Nat → Nat) (C : Nat → va_E) (o : Nat) (S : St) (hcam : Cam G N ad C o S) (k : Nat) (hkn : k < sFn S) (kd nb : Nat) (hok0 : okE kd nb) (h40 : 4 ≤ kd → nb = 0) (hel : (sFr S k).2.1.2.2 < 6) (sz : Nat) : Met l yX6_edit wsX6_edit rmX6_edit (iPre G N ad C sz [.ref (ad o), .int (nI k), .int (nI kd), .int (nI nb)]) (va_Qi (fun (r : Int32) (u : Nat → va_E) => r = nI ((sFr S k).2.1.2.2 + 1) ∧ Cam G N ad u o (mkS (sSh S) (sFac S) (sGq S) (sHw S) (sMp S) (sDr S) (sFn S) (sFl S) (va_up (sFr S) k ((sFr S k).1, (va_up (sFr S k).2.1.1 (sFr S k).2.1.2.2 kd, va_up (sFr S k).2.1.2.1 (sFr S k).2.1.2.2 nb, (sFr S k).2.1.2.2 + 1), (sFr S k).2.2)) (sFi S)) ∧ same C u o) (iB G N ad) (iA N ad sz)) 0 0 (iA N ad sz) := by
  refine Met.ofW (cc := cX6_edit) (maxL := 5) (ret := (some .int)) (by decide) rfl ?_
  intro p e s m args below meth c s₁ B hml hv
  obtain ⟨rfl, hsz, hP, hK, hD0⟩ := hv
  have hx := B.exec
  have hb := B.bytes
  have hr := B.returns
  have hts := atoms_spec (ws := wsX6_edit) B.pre
  have hown : s.vm.findClass RX6 = some m.cls := findClass_of_methodNamed B.named
  have hlocks := B.notSynchronized
  subst hsz
  have hD := wl_self hD0 s.heap.size
  have hA : ∀ q : Nat, s.heap.size ≤ q → iA N ad s.heap.size q := fun q h => Or.inr h
  have hS : va_S (iA N ad s.heap.size) s.heap s.heap [] := va_S.rf
  have hP : va_P G.1 vwB (wl N ad C) s.heap := hP
  have hl := lv_entry ([.ref (ad o), .int (nI k), .int (nI kd), .int (nI nb)]) (n := 5) (Nat.le_of_ble_eq_true rfl)
  rw [lg_entry_eq]
  generalize (lg_sl ([.ref (ad o), .int (nI k), .int (nI kd), .int (nI nb)]) ++ List.replicate (5 - (lg_sl ([.ref (ad o), .int (nI k), .int (nI kd), .int (nI nb)])).length) Slot.unset).toArray = ls at hl ⊢
  have hl : lv_has ls 5 [(0, .ref (ad o)), (1, .int (nI k)), (2, .int (nI kd)), (3, .int (nI nb))] := hl
  obtain ⟨hN, ⟨ok1, ok2, ok3, ok4, ok5, ok6, ok7, ok8, ok9⟩, h0, ⟨s1, s2, s3⟩, ⟨e1, e2, e3⟩, ⟨F7, h7, hF7⟩, ⟨F8, h8, hF8⟩, ⟨TF, tr1, tr2, tr3, tr4, tr5⟩, ⟨TD, dv1, dv2, dv3⟩, ⟨TC, cv1, cv2, cv3⟩, hfr, hfi⟩ := id hcam
  have hk : k < 6 := by omega
  obtain ⟨f1, f2, f3, f4, f5⟩ := hfr (k) hk
  obtain ⟨okr, oke, oki⟩ := ok8 (k) hk
  have hkd6 := hok0.1
  refine lv_aload_n hx hb dX6_edit_0 rfl (lv_at hl 0 rfl) ?_
  refine lv_iload_n hx hb dX6_edit_1 rfl (lv_at hl 1 rfl) ?_
  refine iw_v (va_runV (As := [.int (nI k)]) (rest := []) ⟨hx, hb, hml, hown, hts⟩ (kX6_needFrame l G N ad _ o (fn := sFn S) (by omega) (h0) (k) ok6 hkn _) (cwV 1 hts gX6_edit_X6_needFrame rfl rfl rfl (by decide +kernel) ⟨Nat.le_of_ble_eq_true rfl, Nat.le_of_ble_eq_true rfl⟩) (iPV hK hP hD (by omega) (h0) rfl [.int (nI k)]) rfl rfl hl.1 rfl (lv_room (Nat.le_of_ble_eq_true rfl)) dX6_edit_2 ⟨Nat.le_of_ble_eq_true rfl, Nat.le_of_ble_eq_true rfl⟩) hD hS hA (fun u8 H locs hw8 hP hD hS => ?_)
  rw [hw8] at hP hD
  refine lv_iload_n hx hb dX6_edit_5 rfl (lv_at hl 2 rfl) ?_
  refine lv_iconst (v := nI 0) hx hb dX6_edit_6 (by decide) ?_
  refine lv_iconst (v := nI 5) hx hb dX6_edit_7 (by decide) ?_
  refine iw_pv (va_runS (As := [.int (nI kd), .int (nI 0), .int (nI 5)]) (rest := []) ⟨hx, hb, hml, hown, hts⟩ (kX6_needRange l (nI kd) (nI 0) (nI 5) (nI_nlt (by omega) (by omega)) (nI_le (by have := hok0.1; omega) (by omega))) (va_cwS 3 hts gX6_edit_X6_needRange rfl rfl rfl (by decide +kernel) ⟨Nat.le_of_ble_eq_true rfl, Nat.le_of_ble_eq_true rfl⟩) ⟨fun a U g mk q => q, fun U hU hW => ⟨rfl, trivial⟩⟩ rfl rfl hl.1 rfl (lv_room (Nat.le_of_ble_eq_true rfl)) dX6_edit_8 ⟨Nat.le_of_ble_eq_true rfl, Nat.le_of_ble_eq_true rfl⟩) hP hS (fun u8 H locs hw8 hP hS => ?_)
  refine lv_iload_n hx hb dX6_edit_11 rfl (lv_at hl 3 rfl) ?_
  refine lv_iload_n hx hb dX6_edit_12 rfl (lv_at hl 2 rfl) ?_
  refine iw_pi (va_runS (As := [.int (nI kd)]) (rest := [.int (nI nb)]) ⟨hx, hb, hml, hown, hts⟩ (kX6_leastNumber l (nI kd)) (va_cwS 1 hts gX6_edit_X6_leastNumber rfl rfl rfl (by decide +kernel) ⟨Nat.le_of_ble_eq_true rfl, Nat.le_of_ble_eq_true rfl⟩) ⟨fun a U g mk q => q, fun U hU hW => ⟨rfl, trivial⟩⟩ rfl rfl hl.1 rfl (lv_room (Nat.le_of_ble_eq_true rfl)) dX6_edit_13 ⟨Nat.le_of_ble_eq_true rfl, Nat.le_of_ble_eq_true rfl⟩) hP hS (fun r8 u8 H locs hw8 hP hS => ?_)
  refine lv_asI hw8 ?_
  refine lv_asI (y := nI (leN kd)) (leN_eq hok0.1) ?_
  refine lv_iload_n hx hb dX6_edit_16 rfl (lv_at hl 2 rfl) ?_
  refine iw_pi (va_runS (As := [.int (nI kd)]) (rest := [.int (nI (leN kd)), .int (nI nb)]) ⟨hx, hb, hml, hown, hts⟩ (kX6_mostNumber l kd hok0.1) (va_cwS 1 hts gX6_edit_X6_mostNumber rfl rfl rfl (by decide +kernel) ⟨Nat.le_of_ble_eq_true rfl, Nat.le_of_ble_eq_true rfl⟩) ⟨fun a U g mk q => q, fun U hU hW => ⟨rfl, trivial⟩⟩ rfl rfl hl.1 rfl (lv_room (Nat.le_of_ble_eq_true rfl)) dX6_edit_17 ⟨Nat.le_of_ble_eq_true rfl, Nat.le_of_ble_eq_true rfl⟩) hP hS (fun r8 u8 H locs hw8 hP hS => ?_)
  refine lv_asI hw8 ?_
  refine iw_pv (va_runS (As := [.int (nI nb), .int (nI (leN kd)), .int (nI (mostN kd))]) (rest := []) ⟨hx, hb, hml, hown, hts⟩ (kX6_needRange l (nI nb) (nI (leN kd)) (nI (mostN kd)) (nI_nlt (okE_rng hok0 h40).1 (by have := hok0.2.1; omega)) (nI_le (okE_rng hok0 h40).2 (by unfold mostN; split <;> (try split) <;> (try split) <;> omega))) (va_cwS 3 hts gX6_edit_X6_needRange rfl rfl rfl (by decide +kernel) ⟨Nat.le_of_ble_eq_true rfl, Nat.le_of_ble_eq_true rfl⟩) ⟨fun a U g mk q => q, fun U hU hW => ⟨rfl, trivial⟩⟩ rfl rfl hl.1 rfl (lv_room (Nat.le_of_ble_eq_true rfl)) dX6_edit_20 ⟨Nat.le_of_ble_eq_true rfl, Nat.le_of_ble_eq_true rfl⟩) hP hS (fun u8 H locs hw8 hP hS => ?_)
  refine lv_aload_n hx hb dX6_edit_23 rfl (lv_at hl 0 rfl) ?_
  refine iw_get hx hb hts iu_X6_edit_6 hown hK hP (by omega) (h0) rfl 2 (by decide) (hts _ il_X6_edit_25) (fun _ h9 => h9) rfl dX6_edit_24 ?_
  refine lv_iload_n hx hb dX6_edit_27 rfl (lv_at hl 1 rfl) ?_
  refine iw_ralM (v := ad (o + 20 + 5 * k)) hx hb hK hP (by omega) (h7) (vp_in_nI (show k < 6 by omega) (by omega)) ((congrArg F7 (nI_clamp (by omega))).trans (hF7 _ (by omega))) dX6_edit_28 ?_
  refine iw_getN hx hb hts iu_X6_edit_1 hown hK hP (by omega) (f1) rfl 1 (by decide) (nw_RX6_136 hK.2) (fun _ h9 => h9) rfl dX6_edit_29 ?_
  refine lv_astore (lv' := [(4, .ref (ad (o + 20 + 5 * k + 2))), (0, .ref (ad o)), (1, .int (nI k)), (2, .int (nI kd)), (3, .int (nI nb))]) hx hb dX6_edit_32 hl (by decide) rfl (fun ls hl => ?_)
  refine lv_aload hx hb dX6_edit_34 (lv_at hl 0 rfl) ?_
  refine iw_i (va_runV (As := []) (rest := []) ⟨hx, hb, hml, hown, hts⟩ (kX0_count l G N ad _ (n := (sFr S k).2.1.2.2) (by omega) (by omega) (by omega) (f3) (f4) (f5) (by omega) _) (cwV 0 hts gX6_edit_X0_count rfl rfl rfl (by decide +kernel) ⟨Nat.le_of_ble_eq_true rfl, Nat.le_of_ble_eq_true rfl⟩) (iPV hK hP hD (by omega) (f3) rfl []) rfl rfl hl.1 rfl (lv_room (Nat.le_of_ble_eq_true rfl)) dX6_edit_36 ⟨Nat.le_of_ble_eq_true rfl, Nat.le_of_ble_eq_true rfl⟩) hD hS hA (fun r8 u8 H locs hw8 hP hD hS => ?_)
  obtain ⟨hr8, hu8⟩ := hw8
  refine lv_asI hr8 ?_
  rw [hu8] at hP hD
  refine lv_bipush (v := nI 6) hx hb dX6_edit_39 (by decide) ?_
  refine iw_pv (va_runS (As := [.int (nI ((sFr S k).2.1.2.2)), .int (nI 6)]) (rest := []) ⟨hx, hb, hml, hown, hts⟩ (kX6_needRoom l ((sFr S k).2.1.2.2) 6 hel (by omega)) (va_cwS 2 hts gX6_edit_X6_needRoom rfl rfl rfl (by decide +kernel) ⟨Nat.le_of_ble_eq_true rfl, Nat.le_of_ble_eq_true rfl⟩) ⟨fun a U g mk q => q, fun U hU hW => ⟨rfl, trivial⟩⟩ rfl rfl hl.1 rfl (lv_room (Nat.le_of_ble_eq_true rfl)) dX6_edit_41 ⟨Nat.le_of_ble_eq_true rfl, Nat.le_of_ble_eq_true rfl⟩) hP hS (fun u8 H locs hw8 hP hS => ?_)
  refine lv_aload hx hb dX6_edit_44 (lv_at hl 0 rfl) ?_
  refine lv_iload_n hx hb dX6_edit_46 rfl (lv_at hl 3 rfl) ?_
  refine lv_iload_n hx hb dX6_edit_47 rfl (lv_at hl 4 rfl) ?_
  refine iw_v (va_runV (As := [.int (nI kd), .int (nI nb)]) (rest := []) ⟨hx, hb, hml, hown, hts⟩ (kX0_append l G N ad _ (n := (sFr S k).2.1.2.2) (by omega) (by omega) (by omega) (f3) (f4) (f5) (by omega) (nI kd) (nI nb) hel _) (cwV 2 hts gX6_edit_X0_append rfl rfl rfl (by decide +kernel) ⟨Nat.le_of_ble_eq_true rfl, Nat.le_of_ble_eq_true rfl⟩) (iPV hK hP hD (by omega) (f3) rfl [.int (nI kd), .int (nI nb)]) rfl rfl hl.1 rfl (lv_room (Nat.le_of_ble_eq_true rfl)) dX6_edit_48 ⟨Nat.le_of_ble_eq_true rfl, Nat.le_of_ble_eq_true rfl⟩) hD hS hA (fun u8 H locs hw8 hP hD hS => ?_)
  rw [hw8] at hP hD
  rw [upd_n, upd_n] at hP hD
  refine lv_aload hx hb dX6_edit_51 (lv_at hl 0 rfl) ?_
  refine iw_i (va_runV (As := []) (rest := []) ⟨hx, hb, hml, hown, hts⟩ (kX0_count l G N ad _ (n := (sFr S k).2.1.2.2 + 1) (by omega) (by omega) (by omega) (va_us _ _ _) ((va_un _ _ (by omega)).trans ((va_un _ _ (by omega)).trans (va_us _ _ _))) ((va_un _ _ (by omega)).trans (va_us _ _ _)) (by omega) _) (cwV 0 hts gX6_edit_X0_count rfl rfl rfl (by decide +kernel) ⟨Nat.le_of_ble_eq_true rfl, Nat.le_of_ble_eq_true rfl⟩) (iPV hK hP hD (by omega) (va_us _ _ _) rfl []) rfl rfl hl.1 rfl (lv_room (Nat.le_of_ble_eq_true rfl)) dX6_edit_53 ⟨Nat.le_of_ble_eq_true rfl, Nat.le_of_ble_eq_true rfl⟩) hD hS hA (fun r8 u8 H locs hw8 hP hD hS => ?_)
  obtain ⟨hr8, hu8⟩ := hw8
  refine lv_asI hr8 ?_
  rw [hu8] at hP hD
  exact W.iret (v := (nI ((sFr S k).2.1.2.2 + 1))) hx hb hr (fun t ht hW => ⟨⟨_, _, rfl, ⟨rfl, up_edit hcam hk (E := (va_up (sFr S k).2.1.1 (sFr S k).2.1.2.2 kd, va_up (sFr S k).2.1.2.1 (sFr S k).2.1.2.2 nb, (sFr S k).2.1.2.2 + 1)) ⟨hel, fun i hi => by show okE (va_up _ _ _ i) (va_up _ _ _ i); by_cases e : i = (sFr S k).2.1.2.2; subst e; rw [va_us, va_us]; exact hok0; rw [va_un _ _ e, va_un _ _ e]; exact oki i (by have h9 : i < (sFr S k).2.1.2.2 + 1 := hi; omega)⟩, same_up (same_up (same_up (same_rf) _ (by omega) (by omega)) _ (by omega) (by omega)) _ (by omega) (by omega)⟩, iB_of ht hP⟩, hS.F ht⟩) hS.2.2 dX6_edit_56
abbrev rmX6_undo : Room := { frames := 1, cells := 0, slots := 0, locals := 21 }
set_option maxRecDepth 20000 in
theorem iu_X6_undo_6 : ∀ w ∈ u_ws RX6 TX6 9, w ∈ wsX6_undo := by decide +kernel
set_option maxRecDepth 20000 in
theorem il_X6_undo_25 : (Cond.fieldLink RX6 25 "BayerGate" "frameRow" "[LBayerGate$Frame;") ∈ wsX6_undo := by decide +kernel
set_option maxRecDepth 20000 in
theorem iu_X6_undo_1 : ∀ w ∈ u_ws RX1 TX1 5, w ∈ wsX6_undo := by decide +kernel
set_option maxHeartbeats 4000000 in
set_option maxRecDepth 100000 in
theorem kX6_undo (l : Launch) (G : iG) (N : Nat) (ad : Nat → Nat) (C : Nat → va_E) (o : Nat) (S : St) (hcam : Cam G N ad C o S) (k : Nat) (hkn : k < sFn S) (sz : Nat) : Met l yX6_undo wsX6_undo rmX6_undo (iPre G N ad C sz [.ref (ad o), .int (nI k)]) (va_Qi (fun (r : Int32) (u : Nat → va_E) => r = (if (sFr S k).2.1.2.2 = 0 then -nI 1 else nI ((sFr S k).2.1.1 ((sFr S k).2.1.2.2 - 1))) ∧ Cam G N ad u o (mkS (sSh S) (sFac S) (sGq S) (sHw S) (sMp S) (sDr S) (sFn S) (sFl S) (va_up (sFr S) k ((sFr S k).1, ((sFr S k).2.1.1, (sFr S k).2.1.2.1, (sFr S k).2.1.2.2 - 1), (sFr S k).2.2)) (sFi S)) ∧ same C u o) (iB G N ad) (iA N ad sz)) 0 0 (iA N ad sz) := by
  refine Met.ofW (cc := cX6_undo) (maxL := 2) (ret := (some .int)) (by decide) rfl ?_
  intro p e s m args below meth c s₁ B hml hv
  obtain ⟨rfl, hsz, hP, hK, hD0⟩ := hv
  have hx := B.exec
  have hb := B.bytes
  have hr := B.returns
  have hts := atoms_spec (ws := wsX6_undo) B.pre
  have hown : s.vm.findClass RX6 = some m.cls := findClass_of_methodNamed B.named
  have hlocks := B.notSynchronized
  subst hsz
  have hD := wl_self hD0 s.heap.size
  have hA : ∀ q : Nat, s.heap.size ≤ q → iA N ad s.heap.size q := fun q h => Or.inr h
  have hS : va_S (iA N ad s.heap.size) s.heap s.heap [] := va_S.rf
  have hP : va_P G.1 vwB (wl N ad C) s.heap := hP
  have hl := lv_entry ([.ref (ad o), .int (nI k)]) (n := 2) (Nat.le_of_ble_eq_true rfl)
  rw [lg_entry_eq]
  generalize (lg_sl ([.ref (ad o), .int (nI k)]) ++ List.replicate (2 - (lg_sl ([.ref (ad o), .int (nI k)])).length) Slot.unset).toArray = ls at hl ⊢
  have hl : lv_has ls 2 [(0, .ref (ad o)), (1, .int (nI k))] := hl
  obtain ⟨hN, ⟨ok1, ok2, ok3, ok4, ok5, ok6, ok7, ok8, ok9⟩, h0, ⟨s1, s2, s3⟩, ⟨e1, e2, e3⟩, ⟨F7, h7, hF7⟩, ⟨F8, h8, hF8⟩, ⟨TF, tr1, tr2, tr3, tr4, tr5⟩, ⟨TD, dv1, dv2, dv3⟩, ⟨TC, cv1, cv2, cv3⟩, hfr, hfi⟩ := id hcam
  have hk : k < 6 := by omega
  obtain ⟨f1, f2, f3, f4, f5⟩ := hfr (k) hk
  obtain ⟨okr, oke, oki⟩ := ok8 (k) hk
  refine lv_aload_n hx hb dX6_undo_0 rfl (lv_at hl 0 rfl) ?_
  refine lv_iload_n hx hb dX6_undo_1 rfl (lv_at hl 1 rfl) ?_
  refine iw_v (va_runV (As := [.int (nI k)]) (rest := []) ⟨hx, hb, hml, hown, hts⟩ (kX6_needFrame l G N ad _ o (fn := sFn S) (by omega) (h0) (k) ok6 hkn _) (cwV 1 hts gX6_undo_X6_needFrame rfl rfl rfl (by decide +kernel) ⟨Nat.le_of_ble_eq_true rfl, Nat.le_of_ble_eq_true rfl⟩) (iPV hK hP hD (by omega) (h0) rfl [.int (nI k)]) rfl rfl hl.1 rfl (lv_room (Nat.le_of_ble_eq_true rfl)) dX6_undo_2 ⟨Nat.le_of_ble_eq_true rfl, Nat.le_of_ble_eq_true rfl⟩) hD hS hA (fun u8 H locs hw8 hP hD hS => ?_)
  rw [hw8] at hP hD
  refine lv_aload_n hx hb dX6_undo_5 rfl (lv_at hl 0 rfl) ?_
  refine iw_get hx hb hts iu_X6_undo_6 hown hK hP (by omega) (h0) rfl 2 (by decide) (hts _ il_X6_undo_25) (fun _ h9 => h9) rfl dX6_undo_6 ?_
  refine lv_iload_n hx hb dX6_undo_9 rfl (lv_at hl 1 rfl) ?_
  refine iw_ralM (v := ad (o + 20 + 5 * k)) hx hb hK hP (by omega) (h7) (vp_in_nI (show k < 6 by omega) (by omega)) ((congrArg F7 (nI_clamp (by omega))).trans (hF7 _ (by omega))) dX6_undo_10 ?_
  refine iw_getN hx hb hts iu_X6_undo_1 hown hK hP (by omega) (f1) rfl 1 (by decide) (nw_RX6_136 hK.2) (fun _ h9 => h9) rfl dX6_undo_11 ?_
  refine iw_i (va_runV (As := []) (rest := []) ⟨hx, hb, hml, hown, hts⟩ (kX0_takeBack l G N ad _ (n := (sFr S k).2.1.2.2) (by omega) (by omega) (by omega) (f3) (f4) (f5) (by omega) oke _) (cwV 0 hts gX6_undo_X0_takeBack rfl rfl rfl (by decide +kernel) ⟨Nat.le_of_ble_eq_true rfl, Nat.le_of_ble_eq_true rfl⟩) (iPV hK hP hD (by omega) (f3) rfl []) rfl rfl hl.1 rfl (lv_room (Nat.le_of_ble_eq_true rfl)) dX6_undo_14 ⟨Nat.le_of_ble_eq_true rfl, Nat.le_of_ble_eq_true rfl⟩) hD hS hA (fun r8 u8 H locs hw8 hP hD hS => ?_)
  obtain ⟨hr8, hu8⟩ := hw8
  refine lv_asI hr8 ?_
  rw [hu8] at hP hD
  exact W.iret (v := (if (sFr S k).2.1.2.2 = 0 then -nI 1 else nI ((sFr S k).2.1.1 ((sFr S k).2.1.2.2 - 1)))) hx hb hr (fun t ht hW => ⟨⟨_, _, rfl, ⟨rfl, up_undo hcam hk ⟨by show (sFr S k).2.1.2.2 - 1 ≤ 6; omega, fun i hi => oki i (by have h9 : i < (sFr S k).2.1.2.2 - 1 := hi; omega)⟩, same_up (same_rf) _ (by omega) (by omega)⟩, iB_of ht hP⟩, hS.F ht⟩) hS.2.2 dX6_undo_17
abbrev rmX6_raw : Room := { frames := 2, cells := 0, slots := 0, locals := 42 }
set_option maxRecDepth 20000 in
theorem iu_X6_raw_6 : ∀ w ∈ u_ws RX6 TX6 9, w ∈ wsX6_raw := by decide +kernel
set_option maxRecDepth 20000 in
theorem il_X6_raw_25 : (Cond.fieldLink RX6 25 "BayerGate" "frameRow" "[LBayerGate$Frame;") ∈ wsX6_raw := by decide +kernel
set_option maxRecDepth 20000 in
theorem iu_X6_raw_1 : ∀ w ∈ u_ws RX1 TX1 5, w ∈ wsX6_raw := by decide +kernel
set_option maxHeartbeats 4000000 in
set_option maxRecDepth 100000 in
theorem kX6_raw (l : Launch) (G : iG) (N : Nat) (ad : Nat → Nat) (C : Nat → va_E) (o : Nat) (S : St) (hcam : Cam G N ad C o S) (k : Nat) (hkn : k < sFn S) (x y : Nat) (hx8 : x < 8) (hy8 : y < 8) (sz : Nat) : Met l yX6_raw wsX6_raw rmX6_raw (iPre G N ad C sz [.ref (ad o), .int (nI k), .int (nI x), .int (nI y)]) (va_Qi (fun (r : Int32) (u : Nat → va_E) => r = nI ((sFr S k).1 (8 * y + x)) ∧ u = C) (iB G N ad) (iA N ad sz)) 0 0 (iA N ad sz) := by
  refine Met.ofW (cc := cX6_raw) (maxL := 4) (ret := (some .int)) (by decide) rfl ?_
  intro p e s m args below meth c s₁ B hml hv
  obtain ⟨rfl, hsz, hP, hK, hD0⟩ := hv
  have hx := B.exec
  have hb := B.bytes
  have hr := B.returns
  have hts := atoms_spec (ws := wsX6_raw) B.pre
  have hown : s.vm.findClass RX6 = some m.cls := findClass_of_methodNamed B.named
  have hlocks := B.notSynchronized
  subst hsz
  have hD := wl_self hD0 s.heap.size
  have hA : ∀ q : Nat, s.heap.size ≤ q → iA N ad s.heap.size q := fun q h => Or.inr h
  have hS : va_S (iA N ad s.heap.size) s.heap s.heap [] := va_S.rf
  have hP : va_P G.1 vwB (wl N ad C) s.heap := hP
  have hl := lv_entry ([.ref (ad o), .int (nI k), .int (nI x), .int (nI y)]) (n := 4) (Nat.le_of_ble_eq_true rfl)
  rw [lg_entry_eq]
  generalize (lg_sl ([.ref (ad o), .int (nI k), .int (nI x), .int (nI y)]) ++ List.replicate (4 - (lg_sl ([.ref (ad o), .int (nI k), .int (nI x), .int (nI y)])).length) Slot.unset).toArray = ls at hl ⊢
  have hl : lv_has ls 4 [(0, .ref (ad o)), (1, .int (nI k)), (2, .int (nI x)), (3, .int (nI y))] := hl
  obtain ⟨hN, ⟨ok1, ok2, ok3, ok4, ok5, ok6, ok7, ok8, ok9⟩, h0, ⟨s1, s2, s3⟩, ⟨e1, e2, e3⟩, ⟨F7, h7, hF7⟩, ⟨F8, h8, hF8⟩, ⟨TF, tr1, tr2, tr3, tr4, tr5⟩, ⟨TD, dv1, dv2, dv3⟩, ⟨TC, cv1, cv2, cv3⟩, hfr, hfi⟩ := id hcam
  have hk : k < 6 := by omega
  obtain ⟨f1, f2, f3, f4, f5⟩ := hfr (k) hk
  obtain ⟨okr, oke, oki⟩ := ok8 (k) hk
  refine lv_aload_n hx hb dX6_raw_0 rfl (lv_at hl 0 rfl) ?_
  refine lv_iload_n hx hb dX6_raw_1 rfl (lv_at hl 1 rfl) ?_
  refine iw_v (va_runV (As := [.int (nI k)]) (rest := []) ⟨hx, hb, hml, hown, hts⟩ (kX6_needFrame l G N ad _ o (fn := sFn S) (by omega) (h0) (k) ok6 hkn _) (cwV 1 hts gX6_raw_X6_needFrame rfl rfl rfl (by decide +kernel) ⟨Nat.le_of_ble_eq_true rfl, Nat.le_of_ble_eq_true rfl⟩) (iPV hK hP hD (by omega) (h0) rfl [.int (nI k)]) rfl rfl hl.1 rfl (lv_room (Nat.le_of_ble_eq_true rfl)) dX6_raw_2 ⟨Nat.le_of_ble_eq_true rfl, Nat.le_of_ble_eq_true rfl⟩) hD hS hA (fun u8 H locs hw8 hP hD hS => ?_)
  rw [hw8] at hP hD
  refine lv_iload_n hx hb dX6_raw_5 rfl (lv_at hl 2 rfl) ?_
  refine lv_iload_n hx hb dX6_raw_6 rfl (lv_at hl 3 rfl) ?_
  refine iw_pv (va_runS (As := [.int (nI x), .int (nI y)]) (rest := []) ⟨hx, hb, hml, hown, hts⟩ (kX6_needPlace l (x) (y) (by omega) (by omega)) (va_cwS 2 hts gX6_raw_X6_needPlace rfl rfl rfl (by decide +kernel) ⟨Nat.le_of_ble_eq_true rfl, Nat.le_of_ble_eq_true rfl⟩) ⟨fun a U g mk q => q, fun U hU hW => ⟨rfl, trivial⟩⟩ rfl rfl hl.1 rfl (lv_room (Nat.le_of_ble_eq_true rfl)) dX6_raw_7 ⟨Nat.le_of_ble_eq_true rfl, Nat.le_of_ble_eq_true rfl⟩) hP hS (fun u8 H locs hw8 hP hS => ?_)
  refine lv_aload_n hx hb dX6_raw_10 rfl (lv_at hl 0 rfl) ?_
  refine iw_get hx hb hts iu_X6_raw_6 hown hK hP (by omega) (h0) rfl 2 (by decide) (hts _ il_X6_raw_25) (fun _ h9 => h9) rfl dX6_raw_11 ?_
  refine lv_iload_n hx hb dX6_raw_14 rfl (lv_at hl 1 rfl) ?_
  refine iw_ralM (v := ad (o + 20 + 5 * k)) hx hb hK hP (by omega) (h7) (vp_in_nI (show k < 6 by omega) (by omega)) ((congrArg F7 (nI_clamp (by omega))).trans (hF7 _ (by omega))) dX6_raw_15 ?_
  refine iw_getN hx hb hts iu_X6_raw_1 hown hK hP (by omega) (f1) rfl 0 (by decide) (nw_RX6_158 hK.2) (fun _ h9 => h9) rfl dX6_raw_16 ?_
  refine lv_iload_n hx hb dX6_raw_19 rfl (lv_at hl 2 rfl) ?_
  refine lv_iload_n hx hb dX6_raw_20 rfl (lv_at hl 3 rfl) ?_
  refine iw_pi (va_runS (As := [.int (nI x), .int (nI y)]) (rest := [.ref (ad (o + 20 + 5 * k + 1))]) ⟨hx, hb, hml, hown, hts⟩ (kX6_placeOf l (x) (y)) (va_cwS 2 hts gX6_raw_X6_placeOf rfl rfl rfl (by decide +kernel) ⟨Nat.le_of_ble_eq_true rfl, Nat.le_of_ble_eq_true rfl⟩) ⟨fun a U g mk q => q, fun U hU hW => ⟨rfl, trivial⟩⟩ rfl rfl hl.1 rfl (lv_room (Nat.le_of_ble_eq_true rfl)) dX6_raw_21 ⟨Nat.le_of_ble_eq_true rfl, Nat.le_of_ble_eq_true rfl⟩) hP hS (fun r8 u8 H locs hw8 hP hS => ?_)
  refine lv_asI hw8 ?_
  refine iw_iald (v := nI ((sFr S k).1 (8 * y + x))) hx hb hK hP (by omega) (f2) (vp_in_nI (show 8 * y + x < 64 by omega) (by omega)) (congrArg (fun i => nI ((sFr S k).1 i)) (nI_clamp (by omega))) dX6_raw_24 ?_
  exact W.iret (v := (nI ((sFr S k).1 (8 * y + x)))) hx hb hr (fun t ht hW => ⟨⟨_, _, rfl, ⟨rfl, rfl⟩, iB_of ht hP⟩, hS.F ht⟩) hS.2.2 dX6_raw_25
abbrev rmX6_meter : Room := { frames := 3, cells := 0, slots := 0, locals := 70 }
set_option maxRecDepth 20000 in
theorem iu_X6_meter_6 : ∀ w ∈ u_ws RX6 TX6 9, w ∈ wsX6_meter := by decide +kernel
set_option maxRecDepth 20000 in
theorem il_X6_meter_25 : (Cond.fieldLink RX6 25 "BayerGate" "frameRow" "[LBayerGate$Frame;") ∈ wsX6_meter := by decide +kernel
set_option maxHeartbeats 4000000 in
set_option maxRecDepth 100000 in
theorem kX6_meter (l : Launch) (G : iG) (N : Nat) (ad : Nat → Nat) (C : Nat → va_E) (o : Nat) (S : St) (hcam : Cam G N ad C o S) (k : Nat) (hkn : k < sFn S) (sz : Nat) : Met l yX6_meter wsX6_meter rmX6_meter (iPre G N ad C sz [.ref (ad o), .int (nI k)]) (va_Qd (fun (r : UInt64) (u : Nat → va_E) => r = meF (sFr S k).1 ∧ u = C) (iB G N ad) (iA N ad sz)) 0 0 (iA N ad sz) := by
  refine Met.ofW (cc := cX6_meter) (maxL := 2) (ret := (some .double)) (by decide) rfl ?_
  intro p e s m args below meth c s₁ B hml hv
  obtain ⟨rfl, hsz, hP, hK, hD0⟩ := hv
  have hx := B.exec
  have hb := B.bytes
  have hr := B.returns
  have hts := atoms_spec (ws := wsX6_meter) B.pre
  have hown : s.vm.findClass RX6 = some m.cls := findClass_of_methodNamed B.named
  have hlocks := B.notSynchronized
  subst hsz
  have hD := wl_self hD0 s.heap.size
  have hA : ∀ q : Nat, s.heap.size ≤ q → iA N ad s.heap.size q := fun q h => Or.inr h
  have hS : va_S (iA N ad s.heap.size) s.heap s.heap [] := va_S.rf
  have hP : va_P G.1 vwB (wl N ad C) s.heap := hP
  have hl := lv_entry ([.ref (ad o), .int (nI k)]) (n := 2) (Nat.le_of_ble_eq_true rfl)
  rw [lg_entry_eq]
  generalize (lg_sl ([.ref (ad o), .int (nI k)]) ++ List.replicate (2 - (lg_sl ([.ref (ad o), .int (nI k)])).length) Slot.unset).toArray = ls at hl ⊢
  have hl : lv_has ls 2 [(0, .ref (ad o)), (1, .int (nI k))] := hl
  obtain ⟨hN, ⟨ok1, ok2, ok3, ok4, ok5, ok6, ok7, ok8, ok9⟩, h0, ⟨s1, s2, s3⟩, ⟨e1, e2, e3⟩, ⟨F7, h7, hF7⟩, ⟨F8, h8, hF8⟩, ⟨TF, tr1, tr2, tr3, tr4, tr5⟩, ⟨TD, dv1, dv2, dv3⟩, ⟨TC, cv1, cv2, cv3⟩, hfr, hfi⟩ := id hcam
  have hk : k < 6 := by omega
  obtain ⟨f1, f2, f3, f4, f5⟩ := hfr (k) hk
  obtain ⟨okr, oke, oki⟩ := ok8 (k) hk
  refine lv_aload_n hx hb dX6_meter_0 rfl (lv_at hl 0 rfl) ?_
  refine lv_iload_n hx hb dX6_meter_1 rfl (lv_at hl 1 rfl) ?_
  refine iw_v (va_runV (As := [.int (nI k)]) (rest := []) ⟨hx, hb, hml, hown, hts⟩ (kX6_needFrame l G N ad _ o (fn := sFn S) (by omega) (h0) (k) ok6 hkn _) (cwV 1 hts gX6_meter_X6_needFrame rfl rfl rfl (by decide +kernel) ⟨Nat.le_of_ble_eq_true rfl, Nat.le_of_ble_eq_true rfl⟩) (iPV hK hP hD (by omega) (h0) rfl [.int (nI k)]) rfl rfl hl.1 rfl (lv_room (Nat.le_of_ble_eq_true rfl)) dX6_meter_2 ⟨Nat.le_of_ble_eq_true rfl, Nat.le_of_ble_eq_true rfl⟩) hD hS hA (fun u8 H locs hw8 hP hD hS => ?_)
  rw [hw8] at hP hD
  refine lv_aload_n hx hb dX6_meter_5 rfl (lv_at hl 0 rfl) ?_
  refine iw_get hx hb hts iu_X6_meter_6 hown hK hP (by omega) (h0) rfl 2 (by decide) (hts _ il_X6_meter_25) (fun _ h9 => h9) rfl dX6_meter_6 ?_
  refine lv_iload_n hx hb dX6_meter_9 rfl (lv_at hl 1 rfl) ?_
  refine iw_ralM (v := ad (o + 20 + 5 * k)) hx hb hK hP (by omega) (h7) (vp_in_nI (show k < 6 by omega) (by omega)) ((congrArg F7 (nI_clamp (by omega))).trans (hF7 _ (by omega))) dX6_meter_10 ?_
  refine iw_d (va_runV (As := []) (rest := []) ⟨hx, hb, hml, hown, hts⟩ (kX1_meanOfZones l G N ad _ (by omega) (by omega) (f1) (f2) okr _) (cwV 0 hts gX6_meter_X1_meanOfZones rfl rfl rfl (by decide +kernel) ⟨Nat.le_of_ble_eq_true rfl, Nat.le_of_ble_eq_true rfl⟩) (iPV hK hP hD (by omega) (f1) rfl []) rfl rfl hl.1 rfl (lv_room (Nat.le_of_ble_eq_true rfl)) dX6_meter_11 ⟨Nat.le_of_ble_eq_true rfl, Nat.le_of_ble_eq_true rfl⟩) hD hS hA (fun r8 u8 H locs hw8 hP hD hS => ?_)
  obtain ⟨hr8, hu8⟩ := hw8
  refine lv_asD hr8 ?_
  rw [hu8] at hP hD
  exact W.dret (v := (meF (sFr S k).1)) hx hb hr (fun t ht hW => ⟨⟨_, _, rfl, ⟨rfl, rfl⟩, iB_of ht hP⟩, hS.F ht⟩) hS.2.2 dX6_meter_14
