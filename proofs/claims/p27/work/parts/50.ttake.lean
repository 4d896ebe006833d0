set_option maxRecDepth 20000 in
theorem ggX7_take_X7_draw : GoodIn wsX7_take wsX7_draw := goodIn_r _ [11, 12, 13, 14, 15, 16, 17, 18, 19, 20, 101, 102, 103, 104, 105, 106, 107, 108, 109, 110, 111, 112] (by decide +kernel) (by decide +kernel)
set_option maxRecDepth 20000 in
theorem gX7_take_X7_draw : GoodIn wsX7_take (wsV RX7 68 RX7 yX7_draw wsX7_draw) := goodIn_app (goodIn_of _ (by decide +kernel)) ggX7_take_X7_draw
set_option maxRecDepth 20000 in
theorem ggX7_take_X7_frame : GoodIn wsX7_take wsX7_frame := goodIn_r _ [24, 4, 1, 25, 26, 27, 28, 29, 30, 31, 32, 10, 33, 101, 102, 103, 104, 105, 106, 107, 108, 109, 110, 111, 112] (by decide +kernel) (by decide +kernel)
set_option maxRecDepth 20000 in
theorem gX7_take_X7_frame : GoodIn wsX7_take (wsV RX7 99 RX7 yX7_frame wsX7_frame) := goodIn_app (goodIn_of _ (by decide +kernel)) ggX7_take_X7_frame
set_option maxRecDepth 20000 in
theorem ggX7_take_X7_plus : GoodIn wsX7_take wsX7_plus := goodIn_r _ [36, 37, 38, 39, 40, 41] (by decide +kernel) (by decide +kernel)
set_option maxRecDepth 20000 in
theorem gX7_take_X7_plus : GoodIn wsX7_take (va_wsS RX7 103 yX7_plus wsX7_plus) := goodIn_app (goodIn_of _ (by decide +kernel)) ggX7_take_X7_plus
set_option maxRecDepth 20000 in
theorem ggX7_take_X6_take : GoodIn wsX7_take wsX6_take := goodIn_ca (goodIn_ca (goodIn_r _ [46, 47, 48, 49, 50, 51, 52, 45, 53, 54, 55, 56, 57, 58, 59, 60, 61, 62, 63, 64, 65, 66, 67, 68, 69, 70, 71, 72, 73, 74, 75, 76, 77, 78, 79, 80, 81, 82, 83, 84, 85, 86, 87, 88, 89, 90, 91, 92, 93, 94, 95, 96, 97, 98, 99, 100, 113, 114, 115, 116, 117, 118, 119, 120, 121, 122, 123, 124, 125, 126, 127, 128, 129, 130, 131, 132] (by decide +kernel) (by decide +kernel)) (goodIn_sub (fun _ h => List.mem_cons_of_mem _ (List.mem_append_left _ (List.mem_append_right _ h))) (by decide +kernel))) (goodIn_sub (fun _ h => List.mem_cons_of_mem _ (List.mem_append_right _ h)) (by decide +kernel))
set_option maxRecDepth 20000 in
theorem gX7_take_X6_take : GoodIn wsX7_take (wsV RX7 107 RX6 yX6_take wsX6_take) := goodIn_app (goodIn_of _ (by decide +kernel)) ggX7_take_X6_take
set_option maxRecDepth 20000 in
theorem ggX7_edit_X7_draw : GoodIn wsX7_edit wsX7_draw := goodIn_r _ [7, 8, 9, 10, 11, 12, 13, 14, 15, 16, 66, 67, 68, 69, 70, 71, 72, 73, 74, 75, 76, 77] (by decide +kernel) (by decide +kernel)
set_option maxRecDepth 20000 in
theorem gX7_edit_X7_draw : GoodIn wsX7_edit (wsV RX7 68 RX7 yX7_draw wsX7_draw) := goodIn_app (goodIn_of _ (by decide +kernel)) ggX7_edit_X7_draw
set_option maxRecDepth 20000 in
theorem ggX7_edit_X7_plus_ : GoodIn wsX7_edit wsX7_plus_ := goodIn_r _ [19, 20, 21, 22, 23, 24] (by decide +kernel) (by decide +kernel)
set_option maxRecDepth 20000 in
theorem gX7_edit_X7_plus_ : GoodIn wsX7_edit (va_wsS RX7 113 yX7_plus_ wsX7_plus_) := goodIn_app (goodIn_of _ (by decide +kernel)) ggX7_edit_X7_plus_
set_option maxRecDepth 20000 in
theorem ggX7_edit_X6_edit : GoodIn wsX7_edit wsX6_edit := goodIn_ca (goodIn_ca (goodIn_ca (goodIn_r _ [29, 30, 31, 32, 33, 28, 34, 35, 36, 37, 38, 39, 40, 41, 42, 43, 44, 45, 46, 47, 48, 49, 50, 51, 52, 53, 54, 55, 56, 57, 58, 59, 60, 61, 62, 63, 64, 65, 78, 79, 80, 81, 82, 83, 84, 85, 86, 87, 88, 89, 90, 91, 92, 93, 94] (by decide +kernel) (by decide +kernel)) (goodIn_sub (fun _ h => List.mem_cons_of_mem _ (List.mem_append_left _ (List.mem_append_left _ (List.mem_append_right _ h)))) (by decide +kernel))) (goodIn_sub (fun _ h => List.mem_cons_of_mem _ (List.mem_append_left _ (List.mem_append_right _ h))) (by decide +kernel))) (goodIn_sub (fun _ h => List.mem_cons_of_mem _ (List.mem_append_right _ h)) (by decide +kernel))
set_option maxRecDepth 20000 in
theorem gX7_edit_X6_edit : GoodIn wsX7_edit (wsV RX7 116 RX6 yX6_edit wsX6_edit) := goodIn_app (goodIn_of _ (by decide +kernel)) ggX7_edit_X6_edit
set_option maxRecDepth 20000 in
theorem ggX7_save_X7_plus : GoodIn wsX7_save wsX7_plus := goodIn_r _ [12, 13, 4, 5, 6, 7] (by decide +kernel) (by decide +kernel)
set_option maxRecDepth 20000 in
theorem gX7_save_X7_plus : GoodIn wsX7_save (va_wsS RX7 103 yX7_plus wsX7_plus) := goodIn_app (goodIn_of _ (by decide +kernel)) ggX7_save_X7_plus
set_option maxRecDepth 20000 in
theorem ggX7_save_X6_save : GoodIn wsX7_save wsX6_save := goodIn_ca (goodIn_ca (goodIn_r _ [18, 19, 20, 21, 22, 23, 24, 17, 25, 26, 27, 28, 29, 30, 31, 32, 33, 34, 35, 36, 37, 38, 39, 40, 41, 42, 43, 44, 45, 46, 47, 48, 49, 50, 51, 52, 53, 66, 67, 68, 69, 70, 71, 72, 73, 74, 75, 76, 77, 78, 79, 80, 81, 82, 83, 84, 85] (by decide +kernel) (by decide +kernel)) (goodIn_sub (fun _ h => List.mem_cons_of_mem _ (List.mem_append_left _ (List.mem_append_right _ h))) (by decide +kernel))) (goodIn_sub (fun _ h => List.mem_cons_of_mem _ (List.mem_append_right _ h)) (by decide +kernel))
set_option maxRecDepth 20000 in
theorem gX7_save_X6_save : GoodIn wsX7_save (wsV RX7 122 RX6 yX6_save wsX6_save) := goodIn_app (goodIn_of _ (by decide +kernel)) ggX7_save_X6_save
abbrev rmX7_take : Room := { frames := 4, cells := 6, slots := 71, locals := 97 }
set_option maxRecDepth 20000 in
theorem il_X7_take_91 : (Cond.fieldLink RX7 91 "BayerGateLaw$Told" "draw" "I") ∈ wsX7_take := by decide +kernel
set_option maxRecDepth 20000 in
theorem iu_X7_take_7 : ∀ w ∈ u_ws RX7 TX7 12, w ∈ wsX7_take := by decide +kernel
set_option maxRecDepth 20000 in
theorem il_X7_take_33 : (Cond.fieldLink RX7 33 "BayerGateLaw$Told" "raws" "[[I") ∈ wsX7_take := by decide +kernel
set_option maxRecDepth 20000 in
theorem il_X7_take_36 : (Cond.fieldLink RX7 36 "BayerGateLaw$Told" "frames" "[[I") ∈ wsX7_take := by decide +kernel
set_option maxRecDepth 20000 in
theorem il_X7_take_arrint : (Cond.arrayClass .int) ∈ wsX7_take := by decide +kernel
set_option maxRecDepth 20000 in
theorem il_X7_take_39 : (Cond.fieldLink RX7 39 "BayerGateLaw$Told" "edits" "[[I") ∈ wsX7_take := by decide +kernel
set_option maxRecDepth 20000 in
theorem il_X7_take_10 : (Cond.fieldLink RX7 10 "BayerGateLaw$Told" "m" "LBayerGate;") ∈ wsX7_take := by decide +kernel
set_option maxHeartbeats 4000000 in
set_option maxRecDepth 100000 in
theorem kX7_take (l : Launch) (G : iG) (N : Nat) (ad : Nat → Nat) (C : Nat → va_E) (b L : Nat) (xs : Nat → Int32) (h151 : 151 ≤ N) (S : St) (hcam : Cam G N ad C 1 S) (sn : Nat → Nat) (hts0 : isTs G ad C 151 sn) (d : Nat) (hd : d < 800) (h0 : C 0 = ob 7 [.ref (ad 1), .ref b, .int (nI d), .ref (ad 75), .ref (ad 140), .ref (ad 141), .ref (ad 142), .int (nI 0), .ref (ad 143), .ref (ad 144), .ref (ad 145), .ref (ad 146)]) {fl : Nat → Int32} {lp : Nat → Nat} (hfl0 : C 140 = ia G 3 fl) (hfl : ∀ i, i < 3 → fl i = nI (lp i)) (hlp : ∀ i, i < 3 → 0 < lp i ∧ lp i < 17) (hho : C 141 = ia G 64 (fun _ => nI 0)) {F143 F144 F145 : Nat → Option Nat} (g143 : C 143 = ra G 5 0 F143) (g144 : C 144 = ra G 5 0 F144) (g145 : C 145 = ra G 5 0 F145) (hfn0 : sFn S = 0) (sz : Nat) : Met l yX7_take wsX7_take rmX7_take (iPreX G (N) ad C b L xs sz [.ref (ad 0)]) (va_Qi (fun (r : Int32) (u : iU) => (r = nI 1) ∧ (∀ j, j < N → u.1 j = ad j) ∧ (∀ j, j < N → 75 < j → u.2 j = C j) ∧ ∃ t1 g1 : Nat, (0 < t1 ∧ t1 < 65) ∧ (0 < g1 ∧ g1 < 9) ∧ Cam G (N + 6) u.1 u.2 1 (mkS (sSh S) (sFac S) (sGq S) (sHw S) (sMp S) (drN (sDr S) 64) (sFn S + 1) (sFl S) (va_up (sFr S) (sFn S) ((exN (sHw S) (sSh S) (sFac S) (sDr S) (t1) (g1)), (sFr S (sFn S)).2.1, nI (t1), nI (g1), (sFr S (sFn S)).2.2.2.2)) (sFi S)) ∧ isTs G u.1 u.2 151 sn ∧ (∃ dw : Int32, u.2 0 = ob 7 [.ref (u.1 1), .ref b, .int (nI (d + 4)), .ref (u.1 75), .ref (u.1 140), .ref (u.1 141), .ref (u.1 142), .int dw, .ref (u.1 (N + 1)), .ref (u.1 (N + 3)), .ref (u.1 (N + 5)), .ref (u.1 146)]) ∧ ∃ (F : Nat → Option Nat) (f : Nat → Int32), u.2 (N + 5) = ra G 5 1 F ∧ (∀ i, i < 1 → F i = some (u.1 (N + 4))) ∧ u.2 (N + 4) = ia G 0 f) (iB2 G (N + 6) (iA (N) ad sz)) (iA (N) ad sz)) 6 71 (iA (N) ad sz) := by
  refine Met.ofW (cc := cX7_take) (maxL := 4) (ret := (some .boolean)) (by decide) rfl ?_
  intro p e s m args below meth c s₁ B hml hv
  obtain ⟨rfl, ⟨hsz, hP, hK, hD0⟩, hV, hX⟩ := hv
  have hx := B.exec
  have hb := B.bytes
  have hr := B.returns
  have hts := atoms_spec (ws := wsX7_take) B.pre
  have hown : s.vm.findClass RX7 = some m.cls := findClass_of_methodNamed B.named
  have hlocks := B.notSynchronized
  subst hsz
  have hD := wl_self hD0 s.heap.size
  have hA : ∀ q : Nat, s.heap.size ≤ q → iA (N) ad s.heap.size q := fun q h => Or.inr h
  have hS : va_S (iA (N) ad s.heap.size) s.heap s.heap [] := va_S.rf
  have hP : va_P G.1 vwB (wl (N) ad C) s.heap := hP
  have hl := lv_entry ([.ref (ad 0)]) (n := 4) (Nat.le_of_ble_eq_true rfl)
  rw [lg_entry_eq]
  generalize (lg_sl ([.ref (ad 0)]) ++ List.replicate (4 - (lg_sl ([.ref (ad 0)])).length) Slot.unset).toArray = ls at hl ⊢
  have hl : lv_has ls 4 [(0, .ref (ad 0))] := hl
  have hbA := XS_out hX
  refine lv_iconst (v := nI 1) hx hb dX7_take_0 (by decide) ?_
  refine lv_aload_n hx hb dX7_take_1 rfl (lv_at hl 0 rfl) ?_
  refine lv_aload_n hx hb dX7_take_2 rfl (lv_at hl 0 rfl) ?_
  refine lv_iconst (v := nI 2) hx hb dX7_take_3 (by decide) ?_
  refine iw_i (va_runV (As := [.int (nI 2)]) (rest := [.ref (ad 0), .int (nI 1)]) ⟨hx, hb, hml, hown, hts⟩ (kX7_draw l G (N) ad _ b L xs (t := 0) (by omega) (2) (by omega) (d) (by omega) (h0) _) (cwV 1 hts gX7_take_X7_draw rfl rfl rfl (by decide +kernel) ⟨Nat.le_of_ble_eq_true rfl, Nat.le_of_ble_eq_true rfl⟩) (iPVX hK hV hX hbA hS hP hD (by omega) (h0) rfl [.int (nI 2)]) rfl rfl hl.1 rfl (lv_room (Nat.le_of_ble_eq_true rfl)) dX7_take_4 ⟨Nat.le_of_ble_eq_true rfl, Nat.le_of_ble_eq_true rfl⟩) hD hS hA (fun r8 u8 H locs hw8 hP hD hS => ?_)
  obtain ⟨⟨q1, hq1, hr8⟩, hu8⟩ := hw8
  refine lv_asI hr8 ?_
  rw [hu8] at hP hD
  refine lv_if_ne (tgt := 15) hx hb dX7_take_7 (by decide) (fun c7 => ?_) (fun c7 => ?_)
  · refine lv_bipush (v := nI 20) hx hb dX7_take_15 (by decide) ?_
    refine iw_i (va_runV (As := [.int (nI 20)]) (rest := [.int (nI 1)]) ⟨hx, hb, hml, hown, hts⟩ (kX7_draw l G (N) ad _ b L xs (t := 0) (by omega) (20) (by omega) (d + 1) (by omega) (va_us _ _ _) _) (cwV 1 hts gX7_take_X7_draw rfl rfl rfl (by decide +kernel) ⟨Nat.le_of_ble_eq_true rfl, Nat.le_of_ble_eq_true rfl⟩) (iPVX hK hV hX hbA hS hP hD (by omega) (va_us _ _ _) rfl [.int (nI 20)]) rfl rfl hl.1 rfl (lv_room (Nat.le_of_ble_eq_true rfl)) dX7_take_17 ⟨Nat.le_of_ble_eq_true rfl, Nat.le_of_ble_eq_true rfl⟩) hD hS hA (fun r8 u8 H locs hw8 hP hD hS => ?_)
    obtain ⟨⟨q2, hq2, hr8⟩, hu8⟩ := hw8
    refine lv_asI hr8 ?_
    rw [hu8] at hP hD
    rw [va_uu _ _ _ _] at hP hD
    refine lv_iadd hx hb dX7_take_20 ?_
    refine lv_asI (y := nI (1 + q2)) (nI_add _ _) ?_
    refine lv_istore_n (lv' := [(1, .int (nI (1 + q2))), (0, .ref (ad 0))]) hx hb dX7_take_21 rfl hl (by decide) rfl (fun ls hl => ?_)
    refine lv_iconst (v := nI 1) hx hb dX7_take_22 (by decide) ?_
    refine lv_aload_n hx hb dX7_take_23 rfl (lv_at hl 1 rfl) ?_
    refine lv_aload_n hx hb dX7_take_24 rfl (lv_at hl 1 rfl) ?_
    refine lv_iconst (v := nI 2) hx hb dX7_take_25 (by decide) ?_
    refine iw_i (va_runV (As := [.int (nI 2)]) (rest := [.ref (ad 0), .int (nI 1)]) ⟨hx, hb, hml, hown, hts⟩ (kX7_draw l G (N) ad _ b L xs (t := 0) (by omega) (2) (by omega) (d + 2) (by omega) (va_us _ _ _) _) (cwV 1 hts gX7_take_X7_draw rfl rfl rfl (by decide +kernel) ⟨Nat.le_of_ble_eq_true rfl, Nat.le_of_ble_eq_true rfl⟩) (iPVX hK hV hX hbA hS hP hD (by omega) (va_us _ _ _) rfl [.int (nI 2)]) rfl rfl hl.1 rfl (lv_room (Nat.le_of_ble_eq_true rfl)) dX7_take_26 ⟨Nat.le_of_ble_eq_true rfl, Nat.le_of_ble_eq_true rfl⟩) hD hS hA (fun r8 u8 H locs hw8 hP hD hS => ?_)
    obtain ⟨⟨q3, hq3, hr8⟩, hu8⟩ := hw8
    refine lv_asI hr8 ?_
    rw [hu8] at hP hD
    rw [va_uu _ _ _ _] at hP hD
    refine lv_if_ne (tgt := 37) hx hb dX7_take_29 (by decide) (fun c29 => ?_) (fun c29 => ?_)
    · refine lv_iconst (v := nI 2) hx hb dX7_take_37 (by decide) ?_
      refine iw_i (va_runV (As := [.int (nI 2)]) (rest := [.int (nI 1)]) ⟨hx, hb, hml, hown, hts⟩ (kX7_draw l G (N) ad _ b L xs (t := 0) (by omega) (2) (by omega) (d + 3) (by omega) (va_us _ _ _) _) (cwV 1 hts gX7_take_X7_draw rfl rfl rfl (by decide +kernel) ⟨Nat.le_of_ble_eq_true rfl, Nat.le_of_ble_eq_true rfl⟩) (iPVX hK hV hX hbA hS hP hD (by omega) (va_us _ _ _) rfl [.int (nI 2)]) rfl rfl hl.1 rfl (lv_room (Nat.le_of_ble_eq_true rfl)) dX7_take_38 ⟨Nat.le_of_ble_eq_true rfl, Nat.le_of_ble_eq_true rfl⟩) hD hS hA (fun r8 u8 H locs hw8 hP hD hS => ?_)
      obtain ⟨⟨q4, hq4, hr8⟩, hu8⟩ := hw8
      refine lv_asI hr8 ?_
      rw [hu8] at hP hD
      rw [va_uu _ _ _ _] at hP hD
      refine lv_iadd hx hb dX7_take_41 ?_
      refine lv_asI (y := nI (1 + q4)) (nI_add _ _) ?_
      refine lv_istore_n (lv' := [(2, .int (nI (1 + q4))), (1, .int (nI (1 + q2))), (0, .ref (ad 0))]) hx hb dX7_take_42 rfl hl (by decide) rfl (fun ls hl => ?_)
      refine lv_aload_n hx hb dX7_take_43 rfl (lv_at hl 2 rfl) ?_
      refine lv_iload_n hx hb dX7_take_44 rfl (lv_at hl 1 rfl) ?_
      refine lv_iload_n hx hb dX7_take_45 rfl (lv_at hl 0 rfl) ?_
      refine iwg_r (k := N) (va_runV (As := [.int (nI (1 + q2)), .int (nI (1 + q4))]) (rest := []) ⟨hx, hb, hml, hown, hts⟩ (kX7_frame l G (N) ad _ (by omega) sn (isTs_B (isTs_up hts0 (by omega)) (by omega)) (va_us _ _ _) ((va_un _ _ (by omega)).trans (hfl0)) hfl hlp ((va_un _ _ (by omega)).trans (hho)) (1 + q2) (1 + q4) (by omega) _) (cwV 2 hts gX7_take_X7_frame rfl rfl rfl (by decide +kernel) ⟨Nat.le_of_ble_eq_true rfl, Nat.le_of_ble_eq_true rfl⟩) (iPV hK hP hD (by omega) (va_us _ _ _) rfl [.int (nI (1 + q2)), .int (nI (1 + q4))]) rfl rfl hl.1 rfl (lv_room (Nat.le_of_ble_eq_true rfl)) dX7_take_46 ⟨Nat.le_of_ble_eq_true rfl, Nat.le_of_ble_eq_true rfl⟩) hD hS hA (fun ad1 C1 H locs hw8 hP hD hS => ?_)
      dsimp only at hw8
      obtain ⟨e1, c1, f9, hf1⟩ := hw8
      have k1_0 : C1 0 = ob 7 [.ref (ad1 1), .ref b, .int (nI (d + 4)), .ref (ad1 75), .ref (ad1 140), .ref (ad1 141), .ref (ad1 142), .int (nI 0), .ref (ad1 143), .ref (ad1 144), .ref (ad1 145), .ref (ad1 146)] := (c1 _ (by omega)).trans ((va_us _ _ _).trans (by first | (rw [e1 1 (by omega), e1 75 (by omega), e1 140 (by omega), e1 141 (by omega), e1 142 (by omega), e1 143 (by omega), e1 144 (by omega), e1 145 (by omega), e1 146 (by omega)]; done) | (rw [e1 1 (by omega), e1 75 (by omega), e1 140 (by omega), e1 141 (by omega), e1 142 (by omega), e1 143 (by omega), e1 144 (by omega), e1 145 (by omega), e1 146 (by omega)]; rfl)))
      have k1_140 : C1 140 = ia G 3 fl := (c1 _ (by omega)).trans ((va_un _ _ (by omega)).trans (hfl0))
      have k1_141 : C1 141 = ia G 64 (fun _ => nI 0) := (c1 _ (by omega)).trans ((va_un _ _ (by omega)).trans (hho))
      have k1_143 : C1 143 = ra G 5 0 F143 := (c1 _ (by omega)).trans ((va_un _ _ (by omega)).trans (g143))
      have k1_144 : C1 144 = ra G 5 0 F144 := (c1 _ (by omega)).trans ((va_un _ _ (by omega)).trans (g144))
      have k1_145 : C1 145 = ra G 5 0 F145 := (c1 _ (by omega)).trans ((va_un _ _ (by omega)).trans (g145))
      have q1_cam := Cam_gr e1 c1 (by omega) (by omega) (Cam_up hcam (by omega))
      have q1_ts := isTs_gr e1 c1 (by omega) (by omega) (isTs_up hts0 (by omega))
      have ea1 : ∀ j, j < N → ad1 j = ad j := fun j h => e1 j (by omega)
      have ca1 : ∀ j, j < N → 75 < j → C1 j = C j := fun j h hx9 => (c1 j (by omega)).trans ((va_un _ _ (by omega)).trans (rfl))
      have hl : lv_has ls 4 [(2, .int (nI (1 + q4))), (1, .int (nI (1 + q2))), (0, .ref (ad1 0))] := by rw [e1 0 (by omega)]; exact hl
      refine lv_astore_n (lv' := [(3, .ref (ad1 N)), (2, .int (nI (1 + q4))), (1, .int (nI (1 + q2))), (0, .ref (ad1 0))]) hx hb dX7_take_49 rfl hl (by decide) rfl (fun ls hl => ?_)
      refine lv_aload_n hx hb dX7_take_50 rfl (lv_at hl 3 rfl) ?_
      refine lv_aload_n hx hb dX7_take_51 rfl (lv_at hl 0 rfl) ?_
      refine lv_bipush (v := nI 64) hx hb dX7_take_52 (by decide) ?_
      refine iw_iald (v := f9 64) hx hb hK hP (by omega) (hf1) (vp_in_nI (show 64 < 65 by omega) (by omega)) (congrArg f9 (nI_clamp (by omega))) dX7_take_54 ?_
      refine iw_put (ty := .int) hx hb hts iu_X7_take_7 tyX7 tyX7_ok nmX7 hown hK hP hD hS (by omega) (k1_0) rfl 7 (by decide) (hts _ il_X7_take_91) (fun _ h9 => h9) rfl (by decide +kernel) rfl rfl (Nat.le_of_ble_eq_true rfl) rfl dX7_take_55 (fun H locs hP hD hS => ?_)
      refine lv_aload_n hx hb dX7_take_58 rfl (lv_at hl 3 rfl) ?_
      refine lv_aload_n hx hb dX7_take_59 rfl (lv_at hl 3 rfl) ?_
      refine iw_get hx hb hts iu_X7_take_7 hown hK hP (by omega) (va_us _ _ _) rfl 8 (by decide) (hts _ il_X7_take_33) (fun _ h9 => h9) rfl dX7_take_60 ?_
      refine lv_aload_n hx hb dX7_take_63 rfl (lv_at hl 0 rfl) ?_
      refine iwg_r (k := N + 1) (va_runS (As := [.ref (ad1 143), .ref (ad1 N)]) (rest := [.ref (ad1 0)]) ⟨hx, hb, hml, hown, hts⟩ (kX7_plus l G (N + 1) ad1 _ (by omega) (by omega) ((va_un _ _ (by omega)).trans (k1_143)) ((va_un _ _ (by omega)).trans (hf1)) _) (va_cwS 2 hts gX7_take_X7_plus rfl rfl rfl (by decide +kernel) ⟨Nat.le_of_ble_eq_true rfl, Nat.le_of_ble_eq_true rfl⟩) (iPSV hK hV hP hD [.ref (ad1 143), .ref (ad1 N)]) rfl rfl hl.1 rfl (lv_room (Nat.le_of_ble_eq_true rfl)) dX7_take_64 ⟨Nat.le_of_ble_eq_true rfl, Nat.le_of_ble_eq_true rfl⟩) hD hS hA (fun ad2 C2 H locs hw8 hP hD hS => ?_)
      dsimp only at hw8
      obtain ⟨e2, c2, F3, hF32, zF32⟩ := hw8
      have k2_0 : C2 0 = ob 7 [.ref (ad2 1), .ref b, .int (nI (d + 4)), .ref (ad2 75), .ref (ad2 140), .ref (ad2 141), .ref (ad2 142), .int (f9 64), .ref (ad2 143), .ref (ad2 144), .ref (ad2 145), .ref (ad2 146)] := (c2 _ (by omega)).trans ((va_us _ _ _).trans (by first | (rw [e2 1 (by omega), e2 75 (by omega), e2 140 (by omega), e2 141 (by omega), e2 142 (by omega), e2 143 (by omega), e2 144 (by omega), e2 145 (by omega), e2 146 (by omega)]; done) | (rw [e2 1 (by omega), e2 75 (by omega), e2 140 (by omega), e2 141 (by omega), e2 142 (by omega), e2 143 (by omega), e2 144 (by omega), e2 145 (by omega), e2 146 (by omega)]; rfl)))
      have k2_140 : C2 140 = ia G 3 fl := (c2 _ (by omega)).trans ((va_un _ _ (by omega)).trans (k1_140))
      have k2_141 : C2 141 = ia G 64 (fun _ => nI 0) := (c2 _ (by omega)).trans ((va_un _ _ (by omega)).trans (k1_141))
      have k2_143 : C2 143 = ra G 5 0 F143 := (c2 _ (by omega)).trans ((va_un _ _ (by omega)).trans (k1_143))
      have k2_144 : C2 144 = ra G 5 0 F144 := (c2 _ (by omega)).trans ((va_un _ _ (by omega)).trans (k1_144))
      have k2_145 : C2 145 = ra G 5 0 F145 := (c2 _ (by omega)).trans ((va_un _ _ (by omega)).trans (k1_145))
      have k2_N : C2 N = ia G 65 f9 := (c2 _ (by omega)).trans ((va_un _ _ (by omega)).trans (hf1))
      have q2_cam := Cam_gr e2 c2 (by omega) (by omega) (Cam_up q1_cam (by omega))
      have q2_ts := isTs_gr e2 c2 (by omega) (by omega) (isTs_up q1_ts (by omega))
      have ea2 : ∀ j, j < N → ad2 j = ad j := fun j h => (e2 j (by omega)).trans (ea1 j h)
      have ca2 : ∀ j, j < N → 75 < j → C2 j = C j := fun j h hx9 => (c2 j (by omega)).trans ((va_un _ _ (by omega)).trans (ca1 j h hx9))
      have hl : lv_has ls 4 [(3, .ref (ad2 N)), (2, .int (nI (1 + q4))), (1, .int (nI (1 + q2))), (0, .ref (ad2 0))] := by rw [e2 N (by omega), e2 0 (by omega)]; exact hl
      refine W.eq (g2 := F0 m 67 ls [.ref (ad2 (N + 1)), .ref (ad2 0)]) (by first | (rw [e2 0 (by omega)]; done) | (rw [e2 0 (by omega)]; rfl)) ?_
      refine iw_put (ty := .array (.array (.int))) hx hb hts iu_X7_take_7 tyX7 tyX7_ok nmX7 hown hK hP hD hS (by omega) (k2_0) rfl 8 (by decide) (hts _ il_X7_take_33) (fun _ h9 => h9) rfl (by decide +kernel) rfl rfl (Nat.le_of_ble_eq_true rfl) rfl dX7_take_67 (fun H locs hP hD hS => ?_)
      refine lv_aload_n hx hb dX7_take_70 rfl (lv_at hl 3 rfl) ?_
      refine lv_aload_n hx hb dX7_take_71 rfl (lv_at hl 3 rfl) ?_
      refine iw_get hx hb hts iu_X7_take_7 hown hK hP (by omega) (va_us _ _ _) rfl 9 (by decide) (hts _ il_X7_take_36) (fun _ h9 => h9) rfl dX7_take_72 ?_
      refine lv_iconst (v := nI 3) hx hb dX7_take_75 (by decide) ?_
      refine iw_newI (N' := 3) hx hb (hts _ il_X7_take_arrint) hK hP hD hS hA (by decide) (by decide) (Nat.le_of_ble_eq_true rfl) (Nat.le_of_ble_eq_true rfl) (Nat.le_of_ble_eq_true rfl) dX7_take_76 (fun ad3 C3 H e3 c3 n3 hP hD hS => ?_)
      have k3_0 : C3 0 = ob 7 [.ref (ad3 1), .ref b, .int (nI (d + 4)), .ref (ad3 75), .ref (ad3 140), .ref (ad3 141), .ref (ad3 142), .int (f9 64), .ref (ad3 (N + 1)), .ref (ad3 144), .ref (ad3 145), .ref (ad3 146)] := (c3 _ (by omega)).trans ((va_us _ _ _).trans (by first | (rw [e3 1 (by omega), e3 75 (by omega), e3 140 (by omega), e3 141 (by omega), e3 142 (by omega), e3 (N + 1) (by omega), e3 144 (by omega), e3 145 (by omega), e3 146 (by omega)]; done) | (rw [e3 1 (by omega), e3 75 (by omega), e3 140 (by omega), e3 141 (by omega), e3 142 (by omega), e3 (N + 1) (by omega), e3 144 (by omega), e3 145 (by omega), e3 146 (by omega)]; rfl)))
      have k3_140 : C3 140 = ia G 3 fl := (c3 _ (by omega)).trans ((va_un _ _ (by omega)).trans (k2_140))
      have k3_141 : C3 141 = ia G 64 (fun _ => nI 0) := (c3 _ (by omega)).trans ((va_un _ _ (by omega)).trans (k2_141))
      have k3_143 : C3 143 = ra G 5 0 F143 := (c3 _ (by omega)).trans ((va_un _ _ (by omega)).trans (k2_143))
      have k3_144 : C3 144 = ra G 5 0 F144 := (c3 _ (by omega)).trans ((va_un _ _ (by omega)).trans (k2_144))
      have k3_145 : C3 145 = ra G 5 0 F145 := (c3 _ (by omega)).trans ((va_un _ _ (by omega)).trans (k2_145))
      have k3_N : C3 N = ia G 65 f9 := (c3 _ (by omega)).trans ((va_un _ _ (by omega)).trans (k2_N))
      have k3_N_1 : C3 (N + 1) = ra G 5 1 F3 := (c3 _ (by omega)).trans ((va_un _ _ (by omega)).trans (hF32))
      have q3_cam := Cam_gr e3 c3 (by omega) (by omega) (Cam_up q2_cam (by omega))
      have q3_ts := isTs_gr e3 c3 (by omega) (by omega) (isTs_up q2_ts (by omega))
      have ea3 : ∀ j, j < N → ad3 j = ad j := fun j h => (e3 j (by omega)).trans (ea2 j h)
      have ca3 : ∀ j, j < N → 75 < j → C3 j = C j := fun j h hx9 => (c3 j (by omega)).trans ((va_un _ _ (by omega)).trans (ca2 j h hx9))
      have hl : lv_has ls 4 [(3, .ref (ad3 N)), (2, .int (nI (1 + q4))), (1, .int (nI (1 + q2))), (0, .ref (ad3 0))] := by rw [e3 N (by omega), e3 0 (by omega)]; exact hl
      refine W.eq (g2 := F0 m 78 ls [.ref (ad3 (N + 2)), .ref (ad3 144), .ref (ad3 0)]) (by first | (rw [e3 0 (by omega), e3 144 (by omega)]; done) | (rw [e3 0 (by omega), e3 144 (by omega)]; rfl)) ?_
      refine lv_dup hx hb dX7_take_78 rfl ?_
      refine lv_iconst (v := nI 0) hx hb dX7_take_79 (by decide) ?_
      refine lv_iload_n hx hb dX7_take_80 rfl (lv_at hl 2 rfl) ?_
      refine iw_iast hx hb hK hP hD hS (by omega) (n3) (vp_in_nI (show 0 < 3 by omega) (by omega)) (nI_clamp (by omega)) dX7_take_81 (fun H locs hP hD hS => ?_)
      refine lv_dup hx hb dX7_take_82 rfl ?_
      refine lv_iconst (v := nI 1) hx hb dX7_take_83 (by decide) ?_
      refine lv_iload_n hx hb dX7_take_84 rfl (lv_at hl 1 rfl) ?_
      refine iw_iast hx hb hK hP hD hS (by omega) (va_us _ _ _) (vp_in_nI (show 1 < 3 by omega) (by omega)) (nI_clamp (by omega)) dX7_take_85 (fun H locs hP hD hS => ?_)
      rw [va_uu _ _ _ _] at hP hD
      refine lv_dup hx hb dX7_take_86 rfl ?_
      refine lv_iconst (v := nI 2) hx hb dX7_take_87 (by decide) ?_
      refine lv_iconst (v := nI 0) hx hb dX7_take_88 (by decide) ?_
      refine iw_iast hx hb hK hP hD hS (by omega) (va_us _ _ _) (vp_in_nI (show 2 < 3 by omega) (by omega)) (nI_clamp (by omega)) dX7_take_89 (fun H locs hP hD hS => ?_)
      rw [va_uu _ _ _ _] at hP hD
      refine iwg_r (k := N + 3) (va_runS (As := [.ref (ad3 144), .ref (ad3 (N + 2))]) (rest := [.ref (ad3 0)]) ⟨hx, hb, hml, hown, hts⟩ (kX7_plus l G (N + 3) ad3 _ (by omega) (by omega) ((va_un _ _ (by omega)).trans (k3_144)) (va_us _ _ _) _) (va_cwS 2 hts gX7_take_X7_plus rfl rfl rfl (by decide +kernel) ⟨Nat.le_of_ble_eq_true rfl, Nat.le_of_ble_eq_true rfl⟩) (iPSV hK hV hP hD [.ref (ad3 144), .ref (ad3 (N + 2))]) rfl rfl hl.1 rfl (lv_room (Nat.le_of_ble_eq_true rfl)) dX7_take_90 ⟨Nat.le_of_ble_eq_true rfl, Nat.le_of_ble_eq_true rfl⟩) hD hS hA (fun ad4 C4 H locs hw8 hP hD hS => ?_)
      dsimp only at hw8
      obtain ⟨e4, c4, F4, hF44, zF44⟩ := hw8
      have k4_0 : C4 0 = ob 7 [.ref (ad4 1), .ref b, .int (nI (d + 4)), .ref (ad4 75), .ref (ad4 140), .ref (ad4 141), .ref (ad4 142), .int (f9 64), .ref (ad4 (N + 1)), .ref (ad4 144), .ref (ad4 145), .ref (ad4 146)] := (c4 _ (by omega)).trans (((va_un _ _ (by omega)).trans (k3_0)).trans (by first | (rw [e4 1 (by omega), e4 75 (by omega), e4 140 (by omega), e4 141 (by omega), e4 142 (by omega), e4 (N + 1) (by omega), e4 144 (by omega), e4 145 (by omega), e4 146 (by omega)]; done) | (rw [e4 1 (by omega), e4 75 (by omega), e4 140 (by omega), e4 141 (by omega), e4 142 (by omega), e4 (N + 1) (by omega), e4 144 (by omega), e4 145 (by omega), e4 146 (by omega)]; rfl)))
      have k4_140 : C4 140 = ia G 3 fl := (c4 _ (by omega)).trans ((va_un _ _ (by omega)).trans (k3_140))
      have k4_141 : C4 141 = ia G 64 (fun _ => nI 0) := (c4 _ (by omega)).trans ((va_un _ _ (by omega)).trans (k3_141))
      have k4_143 : C4 143 = ra G 5 0 F143 := (c4 _ (by omega)).trans ((va_un _ _ (by omega)).trans (k3_143))
      have k4_144 : C4 144 = ra G 5 0 F144 := (c4 _ (by omega)).trans ((va_un _ _ (by omega)).trans (k3_144))
      have k4_145 : C4 145 = ra G 5 0 F145 := (c4 _ (by omega)).trans ((va_un _ _ (by omega)).trans (k3_145))
      have k4_N : C4 N = ia G 65 f9 := (c4 _ (by omega)).trans ((va_un _ _ (by omega)).trans (k3_N))
      have k4_N_1 : C4 (N + 1) = ra G 5 1 F3 := (c4 _ (by omega)).trans ((va_un _ _ (by omega)).trans (k3_N_1))
      have k4_N_2 : C4 (N + 2) = ia G 3 (upd (upd (upd (fun _ => nI 0) 0 (nI (1 + q2))) 1 (nI (1 + q4))) 2 (nI 0)) := (c4 _ (by omega)).trans (va_us _ _ _)
      have q4_cam := Cam_gr e4 c4 (by omega) (by omega) (Cam_up q3_cam (by omega))
      have q4_ts := isTs_gr e4 c4 (by omega) (by omega) (isTs_up q3_ts (by omega))
      have ea4 : ∀ j, j < N → ad4 j = ad j := fun j h => (e4 j (by omega)).trans (ea3 j h)
      have ca4 : ∀ j, j < N → 75 < j → C4 j = C j := fun j h hx9 => (c4 j (by omega)).trans ((va_un _ _ (by omega)).trans (ca3 j h hx9))
      have hl : lv_has ls 4 [(3, .ref (ad4 N)), (2, .int (nI (1 + q4))), (1, .int (nI (1 + q2))), (0, .ref (ad4 0))] := by rw [e4 N (by omega), e4 0 (by omega)]; exact hl
      refine W.eq (g2 := F0 m 93 ls [.ref (ad4 (N + 3)), .ref (ad4 0)]) (by first | (rw [e4 0 (by omega)]; done) | (rw [e4 0 (by omega)]; rfl)) ?_
      refine iw_put (ty := .array (.array (.int))) hx hb hts iu_X7_take_7 tyX7 tyX7_ok nmX7 hown hK hP hD hS (by omega) (k4_0) rfl 9 (by decide) (hts _ il_X7_take_36) (fun _ h9 => h9) rfl (by decide +kernel) rfl rfl (Nat.le_of_ble_eq_true rfl) rfl dX7_take_93 (fun H locs hP hD hS => ?_)
      refine lv_aload_n hx hb dX7_take_96 rfl (lv_at hl 3 rfl) ?_
      refine lv_aload_n hx hb dX7_take_97 rfl (lv_at hl 3 rfl) ?_
      refine iw_get hx hb hts iu_X7_take_7 hown hK hP (by omega) (va_us _ _ _) rfl 10 (by decide) (hts _ il_X7_take_39) (fun _ h9 => h9) rfl dX7_take_98 ?_
      refine lv_iconst (v := nI 0) hx hb dX7_take_101 (by decide) ?_
      refine iw_newI (N' := 0) hx hb (hts _ il_X7_take_arrint) hK hP hD hS hA (by decide) (by decide) (Nat.le_of_ble_eq_true rfl) (Nat.le_of_ble_eq_true rfl) (Nat.le_of_ble_eq_true rfl) dX7_take_102 (fun ad5 C5 H e5 c5 n5 hP hD hS => ?_)
      have k5_0 : C5 0 = ob 7 [.ref (ad5 1), .ref b, .int (nI (d + 4)), .ref (ad5 75), .ref (ad5 140), .ref (ad5 141), .ref (ad5 142), .int (f9 64), .ref (ad5 (N + 1)), .ref (ad5 (N + 3)), .ref (ad5 145), .ref (ad5 146)] := (c5 _ (by omega)).trans ((va_us _ _ _).trans (by first | (rw [e5 1 (by omega), e5 75 (by omega), e5 140 (by omega), e5 141 (by omega), e5 142 (by omega), e5 (N + 1) (by omega), e5 (N + 3) (by omega), e5 145 (by omega), e5 146 (by omega)]; done) | (rw [e5 1 (by omega), e5 75 (by omega), e5 140 (by omega), e5 141 (by omega), e5 142 (by omega), e5 (N + 1) (by omega), e5 (N + 3) (by omega), e5 145 (by omega), e5 146 (by omega)]; rfl)))
      have k5_140 : C5 140 = ia G 3 fl := (c5 _ (by omega)).trans ((va_un _ _ (by omega)).trans (k4_140))
      have k5_141 : C5 141 = ia G 64 (fun _ => nI 0) := (c5 _ (by omega)).trans ((va_un _ _ (by omega)).trans (k4_141))
      have k5_143 : C5 143 = ra G 5 0 F143 := (c5 _ (by omega)).trans ((va_un _ _ (by omega)).trans (k4_143))
      have k5_144 : C5 144 = ra G 5 0 F144 := (c5 _ (by omega)).trans ((va_un _ _ (by omega)).trans (k4_144))
      have k5_145 : C5 145 = ra G 5 0 F145 := (c5 _ (by omega)).trans ((va_un _ _ (by omega)).trans (k4_145))
      have k5_N : C5 N = ia G 65 f9 := (c5 _ (by omega)).trans ((va_un _ _ (by omega)).trans (k4_N))
      have k5_N_1 : C5 (N + 1) = ra G 5 1 F3 := (c5 _ (by omega)).trans ((va_un _ _ (by omega)).trans (k4_N_1))
      have k5_N_2 : C5 (N + 2) = ia G 3 (upd (upd (upd (fun _ => nI 0) 0 (nI (1 + q2))) 1 (nI (1 + q4))) 2 (nI 0)) := (c5 _ (by omega)).trans ((va_un _ _ (by omega)).trans (k4_N_2))
      have k5_N_3 : C5 (N + 3) = ra G 5 1 F4 := (c5 _ (by omega)).trans ((va_un _ _ (by omega)).trans (hF44))
      have q5_cam := Cam_gr e5 c5 (by omega) (by omega) (Cam_up q4_cam (by omega))
      have q5_ts := isTs_gr e5 c5 (by omega) (by omega) (isTs_up q4_ts (by omega))
      have ea5 : ∀ j, j < N → ad5 j = ad j := fun j h => (e5 j (by omega)).trans (ea4 j h)
      have ca5 : ∀ j, j < N → 75 < j → C5 j = C j := fun j h hx9 => (c5 j (by omega)).trans ((va_un _ _ (by omega)).trans (ca4 j h hx9))
      have hl : lv_has ls 4 [(3, .ref (ad5 N)), (2, .int (nI (1 + q4))), (1, .int (nI (1 + q2))), (0, .ref (ad5 0))] := by rw [e5 N (by omega), e5 0 (by omega)]; exact hl
      refine W.eq (g2 := F0 m 104 ls [.ref (ad5 (N + 4)), .ref (ad5 145), .ref (ad5 0)]) (by first | (rw [e5 0 (by omega), e5 145 (by omega)]; done) | (rw [e5 0 (by omega), e5 145 (by omega)]; rfl)) ?_
      refine iwg_r (k := N + 5) (va_runS (As := [.ref (ad5 145), .ref (ad5 (N + 4))]) (rest := [.ref (ad5 0)]) ⟨hx, hb, hml, hown, hts⟩ (kX7_plus l G (N + 5) ad5 _ (by omega) (by omega) (k5_145) (n5) _) (va_cwS 2 hts gX7_take_X7_plus rfl rfl rfl (by decide +kernel) ⟨Nat.le_of_ble_eq_true rfl, Nat.le_of_ble_eq_true rfl⟩) (iPSV hK hV hP hD [.ref (ad5 145), .ref (ad5 (N + 4))]) rfl rfl hl.1 rfl (lv_room (Nat.le_of_ble_eq_true rfl)) dX7_take_104 ⟨Nat.le_of_ble_eq_true rfl, Nat.le_of_ble_eq_true rfl⟩) hD hS hA (fun ad6 C6 H locs hw8 hP hD hS => ?_)
      dsimp only at hw8
      obtain ⟨e6, c6, F5, hF56, zF56⟩ := hw8
      have k6_0 : C6 0 = ob 7 [.ref (ad6 1), .ref b, .int (nI (d + 4)), .ref (ad6 75), .ref (ad6 140), .ref (ad6 141), .ref (ad6 142), .int (f9 64), .ref (ad6 (N + 1)), .ref (ad6 (N + 3)), .ref (ad6 145), .ref (ad6 146)] := (c6 _ (by omega)).trans ((k5_0).trans (by first | (rw [e6 1 (by omega), e6 75 (by omega), e6 140 (by omega), e6 141 (by omega), e6 142 (by omega), e6 (N + 1) (by omega), e6 (N + 3) (by omega), e6 145 (by omega), e6 146 (by omega)]; done) | (rw [e6 1 (by omega), e6 75 (by omega), e6 140 (by omega), e6 141 (by omega), e6 142 (by omega), e6 (N + 1) (by omega), e6 (N + 3) (by omega), e6 145 (by omega), e6 146 (by omega)]; rfl)))
      have k6_140 : C6 140 = ia G 3 fl := (c6 _ (by omega)).trans (k5_140)
      have k6_141 : C6 141 = ia G 64 (fun _ => nI 0) := (c6 _ (by omega)).trans (k5_141)
      have k6_143 : C6 143 = ra G 5 0 F143 := (c6 _ (by omega)).trans (k5_143)
      have k6_144 : C6 144 = ra G 5 0 F144 := (c6 _ (by omega)).trans (k5_144)
      have k6_145 : C6 145 = ra G 5 0 F145 := (c6 _ (by omega)).trans (k5_145)
      have k6_N : C6 N = ia G 65 f9 := (c6 _ (by omega)).trans (k5_N)
      have k6_N_1 : C6 (N + 1) = ra G 5 1 F3 := (c6 _ (by omega)).trans (k5_N_1)
      have k6_N_2 : C6 (N + 2) = ia G 3 (upd (upd (upd (fun _ => nI 0) 0 (nI (1 + q2))) 1 (nI (1 + q4))) 2 (nI 0)) := (c6 _ (by omega)).trans (k5_N_2)
      have k6_N_3 : C6 (N + 3) = ra G 5 1 F4 := (c6 _ (by omega)).trans (k5_N_3)
      have k6_N_4 : C6 (N + 4) = ia G 0 (fun _ => nI 0) := (c6 _ (by omega)).trans (n5)
      have q6_cam := Cam_gr e6 c6 (by omega) (by omega) q5_cam
      have q6_ts := isTs_gr e6 c6 (by omega) (by omega) q5_ts
      have ea6 : ∀ j, j < N → ad6 j = ad j := fun j h => (e6 j (by omega)).trans (ea5 j h)
      have ca6 : ∀ j, j < N → 75 < j → C6 j = C j := fun j h hx9 => (c6 j (by omega)).trans (ca5 j h hx9)
      have hl : lv_has ls 4 [(3, .ref (ad6 N)), (2, .int (nI (1 + q4))), (1, .int (nI (1 + q2))), (0, .ref (ad6 0))] := by rw [e6 N (by omega), e6 0 (by omega)]; exact hl
      refine W.eq (g2 := F0 m 107 ls [.ref (ad6 (N + 5)), .ref (ad6 0)]) (by first | (rw [e6 0 (by omega)]; done) | (rw [e6 0 (by omega)]; rfl)) ?_
      have zz : F5 0 = some (ad6 (N + 4)) := zF56.trans (congrArg some (e6 _ (by omega)).symm)
      refine iw_put (ty := .array (.array (.int))) hx hb hts iu_X7_take_7 tyX7 tyX7_ok nmX7 hown hK hP hD hS (by omega) (k6_0) rfl 10 (by decide) (hts _ il_X7_take_39) (fun _ h9 => h9) rfl (by decide +kernel) rfl rfl (Nat.le_of_ble_eq_true rfl) rfl dX7_take_107 (fun H locs hP hD hS => ?_)
      refine lv_aload_n hx hb dX7_take_110 rfl (lv_at hl 3 rfl) ?_
      refine iw_get hx hb hts iu_X7_take_7 hown hK hP (by omega) (va_us _ _ _) rfl 0 (by decide) (hts _ il_X7_take_10) (fun _ h9 => h9) rfl dX7_take_111 ?_
      refine lv_iload_n hx hb dX7_take_114 rfl (lv_at hl 2 rfl) ?_
      refine lv_iload_n hx hb dX7_take_115 rfl (lv_at hl 1 rfl) ?_
      refine iw_i (va_runV (As := [.int (nI (1 + q2)), .int (nI (1 + q4))]) (rest := []) ⟨hx, hb, hml, hown, hts⟩ (kX6_take l G (N + 6) ad6 _ 1 S (Cam_N (Cam_up q6_cam (by omega)) (by omega)) (1 + q2) (1 + q4) ⟨by omega, by omega⟩ ⟨by omega, by omega⟩ (by omega) _) (cwV 2 hts gX7_take_X6_take rfl rfl rfl (by decide +kernel) ⟨Nat.le_of_ble_eq_true rfl, Nat.le_of_ble_eq_true rfl⟩) (iPV hK hP hD (by omega) ((va_un _ _ (by omega)).trans (q6_cam.2.2.1)) rfl [.int (nI (1 + q2)), .int (nI (1 + q4))]) rfl rfl hl.1 rfl (lv_room (Nat.le_of_ble_eq_true rfl)) dX7_take_116 ⟨Nat.le_of_ble_eq_true rfl, Nat.le_of_ble_eq_true rfl⟩) hD hS hA (fun r8 u8 H locs hw8 hP hD hS => ?_)
      obtain ⟨hr8, hc8, hs8⟩ := hw8
      refine lv_asI hr8 ?_
      obtain ⟨V1, rfl⟩ : ∃ V, V = u8 := ⟨_, rfl⟩
      have k7_0 : V1 0 = ob 7 [.ref (ad6 1), .ref b, .int (nI (d + 4)), .ref (ad6 75), .ref (ad6 140), .ref (ad6 141), .ref (ad6 142), .int (f9 64), .ref (ad6 (N + 1)), .ref (ad6 (N + 3)), .ref (ad6 (N + 5)), .ref (ad6 146)] := (hs8 _ (by omega)).trans (va_us _ _ _)
      have k7_140 : V1 140 = ia G 3 fl := (hs8 _ (by omega)).trans ((va_un _ _ (by omega)).trans (k6_140))
      have k7_141 : V1 141 = ia G 64 (fun _ => nI 0) := (hs8 _ (by omega)).trans ((va_un _ _ (by omega)).trans (k6_141))
      have k7_143 : V1 143 = ra G 5 0 F143 := (hs8 _ (by omega)).trans ((va_un _ _ (by omega)).trans (k6_143))
      have k7_144 : V1 144 = ra G 5 0 F144 := (hs8 _ (by omega)).trans ((va_un _ _ (by omega)).trans (k6_144))
      have k7_145 : V1 145 = ra G 5 0 F145 := (hs8 _ (by omega)).trans ((va_un _ _ (by omega)).trans (k6_145))
      have k7_N : V1 N = ia G 65 f9 := (hs8 _ (by omega)).trans ((va_un _ _ (by omega)).trans (k6_N))
      have k7_N_1 : V1 (N + 1) = ra G 5 1 F3 := (hs8 _ (by omega)).trans ((va_un _ _ (by omega)).trans (k6_N_1))
      have k7_N_2 : V1 (N + 2) = ia G 3 (upd (upd (upd (fun _ => nI 0) 0 (nI (1 + q2))) 1 (nI (1 + q4))) 2 (nI 0)) := (hs8 _ (by omega)).trans ((va_un _ _ (by omega)).trans (k6_N_2))
      have k7_N_3 : V1 (N + 3) = ra G 5 1 F4 := (hs8 _ (by omega)).trans ((va_un _ _ (by omega)).trans (k6_N_3))
      have k7_N_4 : V1 (N + 4) = ia G 0 (fun _ => nI 0) := (hs8 _ (by omega)).trans ((va_un _ _ (by omega)).trans (k6_N_4))
      have k7_N_5 : V1 (N + 5) = ra G 5 1 F5 := (hs8 _ (by omega)).trans ((va_un _ _ (by omega)).trans (hF56))
      have q7_ts := isTs_cam hs8 (by omega) (isTs_up q6_ts (by omega))
      have q7_cam := hc8
      have ea7 : ∀ j, j < N → ad6 j = ad j := ea6
      have ca7 : ∀ j, j < N → 75 < j → V1 j = C j := fun j h hx9 => (hs8 j (by omega)).trans ((va_un _ _ (by omega)).trans (ca6 j h hx9))
      refine lv_asI (y := nI 0) (by rw [hfn0]) ?_
      refine lv_aload_n hx hb dX7_take_119 rfl (lv_at hl 3 rfl) ?_
      refine iw_get hx hb hts iu_X7_take_7 hown hK hP (by omega) (k7_0) rfl 8 (by decide) (hts _ il_X7_take_33) (fun _ h9 => h9) rfl dX7_take_120 ?_
      refine iw_alenG (v := nI 1) hx hb hK hP (by omega) (k7_N_1) rfl dX7_take_123 ?_
      refine lv_iconst (v := nI 1) hx hb dX7_take_124 (by decide) ?_
      refine lv_isub hx hb dX7_take_125 ?_
      refine lv_asI (y := nI (1 - 1)) (pk_sub (by omega)) ?_
      refine lv_icmp_ne (tgt := 133) hx hb dX7_take_126 (by decide) (fun c9 => absurd (rfl) c9) (fun _ => ?_)
      refine lv_iconst (v := nI 1) hx hb dX7_take_129 (by decide) ?_
      refine lv_goto (tgt := 134) hx hb dX7_take_130 (by decide) ?_
      refine W.widen (k := 6) (n := 71) (Nat.le_of_ble_eq_true rfl) (Nat.le_of_ble_eq_true rfl) ?_
      have z_0 : (V1) 0 = ob 7 [.ref (ad6 1), .ref b, .int (nI (d + 4)), .ref (ad6 75), .ref (ad6 140), .ref (ad6 141), .ref (ad6 142), .int (f9 64), .ref (ad6 (N + 1)), .ref (ad6 (N + 3)), .ref (ad6 (N + 5)), .ref (ad6 146)] := k7_0
      have z_N_5 : (V1) (N + 5) = ra G 5 1 F5 := k7_N_5
      have z_N_4 : (V1) (N + 4) = ia G 0 (fun _ => nI 0) := k7_N_4
      exact W.zret (v := (nI 1)) (ty := .boolean) hx hb hr (by decide) (fun t ht hW => ⟨⟨_, (ad6, V1), rfl, ⟨rfl, ⟨ea7, fun j h hx9 => ca7 j h hx9, ⟨(1 + q2), (1 + q4), ⟨by omega, by omega⟩, ⟨by omega, by omega⟩, (Cam_N q7_cam (by omega)), q7_ts, ⟨f9 64, z_0⟩, F5, fun _ => nI 0, z_N_5, fun i hi => by rw [show i = 0 by omega]; exact zz, z_N_4⟩⟩⟩, ⟨by rw [ht]; exact hP, hD⟩⟩, hS.F ht⟩) hS.2.2 dX7_take_134
    · refine lv_bipush (v := nI 8) hx hb dX7_take_32 (by decide) ?_
      refine lv_goto (tgt := 38) hx hb dX7_take_34 (by decide) ?_
      refine iw_i (va_runV (As := [.int (nI 8)]) (rest := [.int (nI 1)]) ⟨hx, hb, hml, hown, hts⟩ (kX7_draw l G (N) ad _ b L xs (t := 0) (by omega) (8) (by omega) (d + 3) (by omega) (va_us _ _ _) _) (cwV 1 hts gX7_take_X7_draw rfl rfl rfl (by decide +kernel) ⟨Nat.le_of_ble_eq_true rfl, Nat.le_of_ble_eq_true rfl⟩) (iPVX hK hV hX hbA hS hP hD (by omega) (va_us _ _ _) rfl [.int (nI 8)]) rfl rfl hl.1 rfl (lv_room (Nat.le_of_ble_eq_true rfl)) dX7_take_38 ⟨Nat.le_of_ble_eq_true rfl, Nat.le_of_ble_eq_true rfl⟩) hD hS hA (fun r8 u8 H locs hw8 hP hD hS => ?_)
      obtain ⟨⟨q4, hq4, hr8⟩, hu8⟩ := hw8
      refine lv_asI hr8 ?_
      rw [hu8] at hP hD
      rw [va_uu _ _ _ _] at hP hD
      refine lv_iadd hx hb dX7_take_41 ?_
      refine lv_asI (y := nI (1 + q4)) (nI_add _ _) ?_
      refine lv_istore_n (lv' := [(2, .int (nI (1 + q4))), (1, .int (nI (1 + q2))), (0, .ref (ad 0))]) hx hb dX7_take_42 rfl hl (by decide) rfl (fun ls hl => ?_)
      refine lv_aload_n hx hb dX7_take_43 rfl (lv_at hl 2 rfl) ?_
      refine lv_iload_n hx hb dX7_take_44 rfl (lv_at hl 1 rfl) ?_
      refine lv_iload_n hx hb dX7_take_45 rfl (lv_at hl 0 rfl) ?_
      refine iwg_r (k := N) (va_runV (As := [.int (nI (1 + q2)), .int (nI (1 + q4))]) (rest := []) ⟨hx, hb, hml, hown, hts⟩ (kX7_frame l G (N) ad _ (by omega) sn (isTs_B (isTs_up hts0 (by omega)) (by omega)) (va_us _ _ _) ((va_un _ _ (by omega)).trans (hfl0)) hfl hlp ((va_un _ _ (by omega)).trans (hho)) (1 + q2) (1 + q4) (by omega) _) (cwV 2 hts gX7_take_X7_frame rfl rfl rfl (by decide +kernel) ⟨Nat.le_of_ble_eq_true rfl, Nat.le_of_ble_eq_true rfl⟩) (iPV hK hP hD (by omega) (va_us _ _ _) rfl [.int (nI (1 + q2)), .int (nI (1 + q4))]) rfl rfl hl.1 rfl (lv_room (Nat.le_of_ble_eq_true rfl)) dX7_take_46 ⟨Nat.le_of_ble_eq_true rfl, Nat.le_of_ble_eq_true rfl⟩) hD hS hA (fun ad1 C1 H locs hw8 hP hD hS => ?_)
      dsimp only at hw8
      obtain ⟨e1, c1, f9, hf1⟩ := hw8
      have k1_0 : C1 0 = ob 7 [.ref (ad1 1), .ref b, .int (nI (d + 4)), .ref (ad1 75), .ref (ad1 140), .ref (ad1 141), .ref (ad1 142), .int (nI 0), .ref (ad1 143), .ref (ad1 144), .ref (ad1 145), .ref (ad1 146)] := (c1 _ (by omega)).trans ((va_us _ _ _).trans (by first | (rw [e1 1 (by omega), e1 75 (by omega), e1 140 (by omega), e1 141 (by omega), e1 142 (by omega), e1 143 (by omega), e1 144 (by omega), e1 145 (by omega), e1 146 (by omega)]; done) | (rw [e1 1 (by omega), e1 75 (by omega), e1 140 (by omega), e1 141 (by omega), e1 142 (by omega), e1 143 (by omega), e1 144 (by omega), e1 145 (by omega), e1 146 (by omega)]; rfl)))
      have k1_140 : C1 140 = ia G 3 fl := (c1 _ (by omega)).trans ((va_un _ _ (by omega)).trans (hfl0))
      have k1_141 : C1 141 = ia G 64 (fun _ => nI 0) := (c1 _ (by omega)).trans ((va_un _ _ (by omega)).trans (hho))
      have k1_143 : C1 143 = ra G 5 0 F143 := (c1 _ (by omega)).trans ((va_un _ _ (by omega)).trans (g143))
      have k1_144 : C1 144 = ra G 5 0 F144 := (c1 _ (by omega)).trans ((va_un _ _ (by omega)).trans (g144))
      have k1_145 : C1 145 = ra G 5 0 F145 := (c1 _ (by omega)).trans ((va_un _ _ (by omega)).trans (g145))
      have q1_cam := Cam_gr e1 c1 (by omega) (by omega) (Cam_up hcam (by omega))
      have q1_ts := isTs_gr e1 c1 (by omega) (by omega) (isTs_up hts0 (by omega))
      have ea1 : ∀ j, j < N → ad1 j = ad j := fun j h => e1 j (by omega)
      have ca1 : ∀ j, j < N → 75 < j → C1 j = C j := fun j h hx9 => (c1 j (by omega)).trans ((va_un _ _ (by omega)).trans (rfl))
      have hl : lv_has ls 4 [(2, .int (nI (1 + q4))), (1, .int (nI (1 + q2))), (0, .ref (ad1 0))] := by rw [e1 0 (by omega)]; exact hl
      refine lv_astore_n (lv' := [(3, .ref (ad1 N)), (2, .int (nI (1 + q4))), (1, .int (nI (1 + q2))), (0, .ref (ad1 0))]) hx hb dX7_take_49 rfl hl (by decide) rfl (fun ls hl => ?_)
      refine lv_aload_n hx hb dX7_take_50 rfl (lv_at hl 3 rfl) ?_
      refine lv_aload_n hx hb dX7_take_51 rfl (lv_at hl 0 rfl) ?_
      refine lv_bipush (v := nI 64) hx hb dX7_take_52 (by decide) ?_
      refine iw_iald (v := f9 64) hx hb hK hP (by omega) (hf1) (vp_in_nI (show 64 < 65 by omega) (by omega)) (congrArg f9 (nI_clamp (by omega))) dX7_take_54 ?_
      refine iw_put (ty := .int) hx hb hts iu_X7_take_7 tyX7 tyX7_ok nmX7 hown hK hP hD hS (by omega) (k1_0) rfl 7 (by decide) (hts _ il_X7_take_91) (fun _ h9 => h9) rfl (by decide +kernel) rfl rfl (Nat.le_of_ble_eq_true rfl) rfl dX7_take_55 (fun H locs hP hD hS => ?_)
      refine lv_aload_n hx hb dX7_take_58 rfl (lv_at hl 3 rfl) ?_
      refine lv_aload_n hx hb dX7_take_59 rfl (lv_at hl 3 rfl) ?_
      refine iw_get hx hb hts iu_X7_take_7 hown hK hP (by omega) (va_us _ _ _) rfl 8 (by decide) (hts _ il_X7_take_33) (fun _ h9 => h9) rfl dX7_take_60 ?_
      refine lv_aload_n hx hb dX7_take_63 rfl (lv_at hl 0 rfl) ?_
      refine iwg_r (k := N + 1) (va_runS (As := [.ref (ad1 143), .ref (ad1 N)]) (rest := [.ref (ad1 0)]) ⟨hx, hb, hml, hown, hts⟩ (kX7_plus l G (N + 1) ad1 _ (by omega) (by omega) ((va_un _ _ (by omega)).trans (k1_143)) ((va_un _ _ (by omega)).trans (hf1)) _) (va_cwS 2 hts gX7_take_X7_plus rfl rfl rfl (by decide +kernel) ⟨Nat.le_of_ble_eq_true rfl, Nat.le_of_ble_eq_true rfl⟩) (iPSV hK hV hP hD [.ref (ad1 143), .ref (ad1 N)]) rfl rfl hl.1 rfl (lv_room (Nat.le_of_ble_eq_true rfl)) dX7_take_64 ⟨Nat.le_of_ble_eq_true rfl, Nat.le_of_ble_eq_true rfl⟩) hD hS hA (fun ad2 C2 H locs hw8 hP hD hS => ?_)
      dsimp only at hw8
      obtain ⟨e2, c2, F3, hF32, zF32⟩ := hw8
      have k2_0 : C2 0 = ob 7 [.ref (ad2 1), .ref b, .int (nI (d + 4)), .ref (ad2 75), .ref (ad2 140), .ref (ad2 141), .ref (ad2 142), .int (f9 64), .ref (ad2 143), .ref (ad2 144), .ref (ad2 145), .ref (ad2 146)] := (c2 _ (by omega)).trans ((va_us _ _ _).trans (by first | (rw [e2 1 (by omega), e2 75 (by omega), e2 140 (by omega), e2 141 (by omega), e2 142 (by omega), e2 143 (by omega), e2 144 (by omega), e2 145 (by omega), e2 146 (by omega)]; done) | (rw [e2 1 (by omega), e2 75 (by omega), e2 140 (by omega), e2 141 (by omega), e2 142 (by omega), e2 143 (by omega), e2 144 (by omega), e2 145 (by omega), e2 146 (by omega)]; rfl)))
      have k2_140 : C2 140 = ia G 3 fl := (c2 _ (by omega)).trans ((va_un _ _ (by omega)).trans (k1_140))
      have k2_141 : C2 141 = ia G 64 (fun _ => nI 0) := (c2 _ (by omega)).trans ((va_un _ _ (by omega)).trans (k1_141))
      have k2_143 : C2 143 = ra G 5 0 F143 := (c2 _ (by omega)).trans ((va_un _ _ (by omega)).trans (k1_143))
      have k2_144 : C2 144 = ra G 5 0 F144 := (c2 _ (by omega)).trans ((va_un _ _ (by omega)).trans (k1_144))
      have k2_145 : C2 145 = ra G 5 0 F145 := (c2 _ (by omega)).trans ((va_un _ _ (by omega)).trans (k1_145))
      have k2_N : C2 N = ia G 65 f9 := (c2 _ (by omega)).trans ((va_un _ _ (by omega)).trans (hf1))
      have q2_cam := Cam_gr e2 c2 (by omega) (by omega) (Cam_up q1_cam (by omega))
      have q2_ts := isTs_gr e2 c2 (by omega) (by omega) (isTs_up q1_ts (by omega))
      have ea2 : ∀ j, j < N → ad2 j = ad j := fun j h => (e2 j (by omega)).trans (ea1 j h)
      have ca2 : ∀ j, j < N → 75 < j → C2 j = C j := fun j h hx9 => (c2 j (by omega)).trans ((va_un _ _ (by omega)).trans (ca1 j h hx9))
      have hl : lv_has ls 4 [(3, .ref (ad2 N)), (2, .int (nI (1 + q4))), (1, .int (nI (1 + q2))), (0, .ref (ad2 0))] := by rw [e2 N (by omega), e2 0 (by omega)]; exact hl
      refine W.eq (g2 := F0 m 67 ls [.ref (ad2 (N + 1)), .ref (ad2 0)]) (by first | (rw [e2 0 (by omega)]; done) | (rw [e2 0 (by omega)]; rfl)) ?_
      refine iw_put (ty := .array (.array (.int))) hx hb hts iu_X7_take_7 tyX7 tyX7_ok nmX7 hown hK hP hD hS (by omega) (k2_0) rfl 8 (by decide) (hts _ il_X7_take_33) (fun _ h9 => h9) rfl (by decide +kernel) rfl rfl (Nat.le_of_ble_eq_true rfl) rfl dX7_take_67 (fun H locs hP hD hS => ?_)
      refine lv_aload_n hx hb dX7_take_70 rfl (lv_at hl 3 rfl) ?_
      refine lv_aload_n hx hb dX7_take_71 rfl (lv_at hl 3 rfl) ?_
      refine iw_get hx hb hts iu_X7_take_7 hown hK hP (by omega) (va_us _ _ _) rfl 9 (by decide) (hts _ il_X7_take_36) (fun _ h9 => h9) rfl dX7_take_72 ?_
      refine lv_iconst (v := nI 3) hx hb dX7_take_75 (by decide) ?_
      refine iw_newI (N' := 3) hx hb (hts _ il_X7_take_arrint) hK hP hD hS hA (by decide) (by decide) (Nat.le_of_ble_eq_true rfl) (Nat.le_of_ble_eq_true rfl) (Nat.le_of_ble_eq_true rfl) dX7_take_76 (fun ad3 C3 H e3 c3 n3 hP hD hS => ?_)
      have k3_0 : C3 0 = ob 7 [.ref (ad3 1), .ref b, .int (nI (d + 4)), .ref (ad3 75), .ref (ad3 140), .ref (ad3 141), .ref (ad3 142), .int (f9 64), .ref (ad3 (N + 1)), .ref (ad3 144), .ref (ad3 145), .ref (ad3 146)] := (c3 _ (by omega)).trans ((va_us _ _ _).trans (by first | (rw [e3 1 (by omega), e3 75 (by omega), e3 140 (by omega), e3 141 (by omega), e3 142 (by omega), e3 (N + 1) (by omega), e3 144 (by omega), e3 145 (by omega), e3 146 (by omega)]; done) | (rw [e3 1 (by omega), e3 75 (by omega), e3 140 (by omega), e3 141 (by omega), e3 142 (by omega), e3 (N + 1) (by omega), e3 144 (by omega), e3 145 (by omega), e3 146 (by omega)]; rfl)))
      have k3_140 : C3 140 = ia G 3 fl := (c3 _ (by omega)).trans ((va_un _ _ (by omega)).trans (k2_140))
      have k3_141 : C3 141 = ia G 64 (fun _ => nI 0) := (c3 _ (by omega)).trans ((va_un _ _ (by omega)).trans (k2_141))
      have k3_143 : C3 143 = ra G 5 0 F143 := (c3 _ (by omega)).trans ((va_un _ _ (by omega)).trans (k2_143))
      have k3_144 : C3 144 = ra G 5 0 F144 := (c3 _ (by omega)).trans ((va_un _ _ (by omega)).trans (k2_144))
      have k3_145 : C3 145 = ra G 5 0 F145 := (c3 _ (by omega)).trans ((va_un _ _ (by omega)).trans (k2_145))
      have k3_N : C3 N = ia G 65 f9 := (c3 _ (by omega)).trans ((va_un _ _ (by omega)).trans (k2_N))
      have k3_N_1 : C3 (N + 1) = ra G 5 1 F3 := (c3 _ (by omega)).trans ((va_un _ _ (by omega)).trans (hF32))
      have q3_cam := Cam_gr e3 c3 (by omega) (by omega) (Cam_up q2_cam (by omega))
      have q3_ts := isTs_gr e3 c3 (by omega) (by omega) (isTs_up q2_ts (by omega))
      have ea3 : ∀ j, j < N → ad3 j = ad j := fun j h => (e3 j (by omega)).trans (ea2 j h)
      have ca3 : ∀ j, j < N → 75 < j → C3 j = C j := fun j h hx9 => (c3 j (by omega)).trans ((va_un _ _ (by omega)).trans (ca2 j h hx9))
      have hl : lv_has ls 4 [(3, .ref (ad3 N)), (2, .int (nI (1 + q4))), (1, .int (nI (1 + q2))), (0, .ref (ad3 0))] := by rw [e3 N (by omega), e3 0 (by omega)]; exact hl
      refine W.eq (g2 := F0 m 78 ls [.ref (ad3 (N + 2)), .ref (ad3 144), .ref (ad3 0)]) (by first | (rw [e3 0 (by omega), e3 144 (by omega)]; done) | (rw [e3 0 (by omega), e3 144 (by omega)]; rfl)) ?_
      refine lv_dup hx hb dX7_take_78 rfl ?_
      refine lv_iconst (v := nI 0) hx hb dX7_take_79 (by decide) ?_
      refine lv_iload_n hx hb dX7_take_80 rfl (lv_at hl 2 rfl) ?_
      refine iw_iast hx hb hK hP hD hS (by omega) (n3) (vp_in_nI (show 0 < 3 by omega) (by omega)) (nI_clamp (by omega)) dX7_take_81 (fun H locs hP hD hS => ?_)
      refine lv_dup hx hb dX7_take_82 rfl ?_
      refine lv_iconst (v := nI 1) hx hb dX7_take_83 (by decide) ?_
      refine lv_iload_n hx hb dX7_take_84 rfl (lv_at hl 1 rfl) ?_
      refine iw_iast hx hb hK hP hD hS (by omega) (va_us _ _ _) (vp_in_nI (show 1 < 3 by omega) (by omega)) (nI_clamp (by omega)) dX7_take_85 (fun H locs hP hD hS => ?_)
      rw [va_uu _ _ _ _] at hP hD
      refine lv_dup hx hb dX7_take_86 rfl ?_
      refine lv_iconst (v := nI 2) hx hb dX7_take_87 (by decide) ?_
      refine lv_iconst (v := nI 0) hx hb dX7_take_88 (by decide) ?_
      refine iw_iast hx hb hK hP hD hS (by omega) (va_us _ _ _) (vp_in_nI (show 2 < 3 by omega) (by omega)) (nI_clamp (by omega)) dX7_take_89 (fun H locs hP hD hS => ?_)
      rw [va_uu _ _ _ _] at hP hD
      refine iwg_r (k := N + 3) (va_runS (As := [.ref (ad3 144), .ref (ad3 (N + 2))]) (rest := [.ref (ad3 0)]) ⟨hx, hb, hml, hown, hts⟩ (kX7_plus l G (N + 3) ad3 _ (by omega) (by omega) ((va_un _ _ (by omega)).trans (k3_144)) (va_us _ _ _) _) (va_cwS 2 hts gX7_take_X7_plus rfl rfl rfl (by decide +kernel) ⟨Nat.le_of_ble_eq_true rfl, Nat.le_of_ble_eq_true rfl⟩) (iPSV hK hV hP hD [.ref (ad3 144), .ref (ad3 (N + 2))]) rfl rfl hl.1 rfl (lv_room (Nat.le_of_ble_eq_true rfl)) dX7_take_90 ⟨Nat.le_of_ble_eq_true rfl, Nat.le_of_ble_eq_true rfl⟩) hD hS hA (fun ad4 C4 H locs hw8 hP hD hS => ?_)
      dsimp only at hw8
      obtain ⟨e4, c4, F4, hF44, zF44⟩ := hw8
      have k4_0 : C4 0 = ob 7 [.ref (ad4 1), .ref b, .int (nI (d + 4)), .ref (ad4 75), .ref (ad4 140), .ref (ad4 141), .ref (ad4 142), .int (f9 64), .ref (ad4 (N + 1)), .ref (ad4 144), .ref (ad4 145), .ref (ad4 146)] := (c4 _ (by omega)).trans (((va_un _ _ (by omega)).trans (k3_0)).trans (by first | (rw [e4 1 (by omega), e4 75 (by omega), e4 140 (by omega), e4 141 (by omega), e4 142 (by omega), e4 (N + 1) (by omega), e4 144 (by omega), e4 145 (by omega), e4 146 (by omega)]; done) | (rw [e4 1 (by omega), e4 75 (by omega), e4 140 (by omega), e4 141 (by omega), e4 142 (by omega), e4 (N + 1) (by omega), e4 144 (by omega), e4 145 (by omega), e4 146 (by omega)]; rfl)))
      have k4_140 : C4 140 = ia G 3 fl := (c4 _ (by omega)).trans ((va_un _ _ (by omega)).trans (k3_140))
      have k4_141 : C4 141 = ia G 64 (fun _ => nI 0) := (c4 _ (by omega)).trans ((va_un _ _ (by omega)).trans (k3_141))
      have k4_143 : C4 143 = ra G 5 0 F143 := (c4 _ (by omega)).trans ((va_un _ _ (by omega)).trans (k3_143))
      have k4_144 : C4 144 = ra G 5 0 F144 := (c4 _ (by omega)).trans ((va_un _ _ (by omega)).trans (k3_144))
      have k4_145 : C4 145 = ra G 5 0 F145 := (c4 _ (by omega)).trans ((va_un _ _ (by omega)).trans (k3_145))
      have k4_N : C4 N = ia G 65 f9 := (c4 _ (by omega)).trans ((va_un _ _ (by omega)).trans (k3_N))
      have k4_N_1 : C4 (N + 1) = ra G 5 1 F3 := (c4 _ (by omega)).trans ((va_un _ _ (by omega)).trans (k3_N_1))
      have k4_N_2 : C4 (N + 2) = ia G 3 (upd (upd (upd (fun _ => nI 0) 0 (nI (1 + q2))) 1 (nI (1 + q4))) 2 (nI 0)) := (c4 _ (by omega)).trans (va_us _ _ _)
      have q4_cam := Cam_gr e4 c4 (by omega) (by omega) (Cam_up q3_cam (by omega))
      have q4_ts := isTs_gr e4 c4 (by omega) (by omega) (isTs_up q3_ts (by omega))
      have ea4 : ∀ j, j < N → ad4 j = ad j := fun j h => (e4 j (by omega)).trans (ea3 j h)
      have ca4 : ∀ j, j < N → 75 < j → C4 j = C j := fun j h hx9 => (c4 j (by omega)).trans ((va_un _ _ (by omega)).trans (ca3 j h hx9))
      have hl : lv_has ls 4 [(3, .ref (ad4 N)), (2, .int (nI (1 + q4))), (1, .int (nI (1 + q2))), (0, .ref (ad4 0))] := by rw [e4 N (by omega), e4 0 (by omega)]; exact hl
      refine W.eq (g2 := F0 m 93 ls [.ref (ad4 (N + 3)), .ref (ad4 0)]) (by first | (rw [e4 0 (by omega)]; done) | (rw [e4 0 (by omega)]; rfl)) ?_
      refine iw_put (ty := .array (.array (.int))) hx hb hts iu_X7_take_7 tyX7 tyX7_ok nmX7 hown hK hP hD hS (by omega) (k4_0) rfl 9 (by decide) (hts _ il_X7_take_36) (fun _ h9 => h9) rfl (by decide +kernel) rfl rfl (Nat.le_of_ble_eq_true rfl) rfl dX7_take_93 (fun H locs hP hD hS => ?_)
      refine lv_aload_n hx hb dX7_take_96 rfl (lv_at hl 3 rfl) ?_
      refine lv_aload_n hx hb dX7_take_97 rfl (lv_at hl 3 rfl) ?_
      refine iw_get hx hb hts iu_X7_take_7 hown hK hP (by omega) (va_us _ _ _) rfl 10 (by decide) (hts _ il_X7_take_39) (fun _ h9 => h9) rfl dX7_take_98 ?_
      refine lv_iconst (v := nI 0) hx hb dX7_take_101 (by decide) ?_
      refine iw_newI (N' := 0) hx hb (hts _ il_X7_take_arrint) hK hP hD hS hA (by decide) (by decide) (Nat.le_of_ble_eq_true rfl) (Nat.le_of_ble_eq_true rfl) (Nat.le_of_ble_eq_true rfl) dX7_take_102 (fun ad5 C5 H e5 c5 n5 hP hD hS => ?_)
      have k5_0 : C5 0 = ob 7 [.ref (ad5 1), .ref b, .int (nI (d + 4)), .ref (ad5 75), .ref (ad5 140), .ref (ad5 141), .ref (ad5 142), .int (f9 64), .ref (ad5 (N + 1)), .ref (ad5 (N + 3)), .ref (ad5 145), .ref (ad5 146)] := (c5 _ (by omega)).trans ((va_us _ _ _).trans (by first | (rw [e5 1 (by omega), e5 75 (by omega), e5 140 (by omega), e5 141 (by omega), e5 142 (by omega), e5 (N + 1) (by omega), e5 (N + 3) (by omega), e5 145 (by omega), e5 146 (by omega)]; done) | (rw [e5 1 (by omega), e5 75 (by omega), e5 140 (by omega), e5 141 (by omega), e5 142 (by omega), e5 (N + 1) (by omega), e5 (N + 3) (by omega), e5 145 (by omega), e5 146 (by omega)]; rfl)))
      have k5_140 : C5 140 = ia G 3 fl := (c5 _ (by omega)).trans ((va_un _ _ (by omega)).trans (k4_140))
      have k5_141 : C5 141 = ia G 64 (fun _ => nI 0) := (c5 _ (by omega)).trans ((va_un _ _ (by omega)).trans (k4_141))
      have k5_143 : C5 143 = ra G 5 0 F143 := (c5 _ (by omega)).trans ((va_un _ _ (by omega)).trans (k4_143))
      have k5_144 : C5 144 = ra G 5 0 F144 := (c5 _ (by omega)).trans ((va_un _ _ (by omega)).trans (k4_144))
      have k5_145 : C5 145 = ra G 5 0 F145 := (c5 _ (by omega)).trans ((va_un _ _ (by omega)).trans (k4_145))
      have k5_N : C5 N = ia G 65 f9 := (c5 _ (by omega)).trans ((va_un _ _ (by omega)).trans (k4_N))
      have k5_N_1 : C5 (N + 1) = ra G 5 1 F3 := (c5 _ (by omega)).trans ((va_un _ _ (by omega)).trans (k4_N_1))
      have k5_N_2 : C5 (N + 2) = ia G 3 (upd (upd (upd (fun _ => nI 0) 0 (nI (1 + q2))) 1 (nI (1 + q4))) 2 (nI 0)) := (c5 _ (by omega)).trans ((va_un _ _ (by omega)).trans (k4_N_2))
      have k5_N_3 : C5 (N + 3) = ra G 5 1 F4 := (c5 _ (by omega)).trans ((va_un _ _ (by omega)).trans (hF44))
      have q5_cam := Cam_gr e5 c5 (by omega) (by omega) (Cam_up q4_cam (by omega))
      have q5_ts := isTs_gr e5 c5 (by omega) (by omega) (isTs_up q4_ts (by omega))
      have ea5 : ∀ j, j < N → ad5 j = ad j := fun j h => (e5 j (by omega)).trans (ea4 j h)
      have ca5 : ∀ j, j < N → 75 < j → C5 j = C j := fun j h hx9 => (c5 j (by omega)).trans ((va_un _ _ (by omega)).trans (ca4 j h hx9))
      have hl : lv_has ls 4 [(3, .ref (ad5 N)), (2, .int (nI (1 + q4))), (1, .int (nI (1 + q2))), (0, .ref (ad5 0))] := by rw [e5 N (by omega), e5 0 (by omega)]; exact hl
      refine W.eq (g2 := F0 m 104 ls [.ref (ad5 (N + 4)), .ref (ad5 145), .ref (ad5 0)]) (by first | (rw [e5 0 (by omega), e5 145 (by omega)]; done) | (rw [e5 0 (by omega), e5 145 (by omega)]; rfl)) ?_
      refine iwg_r (k := N + 5) (va_runS (As := [.ref (ad5 145), .ref (ad5 (N + 4))]) (rest := [.ref (ad5 0)]) ⟨hx, hb, hml, hown, hts⟩ (kX7_plus l G (N + 5) ad5 _ (by omega) (by omega) (k5_145) (n5) _) (va_cwS 2 hts gX7_take_X7_plus rfl rfl rfl (by decide +kernel) ⟨Nat.le_of_ble_eq_true rfl, Nat.le_of_ble_eq_true rfl⟩) (iPSV hK hV hP hD [.ref (ad5 145), .ref (ad5 (N + 4))]) rfl rfl hl.1 rfl (lv_room (Nat.le_of_ble_eq_true rfl)) dX7_take_104 ⟨Nat.le_of_ble_eq_true rfl, Nat.le_of_ble_eq_true rfl⟩) hD hS hA (fun ad6 C6 H locs hw8 hP hD hS => ?_)
      dsimp only at hw8
      obtain ⟨e6, c6, F5, hF56, zF56⟩ := hw8
      have k6_0 : C6 0 = ob 7 [.ref (ad6 1), .ref b, .int (nI (d + 4)), .ref (ad6 75), .ref (ad6 140), .ref (ad6 141), .ref (ad6 142), .int (f9 64), .ref (ad6 (N + 1)), .ref (ad6 (N + 3)), .ref (ad6 145), .ref (ad6 146)] := (c6 _ (by omega)).trans ((k5_0).trans (by first | (rw [e6 1 (by omega), e6 75 (by omega), e6 140 (by omega), e6 141 (by omega), e6 142 (by omega), e6 (N + 1) (by omega), e6 (N + 3) (by omega), e6 145 (by omega), e6 146 (by omega)]; done) | (rw [e6 1 (by omega), e6 75 (by omega), e6 140 (by omega), e6 141 (by omega), e6 142 (by omega), e6 (N + 1) (by omega), e6 (N + 3) (by omega), e6 145 (by omega), e6 146 (by omega)]; rfl)))
      have k6_140 : C6 140 = ia G 3 fl := (c6 _ (by omega)).trans (k5_140)
      have k6_141 : C6 141 = ia G 64 (fun _ => nI 0) := (c6 _ (by omega)).trans (k5_141)
      have k6_143 : C6 143 = ra G 5 0 F143 := (c6 _ (by omega)).trans (k5_143)
      have k6_144 : C6 144 = ra G 5 0 F144 := (c6 _ (by omega)).trans (k5_144)
      have k6_145 : C6 145 = ra G 5 0 F145 := (c6 _ (by omega)).trans (k5_145)
      have k6_N : C6 N = ia G 65 f9 := (c6 _ (by omega)).trans (k5_N)
      have k6_N_1 : C6 (N + 1) = ra G 5 1 F3 := (c6 _ (by omega)).trans (k5_N_1)
      have k6_N_2 : C6 (N + 2) = ia G 3 (upd (upd (upd (fun _ => nI 0) 0 (nI (1 + q2))) 1 (nI (1 + q4))) 2 (nI 0)) := (c6 _ (by omega)).trans (k5_N_2)
      have k6_N_3 : C6 (N + 3) = ra G 5 1 F4 := (c6 _ (by omega)).trans (k5_N_3)
      have k6_N_4 : C6 (N + 4) = ia G 0 (fun _ => nI 0) := (c6 _ (by omega)).trans (n5)
      have q6_cam := Cam_gr e6 c6 (by omega) (by omega) q5_cam
      have q6_ts := isTs_gr e6 c6 (by omega) (by omega) q5_ts
      have ea6 : ∀ j, j < N → ad6 j = ad j := fun j h => (e6 j (by omega)).trans (ea5 j h)
      have ca6 : ∀ j, j < N → 75 < j → C6 j = C j := fun j h hx9 => (c6 j (by omega)).trans (ca5 j h hx9)
      have hl : lv_has ls 4 [(3, .ref (ad6 N)), (2, .int (nI (1 + q4))), (1, .int (nI (1 + q2))), (0, .ref (ad6 0))] := by rw [e6 N (by omega), e6 0 (by omega)]; exact hl
      refine W.eq (g2 := F0 m 107 ls [.ref (ad6 (N + 5)), .ref (ad6 0)]) (by first | (rw [e6 0 (by omega)]; done) | (rw [e6 0 (by omega)]; rfl)) ?_
      have zz : F5 0 = some (ad6 (N + 4)) := zF56.trans (congrArg some (e6 _ (by omega)).symm)
      refine iw_put (ty := .array (.array (.int))) hx hb hts iu_X7_take_7 tyX7 tyX7_ok nmX7 hown hK hP hD hS (by omega) (k6_0) rfl 10 (by decide) (hts _ il_X7_take_39) (fun _ h9 => h9) rfl (by decide +kernel) rfl rfl (Nat.le_of_ble_eq_true rfl) rfl dX7_take_107 (fun H locs hP hD hS => ?_)
      refine lv_aload_n hx hb dX7_take_110 rfl (lv_at hl 3 rfl) ?_
      refine iw_get hx hb hts iu_X7_take_7 hown hK hP (by omega) (va_us _ _ _) rfl 0 (by decide) (hts _ il_X7_take_10) (fun _ h9 => h9) rfl dX7_take_111 ?_
      refine lv_iload_n hx hb dX7_take_114 rfl (lv_at hl 2 rfl) ?_
      refine lv_iload_n hx hb dX7_take_115 rfl (lv_at hl 1 rfl) ?_
      refine iw_i (va_runV (As := [.int (nI (1 + q2)), .int (nI (1 + q4))]) (rest := []) ⟨hx, hb, hml, hown, hts⟩ (kX6_take l G (N + 6) ad6 _ 1 S (Cam_N (Cam_up q6_cam (by omega)) (by omega)) (1 + q2) (1 + q4) ⟨by omega, by omega⟩ ⟨by omega, by omega⟩ (by omega) _) (cwV 2 hts gX7_take_X6_take rfl rfl rfl (by decide +kernel) ⟨Nat.le_of_ble_eq_true rfl, Nat.le_of_ble_eq_true rfl⟩) (iPV hK hP hD (by omega) ((va_un _ _ (by omega)).trans (q6_cam.2.2.1)) rfl [.int (nI (1 + q2)), .int (nI (1 + q4))]) rfl rfl hl.1 rfl (lv_room (Nat.le_of_ble_eq_true rfl)) dX7_take_116 ⟨Nat.le_of_ble_eq_true rfl, Nat.le_of_ble_eq_true rfl⟩) hD hS hA (fun r8 u8 H locs hw8 hP hD hS => ?_)
      obtain ⟨hr8, hc8, hs8⟩ := hw8
      refine lv_asI hr8 ?_
      obtain ⟨V1, rfl⟩ : ∃ V, V = u8 := ⟨_, rfl⟩
      have k7_0 : V1 0 = ob 7 [.ref (ad6 1), .ref b, .int (nI (d + 4)), .ref (ad6 75), .ref (ad6 140), .ref (ad6 141), .ref (ad6 142), .int (f9 64), .ref (ad6 (N + 1)), .ref (ad6 (N + 3)), .ref (ad6 (N + 5)), .ref (ad6 146)] := (hs8 _ (by omega)).trans (va_us _ _ _)
      have k7_140 : V1 140 = ia G 3 fl := (hs8 _ (by omega)).trans ((va_un _ _ (by omega)).trans (k6_140))
      have k7_141 : V1 141 = ia G 64 (fun _ => nI 0) := (hs8 _ (by omega)).trans ((va_un _ _ (by omega)).trans (k6_141))
      have k7_143 : V1 143 = ra G 5 0 F143 := (hs8 _ (by omega)).trans ((va_un _ _ (by omega)).trans (k6_143))
      have k7_144 : V1 144 = ra G 5 0 F144 := (hs8 _ (by omega)).trans ((va_un _ _ (by omega)).trans (k6_144))
      have k7_145 : V1 145 = ra G 5 0 F145 := (hs8 _ (by omega)).trans ((va_un _ _ (by omega)).trans (k6_145))
      have k7_N : V1 N = ia G 65 f9 := (hs8 _ (by omega)).trans ((va_un _ _ (by omega)).trans (k6_N))
      have k7_N_1 : V1 (N + 1) = ra G 5 1 F3 := (hs8 _ (by omega)).trans ((va_un _ _ (by omega)).trans (k6_N_1))
      have k7_N_2 : V1 (N + 2) = ia G 3 (upd (upd (upd (fun _ => nI 0) 0 (nI (1 + q2))) 1 (nI (1 + q4))) 2 (nI 0)) := (hs8 _ (by omega)).trans ((va_un _ _ (by omega)).trans (k6_N_2))
      have k7_N_3 : V1 (N + 3) = ra G 5 1 F4 := (hs8 _ (by omega)).trans ((va_un _ _ (by omega)).trans (k6_N_3))
      have k7_N_4 : V1 (N + 4) = ia G 0 (fun _ => nI 0) := (hs8 _ (by omega)).trans ((va_un _ _ (by omega)).trans (k6_N_4))
      have k7_N_5 : V1 (N + 5) = ra G 5 1 F5 := (hs8 _ (by omega)).trans ((va_un _ _ (by omega)).trans (hF56))
      have q7_ts := isTs_cam hs8 (by omega) (isTs_up q6_ts (by omega))
      have q7_cam := hc8
      have ea7 : ∀ j, j < N → ad6 j = ad j := ea6
      have ca7 : ∀ j, j < N → 75 < j → V1 j = C j := fun j h hx9 => (hs8 j (by omega)).trans ((va_un _ _ (by omega)).trans (ca6 j h hx9))
      refine lv_asI (y := nI 0) (by rw [hfn0]) ?_
      refine lv_aload_n hx hb dX7_take_119 rfl (lv_at hl 3 rfl) ?_
      refine iw_get hx hb hts iu_X7_take_7 hown hK hP (by omega) (k7_0) rfl 8 (by decide) (hts _ il_X7_take_33) (fun _ h9 => h9) rfl dX7_take_120 ?_
      refine iw_alenG (v := nI 1) hx hb hK hP (by omega) (k7_N_1) rfl dX7_take_123 ?_
      refine lv_iconst (v := nI 1) hx hb dX7_take_124 (by decide) ?_
      refine lv_isub hx hb dX7_take_125 ?_
      refine lv_asI (y := nI (1 - 1)) (pk_sub (by omega)) ?_
      refine lv_icmp_ne (tgt := 133) hx hb dX7_take_126 (by decide) (fun c9 => absurd (rfl) c9) (fun _ => ?_)
      refine lv_iconst (v := nI 1) hx hb dX7_take_129 (by decide) ?_
      refine lv_goto (tgt := 134) hx hb dX7_take_130 (by decide) ?_
      refine W.widen (k := 6) (n := 71) (Nat.le_of_ble_eq_true rfl) (Nat.le_of_ble_eq_true rfl) ?_
      have z_0 : (V1) 0 = ob 7 [.ref (ad6 1), .ref b, .int (nI (d + 4)), .ref (ad6 75), .ref (ad6 140), .ref (ad6 141), .ref (ad6 142), .int (f9 64), .ref (ad6 (N + 1)), .ref (ad6 (N + 3)), .ref (ad6 (N + 5)), .ref (ad6 146)] := k7_0
      have z_N_5 : (V1) (N + 5) = ra G 5 1 F5 := k7_N_5
      have z_N_4 : (V1) (N + 4) = ia G 0 (fun _ => nI 0) := k7_N_4
      exact W.zret (v := (nI 1)) (ty := .boolean) hx hb hr (by decide) (fun t ht hW => ⟨⟨_, (ad6, V1), rfl, ⟨rfl, ⟨ea7, fun j h hx9 => ca7 j h hx9, ⟨(1 + q2), (1 + q4), ⟨by omega, by omega⟩, ⟨by omega, by omega⟩, (Cam_N q7_cam (by omega)), q7_ts, ⟨f9 64, z_0⟩, F5, fun _ => nI 0, z_N_5, fun i hi => by rw [show i = 0 by omega]; exact zz, z_N_4⟩⟩⟩, ⟨by rw [ht]; exact hP, hD⟩⟩, hS.F ht⟩) hS.2.2 dX7_take_134
  · refine lv_bipush (v := nI 64) hx hb dX7_take_10 (by decide) ?_
    refine lv_goto (tgt := 17) hx hb dX7_take_12 (by decide) ?_
    refine iw_i (va_runV (As := [.int (nI 64)]) (rest := [.int (nI 1)]) ⟨hx, hb, hml, hown, hts⟩ (kX7_draw l G (N) ad _ b L xs (t := 0) (by omega) (64) (by omega) (d + 1) (by omega) (va_us _ _ _) _) (cwV 1 hts gX7_take_X7_draw rfl rfl rfl (by decide +kernel) ⟨Nat.le_of_ble_eq_true rfl, Nat.le_of_ble_eq_true rfl⟩) (iPVX hK hV hX hbA hS hP hD (by omega) (va_us _ _ _) rfl [.int (nI 64)]) rfl rfl hl.1 rfl (lv_room (Nat.le_of_ble_eq_true rfl)) dX7_take_17 ⟨Nat.le_of_ble_eq_true rfl, Nat.le_of_ble_eq_true rfl⟩) hD hS hA (fun r8 u8 H locs hw8 hP hD hS => ?_)
    obtain ⟨⟨q2, hq2, hr8⟩, hu8⟩ := hw8
    refine lv_asI hr8 ?_
    rw [hu8] at hP hD
    rw [va_uu _ _ _ _] at hP hD
    refine lv_iadd hx hb dX7_take_20 ?_
    refine lv_asI (y := nI (1 + q2)) (nI_add _ _) ?_
    refine lv_istore_n (lv' := [(1, .int (nI (1 + q2))), (0, .ref (ad 0))]) hx hb dX7_take_21 rfl hl (by decide) rfl (fun ls hl => ?_)
    refine lv_iconst (v := nI 1) hx hb dX7_take_22 (by decide) ?_
    refine lv_aload_n hx hb dX7_take_23 rfl (lv_at hl 1 rfl) ?_
    refine lv_aload_n hx hb dX7_take_24 rfl (lv_at hl 1 rfl) ?_
    refine lv_iconst (v := nI 2) hx hb dX7_take_25 (by decide) ?_
    refine iw_i (va_runV (As := [.int (nI 2)]) (rest := [.ref (ad 0), .int (nI 1)]) ⟨hx, hb, hml, hown, hts⟩ (kX7_draw l G (N) ad _ b L xs (t := 0) (by omega) (2) (by omega) (d + 2) (by omega) (va_us _ _ _) _) (cwV 1 hts gX7_take_X7_draw rfl rfl rfl (by decide +kernel) ⟨Nat.le_of_ble_eq_true rfl, Nat.le_of_ble_eq_true rfl⟩) (iPVX hK hV hX hbA hS hP hD (by omega) (va_us _ _ _) rfl [.int (nI 2)]) rfl rfl hl.1 rfl (lv_room (Nat.le_of_ble_eq_true rfl)) dX7_take_26 ⟨Nat.le_of_ble_eq_true rfl, Nat.le_of_ble_eq_true rfl⟩) hD hS hA (fun r8 u8 H locs hw8 hP hD hS => ?_)
    obtain ⟨⟨q3, hq3, hr8⟩, hu8⟩ := hw8
    refine lv_asI hr8 ?_
    rw [hu8] at hP hD
    rw [va_uu _ _ _ _] at hP hD
    refine lv_if_ne (tgt := 37) hx hb dX7_take_29 (by decide) (fun c29 => ?_) (fun c29 => ?_)
    · refine lv_iconst (v := nI 2) hx hb dX7_take_37 (by decide) ?_
      refine iw_i (va_runV (As := [.int (nI 2)]) (rest := [.int (nI 1)]) ⟨hx, hb, hml, hown, hts⟩ (kX7_draw l G (N) ad _ b L xs (t := 0) (by omega) (2) (by omega) (d + 3) (by omega) (va_us _ _ _) _) (cwV 1 hts gX7_take_X7_draw rfl rfl rfl (by decide +kernel) ⟨Nat.le_of_ble_eq_true rfl, Nat.le_of_ble_eq_true rfl⟩) (iPVX hK hV hX hbA hS hP hD (by omega) (va_us _ _ _) rfl [.int (nI 2)]) rfl rfl hl.1 rfl (lv_room (Nat.le_of_ble_eq_true rfl)) dX7_take_38 ⟨Nat.le_of_ble_eq_true rfl, Nat.le_of_ble_eq_true rfl⟩) hD hS hA (fun r8 u8 H locs hw8 hP hD hS => ?_)
      obtain ⟨⟨q4, hq4, hr8⟩, hu8⟩ := hw8
      refine lv_asI hr8 ?_
      rw [hu8] at hP hD
      rw [va_uu _ _ _ _] at hP hD
      refine lv_iadd hx hb dX7_take_41 ?_
      refine lv_asI (y := nI (1 + q4)) (nI_add _ _) ?_
      refine lv_istore_n (lv' := [(2, .int (nI (1 + q4))), (1, .int (nI (1 + q2))), (0, .ref (ad 0))]) hx hb dX7_take_42 rfl hl (by decide) rfl (fun ls hl => ?_)
      refine lv_aload_n hx hb dX7_take_43 rfl (lv_at hl 2 rfl) ?_
      refine lv_iload_n hx hb dX7_take_44 rfl (lv_at hl 1 rfl) ?_
      refine lv_iload_n hx hb dX7_take_45 rfl (lv_at hl 0 rfl) ?_
      refine iwg_r (k := N) (va_runV (As := [.int (nI (1 + q2)), .int (nI (1 + q4))]) (rest := []) ⟨hx, hb, hml, hown, hts⟩ (kX7_frame l G (N) ad _ (by omega) sn (isTs_B (isTs_up hts0 (by omega)) (by omega)) (va_us _ _ _) ((va_un _ _ (by omega)).trans (hfl0)) hfl hlp ((va_un _ _ (by omega)).trans (hho)) (1 + q2) (1 + q4) (by omega) _) (cwV 2 hts gX7_take_X7_frame rfl rfl rfl (by decide +kernel) ⟨Nat.le_of_ble_eq_true rfl, Nat.le_of_ble_eq_true rfl⟩) (iPV hK hP hD (by omega) (va_us _ _ _) rfl [.int (nI (1 + q2)), .int (nI (1 + q4))]) rfl rfl hl.1 rfl (lv_room (Nat.le_of_ble_eq_true rfl)) dX7_take_46 ⟨Nat.le_of_ble_eq_true rfl, Nat.le_of_ble_eq_true rfl⟩) hD hS hA (fun ad1 C1 H locs hw8 hP hD hS => ?_)
      dsimp only at hw8
      obtain ⟨e1, c1, f9, hf1⟩ := hw8
      have k1_0 : C1 0 = ob 7 [.ref (ad1 1), .ref b, .int (nI (d + 4)), .ref (ad1 75), .ref (ad1 140), .ref (ad1 141), .ref (ad1 142), .int (nI 0), .ref (ad1 143), .ref (ad1 144), .ref (ad1 145), .ref (ad1 146)] := (c1 _ (by omega)).trans ((va_us _ _ _).trans (by first | (rw [e1 1 (by omega), e1 75 (by omega), e1 140 (by omega), e1 141 (by omega), e1 142 (by omega), e1 143 (by omega), e1 144 (by omega), e1 145 (by omega), e1 146 (by omega)]; done) | (rw [e1 1 (by omega), e1 75 (by omega), e1 140 (by omega), e1 141 (by omega), e1 142 (by omega), e1 143 (by omega), e1 144 (by omega), e1 145 (by omega), e1 146 (by omega)]; rfl)))
      have k1_140 : C1 140 = ia G 3 fl := (c1 _ (by omega)).trans ((va_un _ _ (by omega)).trans (hfl0))
      have k1_141 : C1 141 = ia G 64 (fun _ => nI 0) := (c1 _ (by omega)).trans ((va_un _ _ (by omega)).trans (hho))
      have k1_143 : C1 143 = ra G 5 0 F143 := (c1 _ (by omega)).trans ((va_un _ _ (by omega)).trans (g143))
      have k1_144 : C1 144 = ra G 5 0 F144 := (c1 _ (by omega)).trans ((va_un _ _ (by omega)).trans (g144))
      have k1_145 : C1 145 = ra G 5 0 F145 := (c1 _ (by omega)).trans ((va_un _ _ (by omega)).trans (g145))
      have q1_cam := Cam_gr e1 c1 (by omega) (by omega) (Cam_up hcam (by omega))
      have q1_ts := isTs_gr e1 c1 (by omega) (by omega) (isTs_up hts0 (by omega))
      have ea1 : ∀ j, j < N → ad1 j = ad j := fun j h => e1 j (by omega)
      have ca1 : ∀ j, j < N → 75 < j → C1 j = C j := fun j h hx9 => (c1 j (by omega)).trans ((va_un _ _ (by omega)).trans (rfl))
      have hl : lv_has ls 4 [(2, .int (nI (1 + q4))), (1, .int (nI (1 + q2))), (0, .ref (ad1 0))] := by rw [e1 0 (by omega)]; exact hl
      refine lv_astore_n (lv' := [(3, .ref (ad1 N)), (2, .int (nI (1 + q4))), (1, .int (nI (1 + q2))), (0, .ref (ad1 0))]) hx hb dX7_take_49 rfl hl (by decide) rfl (fun ls hl => ?_)
      refine lv_aload_n hx hb dX7_take_50 rfl (lv_at hl 3 rfl) ?_
      refine lv_aload_n hx hb dX7_take_51 rfl (lv_at hl 0 rfl) ?_
      refine lv_bipush (v := nI 64) hx hb dX7_take_52 (by decide) ?_
      refine iw_iald (v := f9 64) hx hb hK hP (by omega) (hf1) (vp_in_nI (show 64 < 65 by omega) (by omega)) (congrArg f9 (nI_clamp (by omega))) dX7_take_54 ?_
      refine iw_put (ty := .int) hx hb hts iu_X7_take_7 tyX7 tyX7_ok nmX7 hown hK hP hD hS (by omega) (k1_0) rfl 7 (by decide) (hts _ il_X7_take_91) (fun _ h9 => h9) rfl (by decide +kernel) rfl rfl (Nat.le_of_ble_eq_true rfl) rfl dX7_take_55 (fun H locs hP hD hS => ?_)
      refine lv_aload_n hx hb dX7_take_58 rfl (lv_at hl 3 rfl) ?_
      refine lv_aload_n hx hb dX7_take_59 rfl (lv_at hl 3 rfl) ?_
      refine iw_get hx hb hts iu_X7_take_7 hown hK hP (by omega) (va_us _ _ _) rfl 8 (by decide) (hts _ il_X7_take_33) (fun _ h9 => h9) rfl dX7_take_60 ?_
      refine lv_aload_n hx hb dX7_take_63 rfl (lv_at hl 0 rfl) ?_
      refine iwg_r (k := N + 1) (va_runS (As := [.ref (ad1 143), .ref (ad1 N)]) (rest := [.ref (ad1 0)]) ⟨hx, hb, hml, hown, hts⟩ (kX7_plus l G (N + 1) ad1 _ (by omega) (by omega) ((va_un _ _ (by omega)).trans (k1_143)) ((va_un _ _ (by omega)).trans (hf1)) _) (va_cwS 2 hts gX7_take_X7_plus rfl rfl rfl (by decide +kernel) ⟨Nat.le_of_ble_eq_true rfl, Nat.le_of_ble_eq_true rfl⟩) (iPSV hK hV hP hD [.ref (ad1 143), .ref (ad1 N)]) rfl rfl hl.1 rfl (lv_room (Nat.le_of_ble_eq_true rfl)) dX7_take_64 ⟨Nat.le_of_ble_eq_true rfl, Nat.le_of_ble_eq_true rfl⟩) hD hS hA (fun ad2 C2 H locs hw8 hP hD hS => ?_)
      dsimp only at hw8
      obtain ⟨e2, c2, F3, hF32, zF32⟩ := hw8
      have k2_0 : C2 0 = ob 7 [.ref (ad2 1), .ref b, .int (nI (d + 4)), .ref (ad2 75), .ref (ad2 140), .ref (ad2 141), .ref (ad2 142), .int (f9 64), .ref (ad2 143), .ref (ad2 144), .ref (ad2 145), .ref (ad2 146)] := (c2 _ (by omega)).trans ((va_us _ _ _).trans (by first | (rw [e2 1 (by omega), e2 75 (by omega), e2 140 (by omega), e2 141 (by omega), e2 142 (by omega), e2 143 (by omega), e2 144 (by omega), e2 145 (by omega), e2 146 (by omega)]; done) | (rw [e2 1 (by omega), e2 75 (by omega), e2 140 (by omega), e2 141 (by omega), e2 142 (by omega), e2 143 (by omega), e2 144 (by omega), e2 145 (by omega), e2 146 (by omega)]; rfl)))
      have k2_140 : C2 140 = ia G 3 fl := (c2 _ (by omega)).trans ((va_un _ _ (by omega)).trans (k1_140))
      have k2_141 : C2 141 = ia G 64 (fun _ => nI 0) := (c2 _ (by omega)).trans ((va_un _ _ (by omega)).trans (k1_141))
      have k2_143 : C2 143 = ra G 5 0 F143 := (c2 _ (by omega)).trans ((va_un _ _ (by omega)).trans (k1_143))
      have k2_144 : C2 144 = ra G 5 0 F144 := (c2 _ (by omega)).trans ((va_un _ _ (by omega)).trans (k1_144))
      have k2_145 : C2 145 = ra G 5 0 F145 := (c2 _ (by omega)).trans ((va_un _ _ (by omega)).trans (k1_145))
      have k2_N : C2 N = ia G 65 f9 := (c2 _ (by omega)).trans ((va_un _ _ (by omega)).trans (hf1))
      have q2_cam := Cam_gr e2 c2 (by omega) (by omega) (Cam_up q1_cam (by omega))
      have q2_ts := isTs_gr e2 c2 (by omega) (by omega) (isTs_up q1_ts (by omega))
      have ea2 : ∀ j, j < N → ad2 j = ad j := fun j h => (e2 j (by omega)).trans (ea1 j h)
      have ca2 : ∀ j, j < N → 75 < j → C2 j = C j := fun j h hx9 => (c2 j (by omega)).trans ((va_un _ _ (by omega)).trans (ca1 j h hx9))
      have hl : lv_has ls 4 [(3, .ref (ad2 N)), (2, .int (nI (1 + q4))), (1, .int (nI (1 + q2))), (0, .ref (ad2 0))] := by rw [e2 N (by omega), e2 0 (by omega)]; exact hl
      refine W.eq (g2 := F0 m 67 ls [.ref (ad2 (N + 1)), .ref (ad2 0)]) (by first | (rw [e2 0 (by omega)]; done) | (rw [e2 0 (by omega)]; rfl)) ?_
      refine iw_put (ty := .array (.array (.int))) hx hb hts iu_X7_take_7 tyX7 tyX7_ok nmX7 hown hK hP hD hS (by omega) (k2_0) rfl 8 (by decide) (hts _ il_X7_take_33) (fun _ h9 => h9) rfl (by decide +kernel) rfl rfl (Nat.le_of_ble_eq_true rfl) rfl dX7_take_67 (fun H locs hP hD hS => ?_)
      refine lv_aload_n hx hb dX7_take_70 rfl (lv_at hl 3 rfl) ?_
      refine lv_aload_n hx hb dX7_take_71 rfl (lv_at hl 3 rfl) ?_
      refine iw_get hx hb hts iu_X7_take_7 hown hK hP (by omega) (va_us _ _ _) rfl 9 (by decide) (hts _ il_X7_take_36) (fun _ h9 => h9) rfl dX7_take_72 ?_
      refine lv_iconst (v := nI 3) hx hb dX7_take_75 (by decide) ?_
      refine iw_newI (N' := 3) hx hb (hts _ il_X7_take_arrint) hK hP hD hS hA (by decide) (by decide) (Nat.le_of_ble_eq_true rfl) (Nat.le_of_ble_eq_true rfl) (Nat.le_of_ble_eq_true rfl) dX7_take_76 (fun ad3 C3 H e3 c3 n3 hP hD hS => ?_)
      have k3_0 : C3 0 = ob 7 [.ref (ad3 1), .ref b, .int (nI (d + 4)), .ref (ad3 75), .ref (ad3 140), .ref (ad3 141), .ref (ad3 142), .int (f9 64), .ref (ad3 (N + 1)), .ref (ad3 144), .ref (ad3 145), .ref (ad3 146)] := (c3 _ (by omega)).trans ((va_us _ _ _).trans (by first | (rw [e3 1 (by omega), e3 75 (by omega), e3 140 (by omega), e3 141 (by omega), e3 142 (by omega), e3 (N + 1) (by omega), e3 144 (by omega), e3 145 (by omega), e3 146 (by omega)]; done) | (rw [e3 1 (by omega), e3 75 (by omega), e3 140 (by omega), e3 141 (by omega), e3 142 (by omega), e3 (N + 1) (by omega), e3 144 (by omega), e3 145 (by omega), e3 146 (by omega)]; rfl)))
      have k3_140 : C3 140 = ia G 3 fl := (c3 _ (by omega)).trans ((va_un _ _ (by omega)).trans (k2_140))
      have k3_141 : C3 141 = ia G 64 (fun _ => nI 0) := (c3 _ (by omega)).trans ((va_un _ _ (by omega)).trans (k2_141))
      have k3_143 : C3 143 = ra G 5 0 F143 := (c3 _ (by omega)).trans ((va_un _ _ (by omega)).trans (k2_143))
      have k3_144 : C3 144 = ra G 5 0 F144 := (c3 _ (by omega)).trans ((va_un _ _ (by omega)).trans (k2_144))
      have k3_145 : C3 145 = ra G 5 0 F145 := (c3 _ (by omega)).trans ((va_un _ _ (by omega)).trans (k2_145))
      have k3_N : C3 N = ia G 65 f9 := (c3 _ (by omega)).trans ((va_un _ _ (by omega)).trans (k2_N))
      have k3_N_1 : C3 (N + 1) = ra G 5 1 F3 := (c3 _ (by omega)).trans ((va_un _ _ (by omega)).trans (hF32))
      have q3_cam := Cam_gr e3 c3 (by omega) (by omega) (Cam_up q2_cam (by omega))
      have q3_ts := isTs_gr e3 c3 (by omega) (by omega) (isTs_up q2_ts (by omega))
      have ea3 : ∀ j, j < N → ad3 j = ad j := fun j h => (e3 j (by omega)).trans (ea2 j h)
      have ca3 : ∀ j, j < N → 75 < j → C3 j = C j := fun j h hx9 => (c3 j (by omega)).trans ((va_un _ _ (by omega)).trans (ca2 j h hx9))
      have hl : lv_has ls 4 [(3, .ref (ad3 N)), (2, .int (nI (1 + q4))), (1, .int (nI (1 + q2))), (0, .ref (ad3 0))] := by rw [e3 N (by omega), e3 0 (by omega)]; exact hl
      refine W.eq (g2 := F0 m 78 ls [.ref (ad3 (N + 2)), .ref (ad3 144), .ref (ad3 0)]) (by first | (rw [e3 0 (by omega), e3 144 (by omega)]; done) | (rw [e3 0 (by omega), e3 144 (by omega)]; rfl)) ?_
      refine lv_dup hx hb dX7_take_78 rfl ?_
      refine lv_iconst (v := nI 0) hx hb dX7_take_79 (by decide) ?_
      refine lv_iload_n hx hb dX7_take_80 rfl (lv_at hl 2 rfl) ?_
      refine iw_iast hx hb hK hP hD hS (by omega) (n3) (vp_in_nI (show 0 < 3 by omega) (by omega)) (nI_clamp (by omega)) dX7_take_81 (fun H locs hP hD hS => ?_)
      refine lv_dup hx hb dX7_take_82 rfl ?_
      refine lv_iconst (v := nI 1) hx hb dX7_take_83 (by decide) ?_
      refine lv_iload_n hx hb dX7_take_84 rfl (lv_at hl 1 rfl) ?_
      refine iw_iast hx hb hK hP hD hS (by omega) (va_us _ _ _) (vp_in_nI (show 1 < 3 by omega) (by omega)) (nI_clamp (by omega)) dX7_take_85 (fun H locs hP hD hS => ?_)
      rw [va_uu _ _ _ _] at hP hD
      refine lv_dup hx hb dX7_take_86 rfl ?_
      refine lv_iconst (v := nI 2) hx hb dX7_take_87 (by decide) ?_
      refine lv_iconst (v := nI 0) hx hb dX7_take_88 (by decide) ?_
      refine iw_iast hx hb hK hP hD hS (by omega) (va_us _ _ _) (vp_in_nI (show 2 < 3 by omega) (by omega)) (nI_clamp (by omega)) dX7_take_89 (fun H locs hP hD hS => ?_)
      rw [va_uu _ _ _ _] at hP hD
      refine iwg_r (k := N + 3) (va_runS (As := [.ref (ad3 144), .ref (ad3 (N + 2))]) (rest := [.ref (ad3 0)]) ⟨hx, hb, hml, hown, hts⟩ (kX7_plus l G (N + 3) ad3 _ (by omega) (by omega) ((va_un _ _ (by omega)).trans (k3_144)) (va_us _ _ _) _) (va_cwS 2 hts gX7_take_X7_plus rfl rfl rfl (by decide +kernel) ⟨Nat.le_of_ble_eq_true rfl, Nat.le_of_ble_eq_true rfl⟩) (iPSV hK hV hP hD [.ref (ad3 144), .ref (ad3 (N + 2))]) rfl rfl hl.1 rfl (lv_room (Nat.le_of_ble_eq_true rfl)) dX7_take_90 ⟨Nat.le_of_ble_eq_true rfl, Nat.le_of_ble_eq_true rfl⟩) hD hS hA (fun ad4 C4 H locs hw8 hP hD hS => ?_)
      dsimp only at hw8
      obtain ⟨e4, c4, F4, hF44, zF44⟩ := hw8
      have k4_0 : C4 0 = ob 7 [.ref (ad4 1), .ref b, .int (nI (d + 4)), .ref (ad4 75), .ref (ad4 140), .ref (ad4 141), .ref (ad4 142), .int (f9 64), .ref (ad4 (N + 1)), .ref (ad4 144), .ref (ad4 145), .ref (ad4 146)] := (c4 _ (by omega)).trans (((va_un _ _ (by omega)).trans (k3_0)).trans (by first | (rw [e4 1 (by omega), e4 75 (by omega), e4 140 (by omega), e4 141 (by omega), e4 142 (by omega), e4 (N + 1) (by omega), e4 144 (by omega), e4 145 (by omega), e4 146 (by omega)]; done) | (rw [e4 1 (by omega), e4 75 (by omega), e4 140 (by omega), e4 141 (by omega), e4 142 (by omega), e4 (N + 1) (by omega), e4 144 (by omega), e4 145 (by omega), e4 146 (by omega)]; rfl)))
      have k4_140 : C4 140 = ia G 3 fl := (c4 _ (by omega)).trans ((va_un _ _ (by omega)).trans (k3_140))
      have k4_141 : C4 141 = ia G 64 (fun _ => nI 0) := (c4 _ (by omega)).trans ((va_un _ _ (by omega)).trans (k3_141))
      have k4_143 : C4 143 = ra G 5 0 F143 := (c4 _ (by omega)).trans ((va_un _ _ (by omega)).trans (k3_143))
      have k4_144 : C4 144 = ra G 5 0 F144 := (c4 _ (by omega)).trans ((va_un _ _ (by omega)).trans (k3_144))
      have k4_145 : C4 145 = ra G 5 0 F145 := (c4 _ (by omega)).trans ((va_un _ _ (by omega)).trans (k3_145))
      have k4_N : C4 N = ia G 65 f9 := (c4 _ (by omega)).trans ((va_un _ _ (by omega)).trans (k3_N))
      have k4_N_1 : C4 (N + 1) = ra G 5 1 F3 := (c4 _ (by omega)).trans ((va_un _ _ (by omega)).trans (k3_N_1))
      have k4_N_2 : C4 (N + 2) = ia G 3 (upd (upd (upd (fun _ => nI 0) 0 (nI (1 + q2))) 1 (nI (1 + q4))) 2 (nI 0)) := (c4 _ (by omega)).trans (va_us _ _ _)
      have q4_cam := Cam_gr e4 c4 (by omega) (by omega) (Cam_up q3_cam (by omega))
      have q4_ts := isTs_gr e4 c4 (by omega) (by omega) (isTs_up q3_ts (by omega))
      have ea4 : ∀ j, j < N → ad4 j = ad j := fun j h => (e4 j (by omega)).trans (ea3 j h)
      have ca4 : ∀ j, j < N → 75 < j → C4 j = C j := fun j h hx9 => (c4 j (by omega)).trans ((va_un _ _ (by omega)).trans (ca3 j h hx9))
      have hl : lv_has ls 4 [(3, .ref (ad4 N)), (2, .int (nI (1 + q4))), (1, .int (nI (1 + q2))), (0, .ref (ad4 0))] := by rw [e4 N (by omega), e4 0 (by omega)]; exact hl
      refine W.eq (g2 := F0 m 93 ls [.ref (ad4 (N + 3)), .ref (ad4 0)]) (by first | (rw [e4 0 (by omega)]; done) | (rw [e4 0 (by omega)]; rfl)) ?_
      refine iw_put (ty := .array (.array (.int))) hx hb hts iu_X7_take_7 tyX7 tyX7_ok nmX7 hown hK hP hD hS (by omega) (k4_0) rfl 9 (by decide) (hts _ il_X7_take_36) (fun _ h9 => h9) rfl (by decide +kernel) rfl rfl (Nat.le_of_ble_eq_true rfl) rfl dX7_take_93 (fun H locs hP hD hS => ?_)
      refine lv_aload_n hx hb dX7_take_96 rfl (lv_at hl 3 rfl) ?_
      refine lv_aload_n hx hb dX7_take_97 rfl (lv_at hl 3 rfl) ?_
      refine iw_get hx hb hts iu_X7_take_7 hown hK hP (by omega) (va_us _ _ _) rfl 10 (by decide) (hts _ il_X7_take_39) (fun _ h9 => h9) rfl dX7_take_98 ?_
      refine lv_iconst (v := nI 0) hx hb dX7_take_101 (by decide) ?_
      refine iw_newI (N' := 0) hx hb (hts _ il_X7_take_arrint) hK hP hD hS hA (by decide) (by decide) (Nat.le_of_ble_eq_true rfl) (Nat.le_of_ble_eq_true rfl) (Nat.le_of_ble_eq_true rfl) dX7_take_102 (fun ad5 C5 H e5 c5 n5 hP hD hS => ?_)
      have k5_0 : C5 0 = ob 7 [.ref (ad5 1), .ref b, .int (nI (d + 4)), .ref (ad5 75), .ref (ad5 140), .ref (ad5 141), .ref (ad5 142), .int (f9 64), .ref (ad5 (N + 1)), .ref (ad5 (N + 3)), .ref (ad5 145), .ref (ad5 146)] := (c5 _ (by omega)).trans ((va_us _ _ _).trans (by first | (rw [e5 1 (by omega), e5 75 (by omega), e5 140 (by omega), e5 141 (by omega), e5 142 (by omega), e5 (N + 1) (by omega), e5 (N + 3) (by omega), e5 145 (by omega), e5 146 (by omega)]; done) | (rw [e5 1 (by omega), e5 75 (by omega), e5 140 (by omega), e5 141 (by omega), e5 142 (by omega), e5 (N + 1) (by omega), e5 (N + 3) (by omega), e5 145 (by omega), e5 146 (by omega)]; rfl)))
      have k5_140 : C5 140 = ia G 3 fl := (c5 _ (by omega)).trans ((va_un _ _ (by omega)).trans (k4_140))
      have k5_141 : C5 141 = ia G 64 (fun _ => nI 0) := (c5 _ (by omega)).trans ((va_un _ _ (by omega)).trans (k4_141))
      have k5_143 : C5 143 = ra G 5 0 F143 := (c5 _ (by omega)).trans ((va_un _ _ (by omega)).trans (k4_143))
      have k5_144 : C5 144 = ra G 5 0 F144 := (c5 _ (by omega)).trans ((va_un _ _ (by omega)).trans (k4_144))
      have k5_145 : C5 145 = ra G 5 0 F145 := (c5 _ (by omega)).trans ((va_un _ _ (by omega)).trans (k4_145))
      have k5_N : C5 N = ia G 65 f9 := (c5 _ (by omega)).trans ((va_un _ _ (by omega)).trans (k4_N))
      have k5_N_1 : C5 (N + 1) = ra G 5 1 F3 := (c5 _ (by omega)).trans ((va_un _ _ (by omega)).trans (k4_N_1))
      have k5_N_2 : C5 (N + 2) = ia G 3 (upd (upd (upd (fun _ => nI 0) 0 (nI (1 + q2))) 1 (nI (1 + q4))) 2 (nI 0)) := (c5 _ (by omega)).trans ((va_un _ _ (by omega)).trans (k4_N_2))
      have k5_N_3 : C5 (N + 3) = ra G 5 1 F4 := (c5 _ (by omega)).trans ((va_un _ _ (by omega)).trans (hF44))
      have q5_cam := Cam_gr e5 c5 (by omega) (by omega) (Cam_up q4_cam (by omega))
      have q5_ts := isTs_gr e5 c5 (by omega) (by omega) (isTs_up q4_ts (by omega))
      have ea5 : ∀ j, j < N → ad5 j = ad j := fun j h => (e5 j (by omega)).trans (ea4 j h)
      have ca5 : ∀ j, j < N → 75 < j → C5 j = C j := fun j h hx9 => (c5 j (by omega)).trans ((va_un _ _ (by omega)).trans (ca4 j h hx9))
      have hl : lv_has ls 4 [(3, .ref (ad5 N)), (2, .int (nI (1 + q4))), (1, .int (nI (1 + q2))), (0, .ref (ad5 0))] := by rw [e5 N (by omega), e5 0 (by omega)]; exact hl
      refine W.eq (g2 := F0 m 104 ls [.ref (ad5 (N + 4)), .ref (ad5 145), .ref (ad5 0)]) (by first | (rw [e5 0 (by omega), e5 145 (by omega)]; done) | (rw [e5 0 (by omega), e5 145 (by omega)]; rfl)) ?_
      refine iwg_r (k := N + 5) (va_runS (As := [.ref (ad5 145), .ref (ad5 (N + 4))]) (rest := [.ref (ad5 0)]) ⟨hx, hb, hml, hown, hts⟩ (kX7_plus l G (N + 5) ad5 _ (by omega) (by omega) (k5_145) (n5) _) (va_cwS 2 hts gX7_take_X7_plus rfl rfl rfl (by decide +kernel) ⟨Nat.le_of_ble_eq_true rfl, Nat.le_of_ble_eq_true rfl⟩) (iPSV hK hV hP hD [.ref (ad5 145), .ref (ad5 (N + 4))]) rfl rfl hl.1 rfl (lv_room (Nat.le_of_ble_eq_true rfl)) dX7_take_104 ⟨Nat.le_of_ble_eq_true rfl, Nat.le_of_ble_eq_true rfl⟩) hD hS hA (fun ad6 C6 H locs hw8 hP hD hS => ?_)
      dsimp only at hw8
      obtain ⟨e6, c6, F5, hF56, zF56⟩ := hw8
      have k6_0 : C6 0 = ob 7 [.ref (ad6 1), .ref b, .int (nI (d + 4)), .ref (ad6 75), .ref (ad6 140), .ref (ad6 141), .ref (ad6 142), .int (f9 64), .ref (ad6 (N + 1)), .ref (ad6 (N + 3)), .ref (ad6 145), .ref (ad6 146)] := (c6 _ (by omega)).trans ((k5_0).trans (by first | (rw [e6 1 (by omega), e6 75 (by omega), e6 140 (by omega), e6 141 (by omega), e6 142 (by omega), e6 (N + 1) (by omega), e6 (N + 3) (by omega), e6 145 (by omega), e6 146 (by omega)]; done) | (rw [e6 1 (by omega), e6 75 (by omega), e6 140 (by omega), e6 141 (by omega), e6 142 (by omega), e6 (N + 1) (by omega), e6 (N + 3) (by omega), e6 145 (by omega), e6 146 (by omega)]; rfl)))
      have k6_140 : C6 140 = ia G 3 fl := (c6 _ (by omega)).trans (k5_140)
      have k6_141 : C6 141 = ia G 64 (fun _ => nI 0) := (c6 _ (by omega)).trans (k5_141)
      have k6_143 : C6 143 = ra G 5 0 F143 := (c6 _ (by omega)).trans (k5_143)
      have k6_144 : C6 144 = ra G 5 0 F144 := (c6 _ (by omega)).trans (k5_144)
      have k6_145 : C6 145 = ra G 5 0 F145 := (c6 _ (by omega)).trans (k5_145)
      have k6_N : C6 N = ia G 65 f9 := (c6 _ (by omega)).trans (k5_N)
      have k6_N_1 : C6 (N + 1) = ra G 5 1 F3 := (c6 _ (by omega)).trans (k5_N_1)
      have k6_N_2 : C6 (N + 2) = ia G 3 (upd (upd (upd (fun _ => nI 0) 0 (nI (1 + q2))) 1 (nI (1 + q4))) 2 (nI 0)) := (c6 _ (by omega)).trans (k5_N_2)
      have k6_N_3 : C6 (N + 3) = ra G 5 1 F4 := (c6 _ (by omega)).trans (k5_N_3)
      have k6_N_4 : C6 (N + 4) = ia G 0 (fun _ => nI 0) := (c6 _ (by omega)).trans (n5)
      have q6_cam := Cam_gr e6 c6 (by omega) (by omega) q5_cam
      have q6_ts := isTs_gr e6 c6 (by omega) (by omega) q5_ts
      have ea6 : ∀ j, j < N → ad6 j = ad j := fun j h => (e6 j (by omega)).trans (ea5 j h)
      have ca6 : ∀ j, j < N → 75 < j → C6 j = C j := fun j h hx9 => (c6 j (by omega)).trans (ca5 j h hx9)
      have hl : lv_has ls 4 [(3, .ref (ad6 N)), (2, .int (nI (1 + q4))), (1, .int (nI (1 + q2))), (0, .ref (ad6 0))] := by rw [e6 N (by omega), e6 0 (by omega)]; exact hl
      refine W.eq (g2 := F0 m 107 ls [.ref (ad6 (N + 5)), .ref (ad6 0)]) (by first | (rw [e6 0 (by omega)]; done) | (rw [e6 0 (by omega)]; rfl)) ?_
      have zz : F5 0 = some (ad6 (N + 4)) := zF56.trans (congrArg some (e6 _ (by omega)).symm)
      refine iw_put (ty := .array (.array (.int))) hx hb hts iu_X7_take_7 tyX7 tyX7_ok nmX7 hown hK hP hD hS (by omega) (k6_0) rfl 10 (by decide) (hts _ il_X7_take_39) (fun _ h9 => h9) rfl (by decide +kernel) rfl rfl (Nat.le_of_ble_eq_true rfl) rfl dX7_take_107 (fun H locs hP hD hS => ?_)
      refine lv_aload_n hx hb dX7_take_110 rfl (lv_at hl 3 rfl) ?_
      refine iw_get hx hb hts iu_X7_take_7 hown hK hP (by omega) (va_us _ _ _) rfl 0 (by decide) (hts _ il_X7_take_10) (fun _ h9 => h9) rfl dX7_take_111 ?_
      refine lv_iload_n hx hb dX7_take_114 rfl (lv_at hl 2 rfl) ?_
      refine lv_iload_n hx hb dX7_take_115 rfl (lv_at hl 1 rfl) ?_
      refine iw_i (va_runV (As := [.int (nI (1 + q2)), .int (nI (1 + q4))]) (rest := []) ⟨hx, hb, hml, hown, hts⟩ (kX6_take l G (N + 6) ad6 _ 1 S (Cam_N (Cam_up q6_cam (by omega)) (by omega)) (1 + q2) (1 + q4) ⟨by omega, by omega⟩ ⟨by omega, by omega⟩ (by omega) _) (cwV 2 hts gX7_take_X6_take rfl rfl rfl (by decide +kernel) ⟨Nat.le_of_ble_eq_true rfl, Nat.le_of_ble_eq_true rfl⟩) (iPV hK hP hD (by omega) ((va_un _ _ (by omega)).trans (q6_cam.2.2.1)) rfl [.int (nI (1 + q2)), .int (nI (1 + q4))]) rfl rfl hl.1 rfl (lv_room (Nat.le_of_ble_eq_true rfl)) dX7_take_116 ⟨Nat.le_of_ble_eq_true rfl, Nat.le_of_ble_eq_true rfl⟩) hD hS hA (fun r8 u8 H locs hw8 hP hD hS => ?_)
      obtain ⟨hr8, hc8, hs8⟩ := hw8
      refine lv_asI hr8 ?_
      obtain ⟨V1, rfl⟩ : ∃ V, V = u8 := ⟨_, rfl⟩
      have k7_0 : V1 0 = ob 7 [.ref (ad6 1), .ref b, .int (nI (d + 4)), .ref (ad6 75), .ref (ad6 140), .ref (ad6 141), .ref (ad6 142), .int (f9 64), .ref (ad6 (N + 1)), .ref (ad6 (N + 3)), .ref (ad6 (N + 5)), .ref (ad6 146)] := (hs8 _ (by omega)).trans (va_us _ _ _)
      have k7_140 : V1 140 = ia G 3 fl := (hs8 _ (by omega)).trans ((va_un _ _ (by omega)).trans (k6_140))
      have k7_141 : V1 141 = ia G 64 (fun _ => nI 0) := (hs8 _ (by omega)).trans ((va_un _ _ (by omega)).trans (k6_141))
      have k7_143 : V1 143 = ra G 5 0 F143 := (hs8 _ (by omega)).trans ((va_un _ _ (by omega)).trans (k6_143))
      have k7_144 : V1 144 = ra G 5 0 F144 := (hs8 _ (by omega)).trans ((va_un _ _ (by omega)).trans (k6_144))
      have k7_145 : V1 145 = ra G 5 0 F145 := (hs8 _ (by omega)).trans ((va_un _ _ (by omega)).trans (k6_145))
      have k7_N : V1 N = ia G 65 f9 := (hs8 _ (by omega)).trans ((va_un _ _ (by omega)).trans (k6_N))
      have k7_N_1 : V1 (N + 1) = ra G 5 1 F3 := (hs8 _ (by omega)).trans ((va_un _ _ (by omega)).trans (k6_N_1))
      have k7_N_2 : V1 (N + 2) = ia G 3 (upd (upd (upd (fun _ => nI 0) 0 (nI (1 + q2))) 1 (nI (1 + q4))) 2 (nI 0)) := (hs8 _ (by omega)).trans ((va_un _ _ (by omega)).trans (k6_N_2))
      have k7_N_3 : V1 (N + 3) = ra G 5 1 F4 := (hs8 _ (by omega)).trans ((va_un _ _ (by omega)).trans (k6_N_3))
      have k7_N_4 : V1 (N + 4) = ia G 0 (fun _ => nI 0) := (hs8 _ (by omega)).trans ((va_un _ _ (by omega)).trans (k6_N_4))
      have k7_N_5 : V1 (N + 5) = ra G 5 1 F5 := (hs8 _ (by omega)).trans ((va_un _ _ (by omega)).trans (hF56))
      have q7_ts := isTs_cam hs8 (by omega) (isTs_up q6_ts (by omega))
      have q7_cam := hc8
      have ea7 : ∀ j, j < N → ad6 j = ad j := ea6
      have ca7 : ∀ j, j < N → 75 < j → V1 j = C j := fun j h hx9 => (hs8 j (by omega)).trans ((va_un _ _ (by omega)).trans (ca6 j h hx9))
      refine lv_asI (y := nI 0) (by rw [hfn0]) ?_
      refine lv_aload_n hx hb dX7_take_119 rfl (lv_at hl 3 rfl) ?_
      refine iw_get hx hb hts iu_X7_take_7 hown hK hP (by omega) (k7_0) rfl 8 (by decide) (hts _ il_X7_take_33) (fun _ h9 => h9) rfl dX7_take_120 ?_
      refine iw_alenG (v := nI 1) hx hb hK hP (by omega) (k7_N_1) rfl dX7_take_123 ?_
      refine lv_iconst (v := nI 1) hx hb dX7_take_124 (by decide) ?_
      refine lv_isub hx hb dX7_take_125 ?_
      refine lv_asI (y := nI (1 - 1)) (pk_sub (by omega)) ?_
      refine lv_icmp_ne (tgt := 133) hx hb dX7_take_126 (by decide) (fun c9 => absurd (rfl) c9) (fun _ => ?_)
      refine lv_iconst (v := nI 1) hx hb dX7_take_129 (by decide) ?_
      refine lv_goto (tgt := 134) hx hb dX7_take_130 (by decide) ?_
      refine W.widen (k := 6) (n := 71) (Nat.le_of_ble_eq_true rfl) (Nat.le_of_ble_eq_true rfl) ?_
      have z_0 : (V1) 0 = ob 7 [.ref (ad6 1), .ref b, .int (nI (d + 4)), .ref (ad6 75), .ref (ad6 140), .ref (ad6 141), .ref (ad6 142), .int (f9 64), .ref (ad6 (N + 1)), .ref (ad6 (N + 3)), .ref (ad6 (N + 5)), .ref (ad6 146)] := k7_0
      have z_N_5 : (V1) (N + 5) = ra G 5 1 F5 := k7_N_5
      have z_N_4 : (V1) (N + 4) = ia G 0 (fun _ => nI 0) := k7_N_4
      exact W.zret (v := (nI 1)) (ty := .boolean) hx hb hr (by decide) (fun t ht hW => ⟨⟨_, (ad6, V1), rfl, ⟨rfl, ⟨ea7, fun j h hx9 => ca7 j h hx9, ⟨(1 + q2), (1 + q4), ⟨by omega, by omega⟩, ⟨by omega, by omega⟩, (Cam_N q7_cam (by omega)), q7_ts, ⟨f9 64, z_0⟩, F5, fun _ => nI 0, z_N_5, fun i hi => by rw [show i = 0 by omega]; exact zz, z_N_4⟩⟩⟩, ⟨by rw [ht]; exact hP, hD⟩⟩, hS.F ht⟩) hS.2.2 dX7_take_134
    · refine lv_bipush (v := nI 8) hx hb dX7_take_32 (by decide) ?_
      refine lv_goto (tgt := 38) hx hb dX7_take_34 (by decide) ?_
      refine iw_i (va_runV (As := [.int (nI 8)]) (rest := [.int (nI 1)]) ⟨hx, hb, hml, hown, hts⟩ (kX7_draw l G (N) ad _ b L xs (t := 0) (by omega) (8) (by omega) (d + 3) (by omega) (va_us _ _ _) _) (cwV 1 hts gX7_take_X7_draw rfl rfl rfl (by decide +kernel) ⟨Nat.le_of_ble_eq_true rfl, Nat.le_of_ble_eq_true rfl⟩) (iPVX hK hV hX hbA hS hP hD (by omega) (va_us _ _ _) rfl [.int (nI 8)]) rfl rfl hl.1 rfl (lv_room (Nat.le_of_ble_eq_true rfl)) dX7_take_38 ⟨Nat.le_of_ble_eq_true rfl, Nat.le_of_ble_eq_true rfl⟩) hD hS hA (fun r8 u8 H locs hw8 hP hD hS => ?_)
      obtain ⟨⟨q4, hq4, hr8⟩, hu8⟩ := hw8
      refine lv_asI hr8 ?_
      rw [hu8] at hP hD
      rw [va_uu _ _ _ _] at hP hD
      refine lv_iadd hx hb dX7_take_41 ?_
      refine lv_asI (y := nI (1 + q4)) (nI_add _ _) ?_
      refine lv_istore_n (lv' := [(2, .int (nI (1 + q4))), (1, .int (nI (1 + q2))), (0, .ref (ad 0))]) hx hb dX7_take_42 rfl hl (by decide) rfl (fun ls hl => ?_)
      refine lv_aload_n hx hb dX7_take_43 rfl (lv_at hl 2 rfl) ?_
      refine lv_iload_n hx hb dX7_take_44 rfl (lv_at hl 1 rfl) ?_
      refine lv_iload_n hx hb dX7_take_45 rfl (lv_at hl 0 rfl) ?_
      refine iwg_r (k := N) (va_runV (As := [.int (nI (1 + q2)), .int (nI (1 + q4))]) (rest := []) ⟨hx, hb, hml, hown, hts⟩ (kX7_frame l G (N) ad _ (by omega) sn (isTs_B (isTs_up hts0 (by omega)) (by omega)) (va_us _ _ _) ((va_un _ _ (by omega)).trans (hfl0)) hfl hlp ((va_un _ _ (by omega)).trans (hho)) (1 + q2) (1 + q4) (by omega) _) (cwV 2 hts gX7_take_X7_frame rfl rfl rfl (by decide +kernel) ⟨Nat.le_of_ble_eq_true rfl, Nat.le_of_ble_eq_true rfl⟩) (iPV hK hP hD (by omega) (va_us _ _ _) rfl [.int (nI (1 + q2)), .int (nI (1 + q4))]) rfl rfl hl.1 rfl (lv_room (Nat.le_of_ble_eq_true rfl)) dX7_take_46 ⟨Nat.le_of_ble_eq_true rfl, Nat.le_of_ble_eq_true rfl⟩) hD hS hA (fun ad1 C1 H locs hw8 hP hD hS => ?_)
      dsimp only at hw8
      obtain ⟨e1, c1, f9, hf1⟩ := hw8
      have k1_0 : C1 0 = ob 7 [.ref (ad1 1), .ref b, .int (nI (d + 4)), .ref (ad1 75), .ref (ad1 140), .ref (ad1 141), .ref (ad1 142), .int (nI 0), .ref (ad1 143), .ref (ad1 144), .ref (ad1 145), .ref (ad1 146)] := (c1 _ (by omega)).trans ((va_us _ _ _).trans (by first | (rw [e1 1 (by omega), e1 75 (by omega), e1 140 (by omega), e1 141 (by omega), e1 142 (by omega), e1 143 (by omega), e1 144 (by omega), e1 145 (by omega), e1 146 (by omega)]; done) | (rw [e1 1 (by omega), e1 75 (by omega), e1 140 (by omega), e1 141 (by omega), e1 142 (by omega), e1 143 (by omega), e1 144 (by omega), e1 145 (by omega), e1 146 (by omega)]; rfl)))
      have k1_140 : C1 140 = ia G 3 fl := (c1 _ (by omega)).trans ((va_un _ _ (by omega)).trans (hfl0))
      have k1_141 : C1 141 = ia G 64 (fun _ => nI 0) := (c1 _ (by omega)).trans ((va_un _ _ (by omega)).trans (hho))
      have k1_143 : C1 143 = ra G 5 0 F143 := (c1 _ (by omega)).trans ((va_un _ _ (by omega)).trans (g143))
      have k1_144 : C1 144 = ra G 5 0 F144 := (c1 _ (by omega)).trans ((va_un _ _ (by omega)).trans (g144))
      have k1_145 : C1 145 = ra G 5 0 F145 := (c1 _ (by omega)).trans ((va_un _ _ (by omega)).trans (g145))
      have q1_cam := Cam_gr e1 c1 (by omega) (by omega) (Cam_up hcam (by omega))
      have q1_ts := isTs_gr e1 c1 (by omega) (by omega) (isTs_up hts0 (by omega))
      have ea1 : ∀ j, j < N → ad1 j = ad j := fun j h => e1 j (by omega)
      have ca1 : ∀ j, j < N → 75 < j → C1 j = C j := fun j h hx9 => (c1 j (by omega)).trans ((va_un _ _ (by omega)).trans (rfl))
      have hl : lv_has ls 4 [(2, .int (nI (1 + q4))), (1, .int (nI (1 + q2))), (0, .ref (ad1 0))] := by rw [e1 0 (by omega)]; exact hl
      refine lv_astore_n (lv' := [(3, .ref (ad1 N)), (2, .int (nI (1 + q4))), (1, .int (nI (1 + q2))), (0, .ref (ad1 0))]) hx hb dX7_take_49 rfl hl (by decide) rfl (fun ls hl => ?_)
      refine lv_aload_n hx hb dX7_take_50 rfl (lv_at hl 3 rfl) ?_
      refine lv_aload_n hx hb dX7_take_51 rfl (lv_at hl 0 rfl) ?_
      refine lv_bipush (v := nI 64) hx hb dX7_take_52 (by decide) ?_
      refine iw_iald (v := f9 64) hx hb hK hP (by omega) (hf1) (vp_in_nI (show 64 < 65 by omega) (by omega)) (congrArg f9 (nI_clamp (by omega))) dX7_take_54 ?_
      refine iw_put (ty := .int) hx hb hts iu_X7_take_7 tyX7 tyX7_ok nmX7 hown hK hP hD hS (by omega) (k1_0) rfl 7 (by decide) (hts _ il_X7_take_91) (fun _ h9 => h9) rfl (by decide +kernel) rfl rfl (Nat.le_of_ble_eq_true rfl) rfl dX7_take_55 (fun H locs hP hD hS => ?_)
      refine lv_aload_n hx hb dX7_take_58 rfl (lv_at hl 3 rfl) ?_
      refine lv_aload_n hx hb dX7_take_59 rfl (lv_at hl 3 rfl) ?_
      refine iw_get hx hb hts iu_X7_take_7 hown hK hP (by omega) (va_us _ _ _) rfl 8 (by decide) (hts _ il_X7_take_33) (fun _ h9 => h9) rfl dX7_take_60 ?_
      refine lv_aload_n hx hb dX7_take_63 rfl (lv_at hl 0 rfl) ?_
      refine iwg_r (k := N + 1) (va_runS (As := [.ref (ad1 143), .ref (ad1 N)]) (rest := [.ref (ad1 0)]) ⟨hx, hb, hml, hown, hts⟩ (kX7_plus l G (N + 1) ad1 _ (by omega) (by omega) ((va_un _ _ (by omega)).trans (k1_143)) ((va_un _ _ (by omega)).trans (hf1)) _) (va_cwS 2 hts gX7_take_X7_plus rfl rfl rfl (by decide +kernel) ⟨Nat.le_of_ble_eq_true rfl, Nat.le_of_ble_eq_true rfl⟩) (iPSV hK hV hP hD [.ref (ad1 143), .ref (ad1 N)]) rfl rfl hl.1 rfl (lv_room (Nat.le_of_ble_eq_true rfl)) dX7_take_64 ⟨Nat.le_of_ble_eq_true rfl, Nat.le_of_ble_eq_true rfl⟩) hD hS hA (fun ad2 C2 H locs hw8 hP hD hS => ?_)
      dsimp only at hw8
      obtain ⟨e2, c2, F3, hF32, zF32⟩ := hw8
      have k2_0 : C2 0 = ob 7 [.ref (ad2 1), .ref b, .int (nI (d + 4)), .ref (ad2 75), .ref (ad2 140), .ref (ad2 141), .ref (ad2 142), .int (f9 64), .ref (ad2 143), .ref (ad2 144), .ref (ad2 145), .ref (ad2 146)] := (c2 _ (by omega)).trans ((va_us _ _ _).trans (by first | (rw [e2 1 (by omega), e2 75 (by omega), e2 140 (by omega), e2 141 (by omega), e2 142 (by omega), e2 143 (by omega), e2 144 (by omega), e2 145 (by omega), e2 146 (by omega)]; done) | (rw [e2 1 (by omega), e2 75 (by omega), e2 140 (by omega), e2 141 (by omega), e2 142 (by omega), e2 143 (by omega), e2 144 (by omega), e2 145 (by omega), e2 146 (by omega)]; rfl)))
      have k2_140 : C2 140 = ia G 3 fl := (c2 _ (by omega)).trans ((va_un _ _ (by omega)).trans (k1_140))
      have k2_141 : C2 141 = ia G 64 (fun _ => nI 0) := (c2 _ (by omega)).trans ((va_un _ _ (by omega)).trans (k1_141))
      have k2_143 : C2 143 = ra G 5 0 F143 := (c2 _ (by omega)).trans ((va_un _ _ (by omega)).trans (k1_143))
      have k2_144 : C2 144 = ra G 5 0 F144 := (c2 _ (by omega)).trans ((va_un _ _ (by omega)).trans (k1_144))
      have k2_145 : C2 145 = ra G 5 0 F145 := (c2 _ (by omega)).trans ((va_un _ _ (by omega)).trans (k1_145))
      have k2_N : C2 N = ia G 65 f9 := (c2 _ (by omega)).trans ((va_un _ _ (by omega)).trans (hf1))
      have q2_cam := Cam_gr e2 c2 (by omega) (by omega) (Cam_up q1_cam (by omega))
      have q2_ts := isTs_gr e2 c2 (by omega) (by omega) (isTs_up q1_ts (by omega))
      have ea2 : ∀ j, j < N → ad2 j = ad j := fun j h => (e2 j (by omega)).trans (ea1 j h)
      have ca2 : ∀ j, j < N → 75 < j → C2 j = C j := fun j h hx9 => (c2 j (by omega)).trans ((va_un _ _ (by omega)).trans (ca1 j h hx9))
      have hl : lv_has ls 4 [(3, .ref (ad2 N)), (2, .int (nI (1 + q4))), (1, .int (nI (1 + q2))), (0, .ref (ad2 0))] := by rw [e2 N (by omega), e2 0 (by omega)]; exact hl
      refine W.eq (g2 := F0 m 67 ls [.ref (ad2 (N + 1)), .ref (ad2 0)]) (by first | (rw [e2 0 (by omega)]; done) | (rw [e2 0 (by omega)]; rfl)) ?_
      refine iw_put (ty := .array (.array (.int))) hx hb hts iu_X7_take_7 tyX7 tyX7_ok nmX7 hown hK hP hD hS (by omega) (k2_0) rfl 8 (by decide) (hts _ il_X7_take_33) (fun _ h9 => h9) rfl (by decide +kernel) rfl rfl (Nat.le_of_ble_eq_true rfl) rfl dX7_take_67 (fun H locs hP hD hS => ?_)
      refine lv_aload_n hx hb dX7_take_70 rfl (lv_at hl 3 rfl) ?_
      refine lv_aload_n hx hb dX7_take_71 rfl (lv_at hl 3 rfl) ?_
      refine iw_get hx hb hts iu_X7_take_7 hown hK hP (by omega) (va_us _ _ _) rfl 9 (by decide) (hts _ il_X7_take_36) (fun _ h9 => h9) rfl dX7_take_72 ?_
      refine lv_iconst (v := nI 3) hx hb dX7_take_75 (by decide) ?_
      refine iw_newI (N' := 3) hx hb (hts _ il_X7_take_arrint) hK hP hD hS hA (by decide) (by decide) (Nat.le_of_ble_eq_true rfl) (Nat.le_of_ble_eq_true rfl) (Nat.le_of_ble_eq_true rfl) dX7_take_76 (fun ad3 C3 H e3 c3 n3 hP hD hS => ?_)
      have k3_0 : C3 0 = ob 7 [.ref (ad3 1), .ref b, .int (nI (d + 4)), .ref (ad3 75), .ref (ad3 140), .ref (ad3 141), .ref (ad3 142), .int (f9 64), .ref (ad3 (N + 1)), .ref (ad3 144), .ref (ad3 145), .ref (ad3 146)] := (c3 _ (by omega)).trans ((va_us _ _ _).trans (by first | (rw [e3 1 (by omega), e3 75 (by omega), e3 140 (by omega), e3 141 (by omega), e3 142 (by omega), e3 (N + 1) (by omega), e3 144 (by omega), e3 145 (by omega), e3 146 (by omega)]; done) | (rw [e3 1 (by omega), e3 75 (by omega), e3 140 (by omega), e3 141 (by omega), e3 142 (by omega), e3 (N + 1) (by omega), e3 144 (by omega), e3 145 (by omega), e3 146 (by omega)]; rfl)))
      have k3_140 : C3 140 = ia G 3 fl := (c3 _ (by omega)).trans ((va_un _ _ (by omega)).trans (k2_140))
      have k3_141 : C3 141 = ia G 64 (fun _ => nI 0) := (c3 _ (by omega)).trans ((va_un _ _ (by omega)).trans (k2_141))
      have k3_143 : C3 143 = ra G 5 0 F143 := (c3 _ (by omega)).trans ((va_un _ _ (by omega)).trans (k2_143))
      have k3_144 : C3 144 = ra G 5 0 F144 := (c3 _ (by omega)).trans ((va_un _ _ (by omega)).trans (k2_144))
      have k3_145 : C3 145 = ra G 5 0 F145 := (c3 _ (by omega)).trans ((va_un _ _ (by omega)).trans (k2_145))
      have k3_N : C3 N = ia G 65 f9 := (c3 _ (by omega)).trans ((va_un _ _ (by omega)).trans (k2_N))
      have k3_N_1 : C3 (N + 1) = ra G 5 1 F3 := (c3 _ (by omega)).trans ((va_un _ _ (by omega)).trans (hF32))
      have q3_cam := Cam_gr e3 c3 (by omega) (by omega) (Cam_up q2_cam (by omega))
      have q3_ts := isTs_gr e3 c3 (by omega) (by omega) (isTs_up q2_ts (by omega))
      have ea3 : ∀ j, j < N → ad3 j = ad j := fun j h => (e3 j (by omega)).trans (ea2 j h)
      have ca3 : ∀ j, j < N → 75 < j → C3 j = C j := fun j h hx9 => (c3 j (by omega)).trans ((va_un _ _ (by omega)).trans (ca2 j h hx9))
      have hl : lv_has ls 4 [(3, .ref (ad3 N)), (2, .int (nI (1 + q4))), (1, .int (nI (1 + q2))), (0, .ref (ad3 0))] := by rw [e3 N (by omega), e3 0 (by omega)]; exact hl
      refine W.eq (g2 := F0 m 78 ls [.ref (ad3 (N + 2)), .ref (ad3 144), .ref (ad3 0)]) (by first | (rw [e3 0 (by omega), e3 144 (by omega)]; done) | (rw [e3 0 (by omega), e3 144 (by omega)]; rfl)) ?_
      refine lv_dup hx hb dX7_take_78 rfl ?_
      refine lv_iconst (v := nI 0) hx hb dX7_take_79 (by decide) ?_
      refine lv_iload_n hx hb dX7_take_80 rfl (lv_at hl 2 rfl) ?_
      refine iw_iast hx hb hK hP hD hS (by omega) (n3) (vp_in_nI (show 0 < 3 by omega) (by omega)) (nI_clamp (by omega)) dX7_take_81 (fun H locs hP hD hS => ?_)
      refine lv_dup hx hb dX7_take_82 rfl ?_
      refine lv_iconst (v := nI 1) hx hb dX7_take_83 (by decide) ?_
      refine lv_iload_n hx hb dX7_take_84 rfl (lv_at hl 1 rfl) ?_
      refine iw_iast hx hb hK hP hD hS (by omega) (va_us _ _ _) (vp_in_nI (show 1 < 3 by omega) (by omega)) (nI_clamp (by omega)) dX7_take_85 (fun H locs hP hD hS => ?_)
      rw [va_uu _ _ _ _] at hP hD
      refine lv_dup hx hb dX7_take_86 rfl ?_
      refine lv_iconst (v := nI 2) hx hb dX7_take_87 (by decide) ?_
      refine lv_iconst (v := nI 0) hx hb dX7_take_88 (by decide) ?_
      refine iw_iast hx hb hK hP hD hS (by omega) (va_us _ _ _) (vp_in_nI (show 2 < 3 by omega) (by omega)) (nI_clamp (by omega)) dX7_take_89 (fun H locs hP hD hS => ?_)
      rw [va_uu _ _ _ _] at hP hD
      refine iwg_r (k := N + 3) (va_runS (As := [.ref (ad3 144), .ref (ad3 (N + 2))]) (rest := [.ref (ad3 0)]) ⟨hx, hb, hml, hown, hts⟩ (kX7_plus l G (N + 3) ad3 _ (by omega) (by omega) ((va_un _ _ (by omega)).trans (k3_144)) (va_us _ _ _) _) (va_cwS 2 hts gX7_take_X7_plus rfl rfl rfl (by decide +kernel) ⟨Nat.le_of_ble_eq_true rfl, Nat.le_of_ble_eq_true rfl⟩) (iPSV hK hV hP hD [.ref (ad3 144), .ref (ad3 (N + 2))]) rfl rfl hl.1 rfl (lv_room (Nat.le_of_ble_eq_true rfl)) dX7_take_90 ⟨Nat.le_of_ble_eq_true rfl, Nat.le_of_ble_eq_true rfl⟩) hD hS hA (fun ad4 C4 H locs hw8 hP hD hS => ?_)
      dsimp only at hw8
      obtain ⟨e4, c4, F4, hF44, zF44⟩ := hw8
      have k4_0 : C4 0 = ob 7 [.ref (ad4 1), .ref b, .int (nI (d + 4)), .ref (ad4 75), .ref (ad4 140), .ref (ad4 141), .ref (ad4 142), .int (f9 64), .ref (ad4 (N + 1)), .ref (ad4 144), .ref (ad4 145), .ref (ad4 146)] := (c4 _ (by omega)).trans (((va_un _ _ (by omega)).trans (k3_0)).trans (by first | (rw [e4 1 (by omega), e4 75 (by omega), e4 140 (by omega), e4 141 (by omega), e4 142 (by omega), e4 (N + 1) (by omega), e4 144 (by omega), e4 145 (by omega), e4 146 (by omega)]; done) | (rw [e4 1 (by omega), e4 75 (by omega), e4 140 (by omega), e4 141 (by omega), e4 142 (by omega), e4 (N + 1) (by omega), e4 144 (by omega), e4 145 (by omega), e4 146 (by omega)]; rfl)))
      have k4_140 : C4 140 = ia G 3 fl := (c4 _ (by omega)).trans ((va_un _ _ (by omega)).trans (k3_140))
      have k4_141 : C4 141 = ia G 64 (fun _ => nI 0) := (c4 _ (by omega)).trans ((va_un _ _ (by omega)).trans (k3_141))
      have k4_143 : C4 143 = ra G 5 0 F143 := (c4 _ (by omega)).trans ((va_un _ _ (by omega)).trans (k3_143))
      have k4_144 : C4 144 = ra G 5 0 F144 := (c4 _ (by omega)).trans ((va_un _ _ (by omega)).trans (k3_144))
      have k4_145 : C4 145 = ra G 5 0 F145 := (c4 _ (by omega)).trans ((va_un _ _ (by omega)).trans (k3_145))
      have k4_N : C4 N = ia G 65 f9 := (c4 _ (by omega)).trans ((va_un _ _ (by omega)).trans (k3_N))
      have k4_N_1 : C4 (N + 1) = ra G 5 1 F3 := (c4 _ (by omega)).trans ((va_un _ _ (by omega)).trans (k3_N_1))
      have k4_N_2 : C4 (N + 2) = ia G 3 (upd (upd (upd (fun _ => nI 0) 0 (nI (1 + q2))) 1 (nI (1 + q4))) 2 (nI 0)) := (c4 _ (by omega)).trans (va_us _ _ _)
      have q4_cam := Cam_gr e4 c4 (by omega) (by omega) (Cam_up q3_cam (by omega))
      have q4_ts := isTs_gr e4 c4 (by omega) (by omega) (isTs_up q3_ts (by omega))
      have ea4 : ∀ j, j < N → ad4 j = ad j := fun j h => (e4 j (by omega)).trans (ea3 j h)
      have ca4 : ∀ j, j < N → 75 < j → C4 j = C j := fun j h hx9 => (c4 j (by omega)).trans ((va_un _ _ (by omega)).trans (ca3 j h hx9))
      have hl : lv_has ls 4 [(3, .ref (ad4 N)), (2, .int (nI (1 + q4))), (1, .int (nI (1 + q2))), (0, .ref (ad4 0))] := by rw [e4 N (by omega), e4 0 (by omega)]; exact hl
      refine W.eq (g2 := F0 m 93 ls [.ref (ad4 (N + 3)), .ref (ad4 0)]) (by first | (rw [e4 0 (by omega)]; done) | (rw [e4 0 (by omega)]; rfl)) ?_
      refine iw_put (ty := .array (.array (.int))) hx hb hts iu_X7_take_7 tyX7 tyX7_ok nmX7 hown hK hP hD hS (by omega) (k4_0) rfl 9 (by decide) (hts _ il_X7_take_36) (fun _ h9 => h9) rfl (by decide +kernel) rfl rfl (Nat.le_of_ble_eq_true rfl) rfl dX7_take_93 (fun H locs hP hD hS => ?_)
      refine lv_aload_n hx hb dX7_take_96 rfl (lv_at hl 3 rfl) ?_
      refine lv_aload_n hx hb dX7_take_97 rfl (lv_at hl 3 rfl) ?_
      refine iw_get hx hb hts iu_X7_take_7 hown hK hP (by omega) (va_us _ _ _) rfl 10 (by decide) (hts _ il_X7_take_39) (fun _ h9 => h9) rfl dX7_take_98 ?_
      refine lv_iconst (v := nI 0) hx hb dX7_take_101 (by decide) ?_
      refine iw_newI (N' := 0) hx hb (hts _ il_X7_take_arrint) hK hP hD hS hA (by decide) (by decide) (Nat.le_of_ble_eq_true rfl) (Nat.le_of_ble_eq_true rfl) (Nat.le_of_ble_eq_true rfl) dX7_take_102 (fun ad5 C5 H e5 c5 n5 hP hD hS => ?_)
      have k5_0 : C5 0 = ob 7 [.ref (ad5 1), .ref b, .int (nI (d + 4)), .ref (ad5 75), .ref (ad5 140), .ref (ad5 141), .ref (ad5 142), .int (f9 64), .ref (ad5 (N + 1)), .ref (ad5 (N + 3)), .ref (ad5 145), .ref (ad5 146)] := (c5 _ (by omega)).trans ((va_us _ _ _).trans (by first | (rw [e5 1 (by omega), e5 75 (by omega), e5 140 (by omega), e5 141 (by omega), e5 142 (by omega), e5 (N + 1) (by omega), e5 (N + 3) (by omega), e5 145 (by omega), e5 146 (by omega)]; done) | (rw [e5 1 (by omega), e5 75 (by omega), e5 140 (by omega), e5 141 (by omega), e5 142 (by omega), e5 (N + 1) (by omega), e5 (N + 3) (by omega), e5 145 (by omega), e5 146 (by omega)]; rfl)))
      have k5_140 : C5 140 = ia G 3 fl := (c5 _ (by omega)).trans ((va_un _ _ (by omega)).trans (k4_140))
      have k5_141 : C5 141 = ia G 64 (fun _ => nI 0) := (c5 _ (by omega)).trans ((va_un _ _ (by omega)).trans (k4_141))
      have k5_143 : C5 143 = ra G 5 0 F143 := (c5 _ (by omega)).trans ((va_un _ _ (by omega)).trans (k4_143))
      have k5_144 : C5 144 = ra G 5 0 F144 := (c5 _ (by omega)).trans ((va_un _ _ (by omega)).trans (k4_144))
      have k5_145 : C5 145 = ra G 5 0 F145 := (c5 _ (by omega)).trans ((va_un _ _ (by omega)).trans (k4_145))
      have k5_N : C5 N = ia G 65 f9 := (c5 _ (by omega)).trans ((va_un _ _ (by omega)).trans (k4_N))
      have k5_N_1 : C5 (N + 1) = ra G 5 1 F3 := (c5 _ (by omega)).trans ((va_un _ _ (by omega)).trans (k4_N_1))
      have k5_N_2 : C5 (N + 2) = ia G 3 (upd (upd (upd (fun _ => nI 0) 0 (nI (1 + q2))) 1 (nI (1 + q4))) 2 (nI 0)) := (c5 _ (by omega)).trans ((va_un _ _ (by omega)).trans (k4_N_2))
      have k5_N_3 : C5 (N + 3) = ra G 5 1 F4 := (c5 _ (by omega)).trans ((va_un _ _ (by omega)).trans (hF44))
      have q5_cam := Cam_gr e5 c5 (by omega) (by omega) (Cam_up q4_cam (by omega))
      have q5_ts := isTs_gr e5 c5 (by omega) (by omega) (isTs_up q4_ts (by omega))
      have ea5 : ∀ j, j < N → ad5 j = ad j := fun j h => (e5 j (by omega)).trans (ea4 j h)
      have ca5 : ∀ j, j < N → 75 < j → C5 j = C j := fun j h hx9 => (c5 j (by omega)).trans ((va_un _ _ (by omega)).trans (ca4 j h hx9))
      have hl : lv_has ls 4 [(3, .ref (ad5 N)), (2, .int (nI (1 + q4))), (1, .int (nI (1 + q2))), (0, .ref (ad5 0))] := by rw [e5 N (by omega), e5 0 (by omega)]; exact hl
      refine W.eq (g2 := F0 m 104 ls [.ref (ad5 (N + 4)), .ref (ad5 145), .ref (ad5 0)]) (by first | (rw [e5 0 (by omega), e5 145 (by omega)]; done) | (rw [e5 0 (by omega), e5 145 (by omega)]; rfl)) ?_
      refine iwg_r (k := N + 5) (va_runS (As := [.ref (ad5 145), .ref (ad5 (N + 4))]) (rest := [.ref (ad5 0)]) ⟨hx, hb, hml, hown, hts⟩ (kX7_plus l G (N + 5) ad5 _ (by omega) (by omega) (k5_145) (n5) _) (va_cwS 2 hts gX7_take_X7_plus rfl rfl rfl (by decide +kernel) ⟨Nat.le_of_ble_eq_true rfl, Nat.le_of_ble_eq_true rfl⟩) (iPSV hK hV hP hD [.ref (ad5 145), .ref (ad5 (N + 4))]) rfl rfl hl.1 rfl (lv_room (Nat.le_of_ble_eq_true rfl)) dX7_take_104 ⟨Nat.le_of_ble_eq_true rfl, Nat.le_of_ble_eq_true rfl⟩) hD hS hA (fun ad6 C6 H locs hw8 hP hD hS => ?_)
      dsimp only at hw8
      obtain ⟨e6, c6, F5, hF56, zF56⟩ := hw8
      have k6_0 : C6 0 = ob 7 [.ref (ad6 1), .ref b, .int (nI (d + 4)), .ref (ad6 75), .ref (ad6 140), .ref (ad6 141), .ref (ad6 142), .int (f9 64), .ref (ad6 (N + 1)), .ref (ad6 (N + 3)), .ref (ad6 145), .ref (ad6 146)] := (c6 _ (by omega)).trans ((k5_0).trans (by first | (rw [e6 1 (by omega), e6 75 (by omega), e6 140 (by omega), e6 141 (by omega), e6 142 (by omega), e6 (N + 1) (by omega), e6 (N + 3) (by omega), e6 145 (by omega), e6 146 (by omega)]; done) | (rw [e6 1 (by omega), e6 75 (by omega), e6 140 (by omega), e6 141 (by omega), e6 142 (by omega), e6 (N + 1) (by omega), e6 (N + 3) (by omega), e6 145 (by omega), e6 146 (by omega)]; rfl)))
      have k6_140 : C6 140 = ia G 3 fl := (c6 _ (by omega)).trans (k5_140)
      have k6_141 : C6 141 = ia G 64 (fun _ => nI 0) := (c6 _ (by omega)).trans (k5_141)
      have k6_143 : C6 143 = ra G 5 0 F143 := (c6 _ (by omega)).trans (k5_143)
      have k6_144 : C6 144 = ra G 5 0 F144 := (c6 _ (by omega)).trans (k5_144)
      have k6_145 : C6 145 = ra G 5 0 F145 := (c6 _ (by omega)).trans (k5_145)
      have k6_N : C6 N = ia G 65 f9 := (c6 _ (by omega)).trans (k5_N)
      have k6_N_1 : C6 (N + 1) = ra G 5 1 F3 := (c6 _ (by omega)).trans (k5_N_1)
      have k6_N_2 : C6 (N + 2) = ia G 3 (upd (upd (upd (fun _ => nI 0) 0 (nI (1 + q2))) 1 (nI (1 + q4))) 2 (nI 0)) := (c6 _ (by omega)).trans (k5_N_2)
      have k6_N_3 : C6 (N + 3) = ra G 5 1 F4 := (c6 _ (by omega)).trans (k5_N_3)
      have k6_N_4 : C6 (N + 4) = ia G 0 (fun _ => nI 0) := (c6 _ (by omega)).trans (n5)
      have q6_cam := Cam_gr e6 c6 (by omega) (by omega) q5_cam
      have q6_ts := isTs_gr e6 c6 (by omega) (by omega) q5_ts
      have ea6 : ∀ j, j < N → ad6 j = ad j := fun j h => (e6 j (by omega)).trans (ea5 j h)
      have ca6 : ∀ j, j < N → 75 < j → C6 j = C j := fun j h hx9 => (c6 j (by omega)).trans (ca5 j h hx9)
      have hl : lv_has ls 4 [(3, .ref (ad6 N)), (2, .int (nI (1 + q4))), (1, .int (nI (1 + q2))), (0, .ref (ad6 0))] := by rw [e6 N (by omega), e6 0 (by omega)]; exact hl
      refine W.eq (g2 := F0 m 107 ls [.ref (ad6 (N + 5)), .ref (ad6 0)]) (by first | (rw [e6 0 (by omega)]; done) | (rw [e6 0 (by omega)]; rfl)) ?_
      have zz : F5 0 = some (ad6 (N + 4)) := zF56.trans (congrArg some (e6 _ (by omega)).symm)
      refine iw_put (ty := .array (.array (.int))) hx hb hts iu_X7_take_7 tyX7 tyX7_ok nmX7 hown hK hP hD hS (by omega) (k6_0) rfl 10 (by decide) (hts _ il_X7_take_39) (fun _ h9 => h9) rfl (by decide +kernel) rfl rfl (Nat.le_of_ble_eq_true rfl) rfl dX7_take_107 (fun H locs hP hD hS => ?_)
      refine lv_aload_n hx hb dX7_take_110 rfl (lv_at hl 3 rfl) ?_
      refine iw_get hx hb hts iu_X7_take_7 hown hK hP (by omega) (va_us _ _ _) rfl 0 (by decide) (hts _ il_X7_take_10) (fun _ h9 => h9) rfl dX7_take_111 ?_
      refine lv_iload_n hx hb dX7_take_114 rfl (lv_at hl 2 rfl) ?_
      refine lv_iload_n hx hb dX7_take_115 rfl (lv_at hl 1 rfl) ?_
      refine iw_i (va_runV (As := [.int (nI (1 + q2)), .int (nI (1 + q4))]) (rest := []) ⟨hx, hb, hml, hown, hts⟩ (kX6_take l G (N + 6) ad6 _ 1 S (Cam_N (Cam_up q6_cam (by omega)) (by omega)) (1 + q2) (1 + q4) ⟨by omega, by omega⟩ ⟨by omega, by omega⟩ (by omega) _) (cwV 2 hts gX7_take_X6_take rfl rfl rfl (by decide +kernel) ⟨Nat.le_of_ble_eq_true rfl, Nat.le_of_ble_eq_true rfl⟩) (iPV hK hP hD (by omega) ((va_un _ _ (by omega)).trans (q6_cam.2.2.1)) rfl [.int (nI (1 + q2)), .int (nI (1 + q4))]) rfl rfl hl.1 rfl (lv_room (Nat.le_of_ble_eq_true rfl)) dX7_take_116 ⟨Nat.le_of_ble_eq_true rfl, Nat.le_of_ble_eq_true rfl⟩) hD hS hA (fun r8 u8 H locs hw8 hP hD hS => ?_)
      obtain ⟨hr8, hc8, hs8⟩ := hw8
      refine lv_asI hr8 ?_
      obtain ⟨V1, rfl⟩ : ∃ V, V = u8 := ⟨_, rfl⟩
      have k7_0 : V1 0 = ob 7 [.ref (ad6 1), .ref b, .int (nI (d + 4)), .ref (ad6 75), .ref (ad6 140), .ref (ad6 141), .ref (ad6 142), .int (f9 64), .ref (ad6 (N + 1)), .ref (ad6 (N + 3)), .ref (ad6 (N + 5)), .ref (ad6 146)] := (hs8 _ (by omega)).trans (va_us _ _ _)
      have k7_140 : V1 140 = ia G 3 fl := (hs8 _ (by omega)).trans ((va_un _ _ (by omega)).trans (k6_140))
      have k7_141 : V1 141 = ia G 64 (fun _ => nI 0) := (hs8 _ (by omega)).trans ((va_un _ _ (by omega)).trans (k6_141))
      have k7_143 : V1 143 = ra G 5 0 F143 := (hs8 _ (by omega)).trans ((va_un _ _ (by omega)).trans (k6_143))
      have k7_144 : V1 144 = ra G 5 0 F144 := (hs8 _ (by omega)).trans ((va_un _ _ (by omega)).trans (k6_144))
      have k7_145 : V1 145 = ra G 5 0 F145 := (hs8 _ (by omega)).trans ((va_un _ _ (by omega)).trans (k6_145))
      have k7_N : V1 N = ia G 65 f9 := (hs8 _ (by omega)).trans ((va_un _ _ (by omega)).trans (k6_N))
      have k7_N_1 : V1 (N + 1) = ra G 5 1 F3 := (hs8 _ (by omega)).trans ((va_un _ _ (by omega)).trans (k6_N_1))
      have k7_N_2 : V1 (N + 2) = ia G 3 (upd (upd (upd (fun _ => nI 0) 0 (nI (1 + q2))) 1 (nI (1 + q4))) 2 (nI 0)) := (hs8 _ (by omega)).trans ((va_un _ _ (by omega)).trans (k6_N_2))
      have k7_N_3 : V1 (N + 3) = ra G 5 1 F4 := (hs8 _ (by omega)).trans ((va_un _ _ (by omega)).trans (k6_N_3))
      have k7_N_4 : V1 (N + 4) = ia G 0 (fun _ => nI 0) := (hs8 _ (by omega)).trans ((va_un _ _ (by omega)).trans (k6_N_4))
      have k7_N_5 : V1 (N + 5) = ra G 5 1 F5 := (hs8 _ (by omega)).trans ((va_un _ _ (by omega)).trans (hF56))
      have q7_ts := isTs_cam hs8 (by omega) (isTs_up q6_ts (by omega))
      have q7_cam := hc8
      have ea7 : ∀ j, j < N → ad6 j = ad j := ea6
      have ca7 : ∀ j, j < N → 75 < j → V1 j = C j := fun j h hx9 => (hs8 j (by omega)).trans ((va_un _ _ (by omega)).trans (ca6 j h hx9))
      refine lv_asI (y := nI 0) (by rw [hfn0]) ?_
      refine lv_aload_n hx hb dX7_take_119 rfl (lv_at hl 3 rfl) ?_
      refine iw_get hx hb hts iu_X7_take_7 hown hK hP (by omega) (k7_0) rfl 8 (by decide) (hts _ il_X7_take_33) (fun _ h9 => h9) rfl dX7_take_120 ?_
      refine iw_alenG (v := nI 1) hx hb hK hP (by omega) (k7_N_1) rfl dX7_take_123 ?_
      refine lv_iconst (v := nI 1) hx hb dX7_take_124 (by decide) ?_
      refine lv_isub hx hb dX7_take_125 ?_
      refine lv_asI (y := nI (1 - 1)) (pk_sub (by omega)) ?_
      refine lv_icmp_ne (tgt := 133) hx hb dX7_take_126 (by decide) (fun c9 => absurd (rfl) c9) (fun _ => ?_)
      refine lv_iconst (v := nI 1) hx hb dX7_take_129 (by decide) ?_
      refine lv_goto (tgt := 134) hx hb dX7_take_130 (by decide) ?_
      refine W.widen (k := 6) (n := 71) (Nat.le_of_ble_eq_true rfl) (Nat.le_of_ble_eq_true rfl) ?_
      have z_0 : (V1) 0 = ob 7 [.ref (ad6 1), .ref b, .int (nI (d + 4)), .ref (ad6 75), .ref (ad6 140), .ref (ad6 141), .ref (ad6 142), .int (f9 64), .ref (ad6 (N + 1)), .ref (ad6 (N + 3)), .ref (ad6 (N + 5)), .ref (ad6 146)] := k7_0
      have z_N_5 : (V1) (N + 5) = ra G 5 1 F5 := k7_N_5
      have z_N_4 : (V1) (N + 4) = ia G 0 (fun _ => nI 0) := k7_N_4
      exact W.zret (v := (nI 1)) (ty := .boolean) hx hb hr (by decide) (fun t ht hW => ⟨⟨_, (ad6, V1), rfl, ⟨rfl, ⟨ea7, fun j h hx9 => ca7 j h hx9, ⟨(1 + q2), (1 + q4), ⟨by omega, by omega⟩, ⟨by omega, by omega⟩, (Cam_N q7_cam (by omega)), q7_ts, ⟨f9 64, z_0⟩, F5, fun _ => nI 0, z_N_5, fun i hi => by rw [show i = 0 by omega]; exact zz, z_N_4⟩⟩⟩, ⟨by rw [ht]; exact hP, hD⟩⟩, hS.F ht⟩) hS.2.2 dX7_take_134
abbrev rmX7_edit : Room := { frames := 2, cells := 1, slots := 12, locals := 48 }
set_option maxRecDepth 20000 in
theorem iu_X7_edit_7 : ∀ w ∈ u_ws RX7 TX7 12, w ∈ wsX7_edit := by decide +kernel
set_option maxRecDepth 20000 in
theorem il_X7_edit_39 : (Cond.fieldLink RX7 39 "BayerGateLaw$Told" "edits" "[[I") ∈ wsX7_edit := by decide +kernel
set_option maxRecDepth 20000 in
theorem il_X7_edit_10 : (Cond.fieldLink RX7 10 "BayerGateLaw$Told" "m" "LBayerGate;") ∈ wsX7_edit := by decide +kernel
set_option maxHeartbeats 4000000 in
set_option maxRecDepth 100000 in
theorem kX7_edit (l : Launch) (G : iG) (N : Nat) (ad : Nat → Nat) (C : Nat → va_E) (b L : Nat) (xs : Nat → Int32) (h151 : 157 ≤ N) (S : St) (hcam : Cam G N ad C 1 S) (sn : Nat → Nat) (hts0 : isTs G ad C 151 sn) (d : Nat) (hd : d < 800) {dw : Int32} {a8 a9 eg ee k : Nat} (heg : 146 < eg ∧ eg < N) (hee : 150 < ee ∧ ee < N) (hne : eg ≠ ee) (heg2 : 151 ≤ eg) (hk2 : k < 5) (h0 : C 0 = ob 7 [.ref (ad 1), .ref b, .int (nI d), .ref (ad 75), .ref (ad 140), .ref (ad 141), .ref (ad 142), .int dw, .ref a8, .ref a9, .ref (ad eg), .ref (ad 146)]) {FE : Nat → Option Nat} {fe : Nat → Int32} (hFE : C eg = ra G 5 1 FE) (hFE1 : ∀ i, i < 1 → FE i = some (ad ee)) (hfe : C ee = ia G (2 * k) fe) (hf1 : sFn S = 1) (hel : (sFr S 0).2.1.2.2 = k) (sz : Nat) : Met l yX7_edit wsX7_edit rmX7_edit (iPreX G (N) ad C b L xs sz [.ref (ad 0), .int (nI 0)]) (va_Qi (fun (r : Int32) (u : iU) => (r = nI 1) ∧ (∀ j, j < N → u.1 j = ad j) ∧ (∀ j, j < N → (75 < j ∧ j ≠ eg) → u.2 j = C j) ∧ ∃ kd nb : Nat, (okE kd nb ∧ (4 ≤ kd → nb = 0)) ∧ Cam G (N + 1) u.1 u.2 1 (mkS (sSh S) (sFac S) (sGq S) (sHw S) (sMp S) (sDr S) (sFn S) (sFl S) (va_up (sFr S) 0 ((sFr S 0).1, (va_up (sFr S 0).2.1.1 (sFr S 0).2.1.2.2 (kd), va_up (sFr S 0).2.1.2.1 (sFr S 0).2.1.2.2 (nb), (sFr S 0).2.1.2.2 + 1), (sFr S 0).2.2)) (sFi S)) ∧ isTs G u.1 u.2 151 sn ∧ (∃ d2 : Nat, d2 ≤ d + 2 ∧ u.2 0 = ob 7 [.ref (u.1 1), .ref b, .int (nI d2), .ref (u.1 75), .ref (u.1 140), .ref (u.1 141), .ref (u.1 142), .int dw, .ref a8, .ref a9, .ref (u.1 eg), .ref (u.1 146)]) ∧ ∃ (F : Nat → Option Nat) (f : Nat → Int32), u.2 eg = ra G 5 1 F ∧ (∀ i, i < 1 → F i = some (u.1 N)) ∧ u.2 N = ia G (2 * k + 2) f) (iB2 G (N + 1) (iA (N) ad sz)) (iA (N) ad sz)) 1 12 (iA (N) ad sz) := by
  refine Met.ofW (cc := cX7_edit) (maxL := 4) (ret := (some .boolean)) (by decide) rfl ?_
  intro p e s m args below meth c s₁ B hml hv
  obtain ⟨rfl, ⟨hsz, hP, hK, hD0⟩, hV, hX⟩ := hv
  have hx := B.exec
  have hb := B.bytes
  have hr := B.returns
  have hts := atoms_spec (ws := wsX7_edit) B.pre
  have hown : s.vm.findClass RX7 = some m.cls := findClass_of_methodNamed B.named
  have hlocks := B.notSynchronized
  subst hsz
  have hD := wl_self hD0 s.heap.size
  have hA : ∀ q : Nat, s.heap.size ≤ q → iA (N) ad s.heap.size q := fun q h => Or.inr h
  have hS : va_S (iA (N) ad s.heap.size) s.heap s.heap [] := va_S.rf
  have hP : va_P G.1 vwB (wl (N) ad C) s.heap := hP
  have hl := lv_entry ([.ref (ad 0), .int (nI 0)]) (n := 4) (Nat.le_of_ble_eq_true rfl)
  rw [lg_entry_eq]
  generalize (lg_sl ([.ref (ad 0), .int (nI 0)]) ++ List.replicate (4 - (lg_sl ([.ref (ad 0), .int (nI 0)])).length) Slot.unset).toArray = ls at hl ⊢
  have hl : lv_has ls 4 [(0, .ref (ad 0)), (1, .int (nI 0))] := hl
  have hbA := XS_out hX
  refine lv_aload_n hx hb dX7_edit_0 rfl (lv_at hl 0 rfl) ?_
  refine lv_bipush (v := nI 6) hx hb dX7_edit_1 (by decide) ?_
  refine iw_i (va_runV (As := [.int (nI 6)]) (rest := []) ⟨hx, hb, hml, hown, hts⟩ (kX7_draw l G (N) ad _ b L xs (t := 0) (by omega) (6) (by omega) (d) (by omega) (h0) _) (cwV 1 hts gX7_edit_X7_draw rfl rfl rfl (by decide +kernel) ⟨Nat.le_of_ble_eq_true rfl, Nat.le_of_ble_eq_true rfl⟩) (iPVX hK hV hX hbA hS hP hD (by omega) (h0) rfl [.int (nI 6)]) rfl rfl hl.1 rfl (lv_room (Nat.le_of_ble_eq_true rfl)) dX7_edit_3 ⟨Nat.le_of_ble_eq_true rfl, Nat.le_of_ble_eq_true rfl⟩) hD hS hA (fun r8 u8 H locs hw8 hP hD hS => ?_)
  obtain ⟨⟨q1, hq1, hr8⟩, hu8⟩ := hw8
  refine lv_asI hr8 ?_
  rw [hu8] at hP hD
  refine lv_istore_n (lv' := [(2, .int (nI q1)), (0, .ref (ad 0)), (1, .int (nI 0))]) hx hb dX7_edit_6 rfl hl (by decide) rfl (fun ls hl => ?_)
  refine lv_iload_n hx hb dX7_edit_7 rfl (lv_at hl 0 rfl) ?_
  refine lv_if_ne (tgt := 20) hx hb dX7_edit_8 (by decide) (fun c8 => ?_) (fun c8 => ?_)
  · have p1 : ¬ q1 = 0 := fun e => c8 (by rw [e]; exact nI_0)
    refine lv_iload_n hx hb dX7_edit_20 rfl (lv_at hl 0 rfl) ?_
    refine lv_iconst (v := nI 3) hx hb dX7_edit_21 (by decide) ?_
    refine lv_icmp_ge (tgt := 36) hx hb dX7_edit_22 (by decide) (fun c22 => ?_) (fun c22 => ?_)
    · have p2 : 3 ≤ q1 := (nI_leI (by omega) (by omega)).mp c22
      refine lv_iload_n hx hb dX7_edit_36 rfl (lv_at hl 0 rfl) ?_
      refine lv_iconst (v := nI 3) hx hb dX7_edit_37 (by decide) ?_
      refine lv_icmp_ne (tgt := 49) hx hb dX7_edit_38 (by decide) (fun c38 => ?_) (fun c38 => ?_)
      · have p3 : ¬ q1 = 3 := fun e => c38 (by rw [e])
        refine lv_iconst (v := nI 0) hx hb dX7_edit_49 (by decide) ?_
        refine lv_istore_n (lv' := [(3, .int (nI 0)), (2, .int (nI q1)), (0, .ref (ad 0)), (1, .int (nI 0))]) hx hb dX7_edit_50 rfl hl (by decide) rfl (fun ls hl => ?_)
        refine lv_aload_n hx hb dX7_edit_51 rfl (lv_at hl 2 rfl) ?_
        refine iw_get hx hb hts iu_X7_edit_7 hown hK hP (by omega) (va_us _ _ _) rfl 10 (by decide) (hts _ il_X7_edit_39) (fun _ h9 => h9) rfl dX7_edit_52 ?_
        refine lv_iload_n hx hb dX7_edit_55 rfl (lv_at hl 3 rfl) ?_
        refine iw_gald (v := ad (ee)) hx hb hK hP (by omega) ((va_un _ _ (by omega)).trans (hFE)) (vp_in_nI (show 0 < 1 by omega) (by omega)) ((congrArg FE (nI_clamp (by omega))).trans (hFE1 _ (by omega))) dX7_edit_56 ?_
        refine iw_alenI (v := nI (2 * k)) hx hb hK hP (by omega) ((va_un _ _ (by omega)).trans (hfe)) rfl dX7_edit_57 ?_
        refine lv_bipush (v := nI 11) hx hb dX7_edit_58 (by decide) ?_
        refine lv_icmp_le (tgt := 65) hx hb dX7_edit_60 (by decide) (fun _ => ?_) (fun c9 => absurd ((nI_le (by omega) (by omega))) c9)
        refine lv_aload_n hx hb dX7_edit_65 rfl (lv_at hl 2 rfl) ?_
        refine iw_get hx hb hts iu_X7_edit_7 hown hK hP (by omega) (va_us _ _ _) rfl 10 (by decide) (hts _ il_X7_edit_39) (fun _ h9 => h9) rfl dX7_edit_66 ?_
        refine lv_iload_n hx hb dX7_edit_69 rfl (lv_at hl 3 rfl) ?_
        refine lv_aload_n hx hb dX7_edit_70 rfl (lv_at hl 2 rfl) ?_
        refine iw_get hx hb hts iu_X7_edit_7 hown hK hP (by omega) (va_us _ _ _) rfl 10 (by decide) (hts _ il_X7_edit_39) (fun _ h9 => h9) rfl dX7_edit_71 ?_
        refine lv_iload_n hx hb dX7_edit_74 rfl (lv_at hl 3 rfl) ?_
        refine iw_gald (v := ad (ee)) hx hb hK hP (by omega) ((va_un _ _ (by omega)).trans (hFE)) (vp_in_nI (show 0 < 1 by omega) (by omega)) ((congrArg FE (nI_clamp (by omega))).trans (hFE1 _ (by omega))) dX7_edit_75 ?_
        refine lv_iload_n hx hb dX7_edit_76 rfl (lv_at hl 1 rfl) ?_
        refine lv_iload_n hx hb dX7_edit_77 rfl (lv_at hl 0 rfl) ?_
        refine iwg_r (k := N) (va_runS (As := [.ref (ad ee), .int (nI q1), .int (nI 0)]) (rest := [.int (nI 0), .ref (ad eg)]) ⟨hx, hb, hml, hown, hts⟩ (kX7_plus_ l G (N) ad _ (by omega) (by omega) ((va_un _ _ (by omega)).trans (hfe)) (nI q1) (nI 0) _) (va_cwS 3 hts gX7_edit_X7_plus_ rfl rfl rfl (by decide +kernel) ⟨Nat.le_of_ble_eq_true rfl, Nat.le_of_ble_eq_true rfl⟩) (iPS hK hP hD [.ref (ad ee), .int (nI q1), .int (nI 0)]) rfl rfl hl.1 rfl (lv_room (Nat.le_of_ble_eq_true rfl)) dX7_edit_78 ⟨Nat.le_of_ble_eq_true rfl, Nat.le_of_ble_eq_true rfl⟩) hD hS hA (fun ad1 C1 H locs hw8 hP hD hS => ?_)
        dsimp only at hw8
        obtain ⟨e1, c1, fn9, hfn1⟩ := hw8
        have k1_0 : C1 0 = ob 7 [.ref (ad1 1), .ref b, .int (nI (d + 1)), .ref (ad1 75), .ref (ad1 140), .ref (ad1 141), .ref (ad1 142), .int dw, .ref a8, .ref a9, .ref (ad1 eg), .ref (ad1 146)] := (c1 _ (by omega)).trans ((va_us _ _ _).trans (by first | (rw [e1 1 (by omega), e1 75 (by omega), e1 140 (by omega), e1 141 (by omega), e1 142 (by omega), e1 eg (by omega), e1 146 (by omega)]; done) | (rw [e1 1 (by omega), e1 75 (by omega), e1 140 (by omega), e1 141 (by omega), e1 142 (by omega), e1 eg (by omega), e1 146 (by omega)]; rfl)))
        have k1_eg : C1 eg = ra G 5 1 FE := (c1 _ (by omega)).trans ((va_un _ _ (by omega)).trans (hFE))
        have k1_ee : C1 ee = ia G (2 * k) fe := (c1 _ (by omega)).trans ((va_un _ _ (by omega)).trans (hfe))
        have q1_cam := Cam_gr e1 c1 (by omega) (by omega) (Cam_up hcam (by omega))
        have q1_ts := isTs_gr e1 c1 (by omega) (by omega) (isTs_up hts0 (by omega))
        have ea1 : ∀ j, j < N → ad1 j = ad j := fun j h => e1 j (by omega)
        have ca1 : ∀ j, j < N → (75 < j ∧ j ≠ eg) → C1 j = C j := fun j h hx9 => (c1 j (by omega)).trans ((va_un _ _ (by omega)).trans (rfl))
        have hl : lv_has ls 4 [(3, .int (nI 0)), (2, .int (nI q1)), (0, .ref (ad1 0)), (1, .int (nI 0))] := by rw [e1 0 (by omega)]; exact hl
        refine W.eq (g2 := F0 m 81 ls [.ref (ad1 N), .int (nI 0), .ref (ad1 eg)]) (by first | (rw [e1 eg (by omega)]; done) | (rw [e1 eg (by omega)]; rfl)) ?_
        refine iw_gast hx hb hK (vx_ag hV) hP hD hS (by omega) (k1_eg) (by omega) (hfn1) (vp_in_nI (show 0 < 1 by omega) (by omega)) (nI_clamp (by omega)) dX7_edit_81 (fun H locs hP hD hS => ?_)
        refine lv_aload_n hx hb dX7_edit_82 rfl (lv_at hl 2 rfl) ?_
        refine iw_get hx hb hts iu_X7_edit_7 hown hK hP (by omega) ((va_un _ _ (by omega)).trans (k1_0)) rfl 0 (by decide) (hts _ il_X7_edit_10) (fun _ h9 => h9) rfl dX7_edit_83 ?_
        refine lv_iload_n hx hb dX7_edit_86 rfl (lv_at hl 3 rfl) ?_
        refine lv_iload_n hx hb dX7_edit_87 rfl (lv_at hl 1 rfl) ?_
        refine lv_iload_n hx hb dX7_edit_88 rfl (lv_at hl 0 rfl) ?_
        refine iw_i (va_runV (As := [.int (nI 0), .int (nI q1), .int (nI 0)]) (rest := []) ⟨hx, hb, hml, hown, hts⟩ (kX6_edit l G (N + 1) ad1 _ 1 S (Cam_N (Cam_up q1_cam (by omega)) (by omega)) 0 (by omega) (q1) (0) ⟨by omega, by omega, fun h => by omega, fun h => by omega⟩ (fun h => by omega) (by omega) _) (cwV 3 hts gX7_edit_X6_edit rfl rfl rfl (by decide +kernel) ⟨Nat.le_of_ble_eq_true rfl, Nat.le_of_ble_eq_true rfl⟩) (iPV hK hP hD (by omega) ((va_un _ _ (by omega)).trans (q1_cam.2.2.1)) rfl [.int (nI 0), .int (nI q1), .int (nI 0)]) rfl rfl hl.1 rfl (lv_room (Nat.le_of_ble_eq_true rfl)) dX7_edit_89 ⟨Nat.le_of_ble_eq_true rfl, Nat.le_of_ble_eq_true rfl⟩) hD hS hA (fun r8 u8 H locs hw8 hP hD hS => ?_)
        obtain ⟨hr8, hc8, hs8⟩ := hw8
        refine lv_asI hr8 ?_
        obtain ⟨V1, rfl⟩ : ∃ V, V = u8 := ⟨_, rfl⟩
        have k2_0 : V1 0 = ob 7 [.ref (ad1 1), .ref b, .int (nI (d + 1)), .ref (ad1 75), .ref (ad1 140), .ref (ad1 141), .ref (ad1 142), .int dw, .ref a8, .ref a9, .ref (ad1 eg), .ref (ad1 146)] := (hs8 _ (by omega)).trans ((va_un _ _ (by omega)).trans (k1_0))
        have k2_eg : V1 eg = ra G 5 1 (va_up FE 0 (some (ad1 N))) := (hs8 _ (by omega)).trans (va_us _ _ _)
        have k2_ee : V1 ee = ia G (2 * k) fe := (hs8 _ (by omega)).trans ((va_un _ _ (by omega)).trans (k1_ee))
        have k2_N : V1 N = ia G (2 * k + 2) fn9 := (hs8 _ (by omega)).trans ((va_un _ _ (by omega)).trans (hfn1))
        have q2_ts := isTs_cam hs8 (by omega) (isTs_up q1_ts (by omega))
        have q2_cam := hc8
        have ea2 : ∀ j, j < N → ad1 j = ad j := ea1
        have ca2 : ∀ j, j < N → (75 < j ∧ j ≠ eg) → V1 j = C j := fun j h hx9 => (hs8 j (by omega)).trans ((va_un _ _ (by omega)).trans (ca1 j h hx9))
        refine lv_asI (y := nI (k + 1)) (by rw [hel]) ?_
        refine lv_aload_n hx hb dX7_edit_92 rfl (lv_at hl 2 rfl) ?_
        refine iw_get hx hb hts iu_X7_edit_7 hown hK hP (by omega) (k2_0) rfl 10 (by decide) (hts _ il_X7_edit_39) (fun _ h9 => h9) rfl dX7_edit_93 ?_
        refine lv_iload_n hx hb dX7_edit_96 rfl (lv_at hl 3 rfl) ?_
        refine iw_gald (v := ad1 (N)) hx hb hK hP (by omega) (k2_eg) (vp_in_nI (show 0 < 1 by omega) (by omega)) ((congrArg (va_up FE 0 (some (ad1 N))) (nI_clamp (by omega))).trans ((fun (i : Nat) (hi : i < 1) => (by rw [show i = 0 by omega]; exact va_us _ _ _ : va_up FE 0 (some (ad1 N)) i = some (ad1 N))) _ (by omega))) dX7_edit_97 ?_
        refine iw_alenI (v := nI (2 * k + 2)) hx hb hK hP (by omega) (k2_N) rfl dX7_edit_98 ?_
        refine lv_iconst (v := nI 2) hx hb dX7_edit_99 (by decide) ?_
        refine lv_idiv hx hb dX7_edit_100 (by decide) ?_
        refine lv_asI (y := nI ((2 * k + 2) / 2)) (pk_div (by omega) (by omega) (by omega)) ?_
        refine lv_icmp_ne (tgt := 108) hx hb dX7_edit_101 (by decide) (fun c9 => absurd ((by rw [show (2 * k + 2) / 2 = k + 1 by omega])) c9) (fun _ => ?_)
        refine lv_iconst (v := nI 1) hx hb dX7_edit_104 (by decide) ?_
        refine lv_goto (tgt := 109) hx hb dX7_edit_105 (by decide) ?_
        refine W.widen (k := 1) (n := 12) (Nat.le_of_ble_eq_true rfl) (Nat.le_of_ble_eq_true rfl) ?_
        have z_0 : (V1) 0 = ob 7 [.ref (ad1 1), .ref b, .int (nI (d + 1)), .ref (ad1 75), .ref (ad1 140), .ref (ad1 141), .ref (ad1 142), .int dw, .ref a8, .ref a9, .ref (ad1 eg), .ref (ad1 146)] := k2_0
        have z_eg : (V1) eg = ra G 5 1 (va_up FE 0 (some (ad1 N))) := k2_eg
        have z_N : (V1) N = ia G (2 * k + 2) fn9 := k2_N
        exact W.zret (v := (nI 1)) (ty := .boolean) hx hb hr (by decide) (fun t ht hW => ⟨⟨_, (ad1, V1), rfl, ⟨rfl, ⟨ea2, fun j h hx9 => ca2 j h hx9, ⟨q1, 0, ⟨⟨by omega, by omega, fun h => by omega, fun h => by omega⟩, fun h => by omega⟩, (Cam_N q2_cam (by omega)), q2_ts, ⟨d + 1, (by omega), z_0⟩, va_up FE 0 (some (ad1 N)), fn9, z_eg, (fun i hi => by rw [show i = 0 by omega]; exact va_us _ _ _), z_N⟩⟩⟩, ⟨by rw [ht]; exact hP, hD⟩⟩, hS.F ht⟩) hS.2.2 dX7_edit_109
      · have p3 : q1 = 3 := (nI_eq (by omega) (by omega)).mp c38
        refine lv_aload_n hx hb dX7_edit_41 rfl (lv_at hl 1 rfl) ?_
        refine lv_iconst (v := nI 3) hx hb dX7_edit_42 (by decide) ?_
        refine iw_i (va_runV (As := [.int (nI 3)]) (rest := []) ⟨hx, hb, hml, hown, hts⟩ (kX7_draw l G (N) ad _ b L xs (t := 0) (by omega) (3) (by omega) (d + 1) (by omega) (va_us _ _ _) _) (cwV 1 hts gX7_edit_X7_draw rfl rfl rfl (by decide +kernel) ⟨Nat.le_of_ble_eq_true rfl, Nat.le_of_ble_eq_true rfl⟩) (iPVX hK hV hX hbA hS hP hD (by omega) (va_us _ _ _) rfl [.int (nI 3)]) rfl rfl hl.1 rfl (lv_room (Nat.le_of_ble_eq_true rfl)) dX7_edit_43 ⟨Nat.le_of_ble_eq_true rfl, Nat.le_of_ble_eq_true rfl⟩) hD hS hA (fun r8 u8 H locs hw8 hP hD hS => ?_)
        obtain ⟨⟨q2, hq2, hr8⟩, hu8⟩ := hw8
        refine lv_asI hr8 ?_
        rw [hu8] at hP hD
        rw [va_uu _ _ _ _] at hP hD
        refine lv_goto (tgt := 50) hx hb dX7_edit_46 (by decide) ?_
        refine lv_istore_n (lv' := [(3, .int (nI q2)), (2, .int (nI q1)), (0, .ref (ad 0)), (1, .int (nI 0))]) hx hb dX7_edit_50 rfl hl (by decide) rfl (fun ls hl => ?_)
        refine lv_aload_n hx hb dX7_edit_51 rfl (lv_at hl 2 rfl) ?_
        refine iw_get hx hb hts iu_X7_edit_7 hown hK hP (by omega) (va_us _ _ _) rfl 10 (by decide) (hts _ il_X7_edit_39) (fun _ h9 => h9) rfl dX7_edit_52 ?_
        refine lv_iload_n hx hb dX7_edit_55 rfl (lv_at hl 3 rfl) ?_
        refine iw_gald (v := ad (ee)) hx hb hK hP (by omega) ((va_un _ _ (by omega)).trans (hFE)) (vp_in_nI (show 0 < 1 by omega) (by omega)) ((congrArg FE (nI_clamp (by omega))).trans (hFE1 _ (by omega))) dX7_edit_56 ?_
        refine iw_alenI (v := nI (2 * k)) hx hb hK hP (by omega) ((va_un _ _ (by omega)).trans (hfe)) rfl dX7_edit_57 ?_
        refine lv_bipush (v := nI 11) hx hb dX7_edit_58 (by decide) ?_
        refine lv_icmp_le (tgt := 65) hx hb dX7_edit_60 (by decide) (fun _ => ?_) (fun c9 => absurd ((nI_le (by omega) (by omega))) c9)
        refine lv_aload_n hx hb dX7_edit_65 rfl (lv_at hl 2 rfl) ?_
        refine iw_get hx hb hts iu_X7_edit_7 hown hK hP (by omega) (va_us _ _ _) rfl 10 (by decide) (hts _ il_X7_edit_39) (fun _ h9 => h9) rfl dX7_edit_66 ?_
        refine lv_iload_n hx hb dX7_edit_69 rfl (lv_at hl 3 rfl) ?_
        refine lv_aload_n hx hb dX7_edit_70 rfl (lv_at hl 2 rfl) ?_
        refine iw_get hx hb hts iu_X7_edit_7 hown hK hP (by omega) (va_us _ _ _) rfl 10 (by decide) (hts _ il_X7_edit_39) (fun _ h9 => h9) rfl dX7_edit_71 ?_
        refine lv_iload_n hx hb dX7_edit_74 rfl (lv_at hl 3 rfl) ?_
        refine iw_gald (v := ad (ee)) hx hb hK hP (by omega) ((va_un _ _ (by omega)).trans (hFE)) (vp_in_nI (show 0 < 1 by omega) (by omega)) ((congrArg FE (nI_clamp (by omega))).trans (hFE1 _ (by omega))) dX7_edit_75 ?_
        refine lv_iload_n hx hb dX7_edit_76 rfl (lv_at hl 1 rfl) ?_
        refine lv_iload_n hx hb dX7_edit_77 rfl (lv_at hl 0 rfl) ?_
        refine iwg_r (k := N) (va_runS (As := [.ref (ad ee), .int (nI q1), .int (nI q2)]) (rest := [.int (nI 0), .ref (ad eg)]) ⟨hx, hb, hml, hown, hts⟩ (kX7_plus_ l G (N) ad _ (by omega) (by omega) ((va_un _ _ (by omega)).trans (hfe)) (nI q1) (nI q2) _) (va_cwS 3 hts gX7_edit_X7_plus_ rfl rfl rfl (by decide +kernel) ⟨Nat.le_of_ble_eq_true rfl, Nat.le_of_ble_eq_true rfl⟩) (iPS hK hP hD [.ref (ad ee), .int (nI q1), .int (nI q2)]) rfl rfl hl.1 rfl (lv_room (Nat.le_of_ble_eq_true rfl)) dX7_edit_78 ⟨Nat.le_of_ble_eq_true rfl, Nat.le_of_ble_eq_true rfl⟩) hD hS hA (fun ad1 C1 H locs hw8 hP hD hS => ?_)
        dsimp only at hw8
        obtain ⟨e1, c1, fn9, hfn1⟩ := hw8
        have k1_0 : C1 0 = ob 7 [.ref (ad1 1), .ref b, .int (nI (d + 2)), .ref (ad1 75), .ref (ad1 140), .ref (ad1 141), .ref (ad1 142), .int dw, .ref a8, .ref a9, .ref (ad1 eg), .ref (ad1 146)] := (c1 _ (by omega)).trans ((va_us _ _ _).trans (by first | (rw [e1 1 (by omega), e1 75 (by omega), e1 140 (by omega), e1 141 (by omega), e1 142 (by omega), e1 eg (by omega), e1 146 (by omega)]; done) | (rw [e1 1 (by omega), e1 75 (by omega), e1 140 (by omega), e1 141 (by omega), e1 142 (by omega), e1 eg (by omega), e1 146 (by omega)]; rfl)))
        have k1_eg : C1 eg = ra G 5 1 FE := (c1 _ (by omega)).trans ((va_un _ _ (by omega)).trans (hFE))
        have k1_ee : C1 ee = ia G (2 * k) fe := (c1 _ (by omega)).trans ((va_un _ _ (by omega)).trans (hfe))
        have q1_cam := Cam_gr e1 c1 (by omega) (by omega) (Cam_up hcam (by omega))
        have q1_ts := isTs_gr e1 c1 (by omega) (by omega) (isTs_up hts0 (by omega))
        have ea1 : ∀ j, j < N → ad1 j = ad j := fun j h => e1 j (by omega)
        have ca1 : ∀ j, j < N → (75 < j ∧ j ≠ eg) → C1 j = C j := fun j h hx9 => (c1 j (by omega)).trans ((va_un _ _ (by omega)).trans (rfl))
        have hl : lv_has ls 4 [(3, .int (nI q2)), (2, .int (nI q1)), (0, .ref (ad1 0)), (1, .int (nI 0))] := by rw [e1 0 (by omega)]; exact hl
        refine W.eq (g2 := F0 m 81 ls [.ref (ad1 N), .int (nI 0), .ref (ad1 eg)]) (by first | (rw [e1 eg (by omega)]; done) | (rw [e1 eg (by omega)]; rfl)) ?_
        refine iw_gast hx hb hK (vx_ag hV) hP hD hS (by omega) (k1_eg) (by omega) (hfn1) (vp_in_nI (show 0 < 1 by omega) (by omega)) (nI_clamp (by omega)) dX7_edit_81 (fun H locs hP hD hS => ?_)
        refine lv_aload_n hx hb dX7_edit_82 rfl (lv_at hl 2 rfl) ?_
        refine iw_get hx hb hts iu_X7_edit_7 hown hK hP (by omega) ((va_un _ _ (by omega)).trans (k1_0)) rfl 0 (by decide) (hts _ il_X7_edit_10) (fun _ h9 => h9) rfl dX7_edit_83 ?_
        refine lv_iload_n hx hb dX7_edit_86 rfl (lv_at hl 3 rfl) ?_
        refine lv_iload_n hx hb dX7_edit_87 rfl (lv_at hl 1 rfl) ?_
        refine lv_iload_n hx hb dX7_edit_88 rfl (lv_at hl 0 rfl) ?_
        refine iw_i (va_runV (As := [.int (nI 0), .int (nI q1), .int (nI q2)]) (rest := []) ⟨hx, hb, hml, hown, hts⟩ (kX6_edit l G (N + 1) ad1 _ 1 S (Cam_N (Cam_up q1_cam (by omega)) (by omega)) 0 (by omega) (q1) (q2) ⟨by omega, by omega, fun h => by omega, fun h => by omega⟩ (fun h => by omega) (by omega) _) (cwV 3 hts gX7_edit_X6_edit rfl rfl rfl (by decide +kernel) ⟨Nat.le_of_ble_eq_true rfl, Nat.le_of_ble_eq_true rfl⟩) (iPV hK hP hD (by omega) ((va_un _ _ (by omega)).trans (q1_cam.2.2.1)) rfl [.int (nI 0), .int (nI q1), .int (nI q2)]) rfl rfl hl.1 rfl (lv_room (Nat.le_of_ble_eq_true rfl)) dX7_edit_89 ⟨Nat.le_of_ble_eq_true rfl, Nat.le_of_ble_eq_true rfl⟩) hD hS hA (fun r8 u8 H locs hw8 hP hD hS => ?_)
        obtain ⟨hr8, hc8, hs8⟩ := hw8
        refine lv_asI hr8 ?_
        obtain ⟨V1, rfl⟩ : ∃ V, V = u8 := ⟨_, rfl⟩
        have k2_0 : V1 0 = ob 7 [.ref (ad1 1), .ref b, .int (nI (d + 2)), .ref (ad1 75), .ref (ad1 140), .ref (ad1 141), .ref (ad1 142), .int dw, .ref a8, .ref a9, .ref (ad1 eg), .ref (ad1 146)] := (hs8 _ (by omega)).trans ((va_un _ _ (by omega)).trans (k1_0))
        have k2_eg : V1 eg = ra G 5 1 (va_up FE 0 (some (ad1 N))) := (hs8 _ (by omega)).trans (va_us _ _ _)
        have k2_ee : V1 ee = ia G (2 * k) fe := (hs8 _ (by omega)).trans ((va_un _ _ (by omega)).trans (k1_ee))
        have k2_N : V1 N = ia G (2 * k + 2) fn9 := (hs8 _ (by omega)).trans ((va_un _ _ (by omega)).trans (hfn1))
        have q2_ts := isTs_cam hs8 (by omega) (isTs_up q1_ts (by omega))
        have q2_cam := hc8
        have ea2 : ∀ j, j < N → ad1 j = ad j := ea1
        have ca2 : ∀ j, j < N → (75 < j ∧ j ≠ eg) → V1 j = C j := fun j h hx9 => (hs8 j (by omega)).trans ((va_un _ _ (by omega)).trans (ca1 j h hx9))
        refine lv_asI (y := nI (k + 1)) (by rw [hel]) ?_
        refine lv_aload_n hx hb dX7_edit_92 rfl (lv_at hl 2 rfl) ?_
        refine iw_get hx hb hts iu_X7_edit_7 hown hK hP (by omega) (k2_0) rfl 10 (by decide) (hts _ il_X7_edit_39) (fun _ h9 => h9) rfl dX7_edit_93 ?_
        refine lv_iload_n hx hb dX7_edit_96 rfl (lv_at hl 3 rfl) ?_
        refine iw_gald (v := ad1 (N)) hx hb hK hP (by omega) (k2_eg) (vp_in_nI (show 0 < 1 by omega) (by omega)) ((congrArg (va_up FE 0 (some (ad1 N))) (nI_clamp (by omega))).trans ((fun (i : Nat) (hi : i < 1) => (by rw [show i = 0 by omega]; exact va_us _ _ _ : va_up FE 0 (some (ad1 N)) i = some (ad1 N))) _ (by omega))) dX7_edit_97 ?_
        refine iw_alenI (v := nI (2 * k + 2)) hx hb hK hP (by omega) (k2_N) rfl dX7_edit_98 ?_
        refine lv_iconst (v := nI 2) hx hb dX7_edit_99 (by decide) ?_
        refine lv_idiv hx hb dX7_edit_100 (by decide) ?_
        refine lv_asI (y := nI ((2 * k + 2) / 2)) (pk_div (by omega) (by omega) (by omega)) ?_
        refine lv_icmp_ne (tgt := 108) hx hb dX7_edit_101 (by decide) (fun c9 => absurd ((by rw [show (2 * k + 2) / 2 = k + 1 by omega])) c9) (fun _ => ?_)
        refine lv_iconst (v := nI 1) hx hb dX7_edit_104 (by decide) ?_
        refine lv_goto (tgt := 109) hx hb dX7_edit_105 (by decide) ?_
        refine W.widen (k := 1) (n := 12) (Nat.le_of_ble_eq_true rfl) (Nat.le_of_ble_eq_true rfl) ?_
        have z_0 : (V1) 0 = ob 7 [.ref (ad1 1), .ref b, .int (nI (d + 2)), .ref (ad1 75), .ref (ad1 140), .ref (ad1 141), .ref (ad1 142), .int dw, .ref a8, .ref a9, .ref (ad1 eg), .ref (ad1 146)] := k2_0
        have z_eg : (V1) eg = ra G 5 1 (va_up FE 0 (some (ad1 N))) := k2_eg
        have z_N : (V1) N = ia G (2 * k + 2) fn9 := k2_N
        exact W.zret (v := (nI 1)) (ty := .boolean) hx hb hr (by decide) (fun t ht hW => ⟨⟨_, (ad1, V1), rfl, ⟨rfl, ⟨ea2, fun j h hx9 => ca2 j h hx9, ⟨q1, q2, ⟨⟨by omega, by omega, fun h => by omega, fun h => by omega⟩, fun h => by omega⟩, (Cam_N q2_cam (by omega)), q2_ts, ⟨d + 2, (by omega), z_0⟩, va_up FE 0 (some (ad1 N)), fn9, z_eg, (fun i hi => by rw [show i = 0 by omega]; exact va_us _ _ _), z_N⟩⟩⟩, ⟨by rw [ht]; exact hP, hD⟩⟩, hS.F ht⟩) hS.2.2 dX7_edit_109
    · have p2 : ¬ 3 ≤ q1 := mt (nI_leI (by omega) (by omega)).mpr c22
      refine lv_iconst (v := nI 1) hx hb dX7_edit_25 (by decide) ?_
      refine lv_aload_n hx hb dX7_edit_26 rfl (lv_at hl 1 rfl) ?_
      refine lv_bipush (v := nI 16) hx hb dX7_edit_27 (by decide) ?_
      refine iw_i (va_runV (As := [.int (nI 16)]) (rest := [.int (nI 1)]) ⟨hx, hb, hml, hown, hts⟩ (kX7_draw l G (N) ad _ b L xs (t := 0) (by omega) (16) (by omega) (d + 1) (by omega) (va_us _ _ _) _) (cwV 1 hts gX7_edit_X7_draw rfl rfl rfl (by decide +kernel) ⟨Nat.le_of_ble_eq_true rfl, Nat.le_of_ble_eq_true rfl⟩) (iPVX hK hV hX hbA hS hP hD (by omega) (va_us _ _ _) rfl [.int (nI 16)]) rfl rfl hl.1 rfl (lv_room (Nat.le_of_ble_eq_true rfl)) dX7_edit_29 ⟨Nat.le_of_ble_eq_true rfl, Nat.le_of_ble_eq_true rfl⟩) hD hS hA (fun r8 u8 H locs hw8 hP hD hS => ?_)
      obtain ⟨⟨q2, hq2, hr8⟩, hu8⟩ := hw8
      refine lv_asI hr8 ?_
      rw [hu8] at hP hD
      rw [va_uu _ _ _ _] at hP hD
      refine lv_iadd hx hb dX7_edit_32 ?_
      refine lv_asI (y := nI (1 + q2)) (nI_add _ _) ?_
      refine lv_goto (tgt := 50) hx hb dX7_edit_33 (by decide) ?_
      refine lv_istore_n (lv' := [(3, .int (nI (1 + q2))), (2, .int (nI q1)), (0, .ref (ad 0)), (1, .int (nI 0))]) hx hb dX7_edit_50 rfl hl (by decide) rfl (fun ls hl => ?_)
      refine lv_aload_n hx hb dX7_edit_51 rfl (lv_at hl 2 rfl) ?_
      refine iw_get hx hb hts iu_X7_edit_7 hown hK hP (by omega) (va_us _ _ _) rfl 10 (by decide) (hts _ il_X7_edit_39) (fun _ h9 => h9) rfl dX7_edit_52 ?_
      refine lv_iload_n hx hb dX7_edit_55 rfl (lv_at hl 3 rfl) ?_
      refine iw_gald (v := ad (ee)) hx hb hK hP (by omega) ((va_un _ _ (by omega)).trans (hFE)) (vp_in_nI (show 0 < 1 by omega) (by omega)) ((congrArg FE (nI_clamp (by omega))).trans (hFE1 _ (by omega))) dX7_edit_56 ?_
      refine iw_alenI (v := nI (2 * k)) hx hb hK hP (by omega) ((va_un _ _ (by omega)).trans (hfe)) rfl dX7_edit_57 ?_
      refine lv_bipush (v := nI 11) hx hb dX7_edit_58 (by decide) ?_
      refine lv_icmp_le (tgt := 65) hx hb dX7_edit_60 (by decide) (fun _ => ?_) (fun c9 => absurd ((nI_le (by omega) (by omega))) c9)
      refine lv_aload_n hx hb dX7_edit_65 rfl (lv_at hl 2 rfl) ?_
      refine iw_get hx hb hts iu_X7_edit_7 hown hK hP (by omega) (va_us _ _ _) rfl 10 (by decide) (hts _ il_X7_edit_39) (fun _ h9 => h9) rfl dX7_edit_66 ?_
      refine lv_iload_n hx hb dX7_edit_69 rfl (lv_at hl 3 rfl) ?_
      refine lv_aload_n hx hb dX7_edit_70 rfl (lv_at hl 2 rfl) ?_
      refine iw_get hx hb hts iu_X7_edit_7 hown hK hP (by omega) (va_us _ _ _) rfl 10 (by decide) (hts _ il_X7_edit_39) (fun _ h9 => h9) rfl dX7_edit_71 ?_
      refine lv_iload_n hx hb dX7_edit_74 rfl (lv_at hl 3 rfl) ?_
      refine iw_gald (v := ad (ee)) hx hb hK hP (by omega) ((va_un _ _ (by omega)).trans (hFE)) (vp_in_nI (show 0 < 1 by omega) (by omega)) ((congrArg FE (nI_clamp (by omega))).trans (hFE1 _ (by omega))) dX7_edit_75 ?_
      refine lv_iload_n hx hb dX7_edit_76 rfl (lv_at hl 1 rfl) ?_
      refine lv_iload_n hx hb dX7_edit_77 rfl (lv_at hl 0 rfl) ?_
      refine iwg_r (k := N) (va_runS (As := [.ref (ad ee), .int (nI q1), .int (nI (1 + q2))]) (rest := [.int (nI 0), .ref (ad eg)]) ⟨hx, hb, hml, hown, hts⟩ (kX7_plus_ l G (N) ad _ (by omega) (by omega) ((va_un _ _ (by omega)).trans (hfe)) (nI q1) (nI (1 + q2)) _) (va_cwS 3 hts gX7_edit_X7_plus_ rfl rfl rfl (by decide +kernel) ⟨Nat.le_of_ble_eq_true rfl, Nat.le_of_ble_eq_true rfl⟩) (iPS hK hP hD [.ref (ad ee), .int (nI q1), .int (nI (1 + q2))]) rfl rfl hl.1 rfl (lv_room (Nat.le_of_ble_eq_true rfl)) dX7_edit_78 ⟨Nat.le_of_ble_eq_true rfl, Nat.le_of_ble_eq_true rfl⟩) hD hS hA (fun ad1 C1 H locs hw8 hP hD hS => ?_)
      dsimp only at hw8
      obtain ⟨e1, c1, fn9, hfn1⟩ := hw8
      have k1_0 : C1 0 = ob 7 [.ref (ad1 1), .ref b, .int (nI (d + 2)), .ref (ad1 75), .ref (ad1 140), .ref (ad1 141), .ref (ad1 142), .int dw, .ref a8, .ref a9, .ref (ad1 eg), .ref (ad1 146)] := (c1 _ (by omega)).trans ((va_us _ _ _).trans (by first | (rw [e1 1 (by omega), e1 75 (by omega), e1 140 (by omega), e1 141 (by omega), e1 142 (by omega), e1 eg (by omega), e1 146 (by omega)]; done) | (rw [e1 1 (by omega), e1 75 (by omega), e1 140 (by omega), e1 141 (by omega), e1 142 (by omega), e1 eg (by omega), e1 146 (by omega)]; rfl)))
      have k1_eg : C1 eg = ra G 5 1 FE := (c1 _ (by omega)).trans ((va_un _ _ (by omega)).trans (hFE))
      have k1_ee : C1 ee = ia G (2 * k) fe := (c1 _ (by omega)).trans ((va_un _ _ (by omega)).trans (hfe))
      have q1_cam := Cam_gr e1 c1 (by omega) (by omega) (Cam_up hcam (by omega))
      have q1_ts := isTs_gr e1 c1 (by omega) (by omega) (isTs_up hts0 (by omega))
      have ea1 : ∀ j, j < N → ad1 j = ad j := fun j h => e1 j (by omega)
      have ca1 : ∀ j, j < N → (75 < j ∧ j ≠ eg) → C1 j = C j := fun j h hx9 => (c1 j (by omega)).trans ((va_un _ _ (by omega)).trans (rfl))
      have hl : lv_has ls 4 [(3, .int (nI (1 + q2))), (2, .int (nI q1)), (0, .ref (ad1 0)), (1, .int (nI 0))] := by rw [e1 0 (by omega)]; exact hl
      refine W.eq (g2 := F0 m 81 ls [.ref (ad1 N), .int (nI 0), .ref (ad1 eg)]) (by first | (rw [e1 eg (by omega)]; done) | (rw [e1 eg (by omega)]; rfl)) ?_
      refine iw_gast hx hb hK (vx_ag hV) hP hD hS (by omega) (k1_eg) (by omega) (hfn1) (vp_in_nI (show 0 < 1 by omega) (by omega)) (nI_clamp (by omega)) dX7_edit_81 (fun H locs hP hD hS => ?_)
      refine lv_aload_n hx hb dX7_edit_82 rfl (lv_at hl 2 rfl) ?_
      refine iw_get hx hb hts iu_X7_edit_7 hown hK hP (by omega) ((va_un _ _ (by omega)).trans (k1_0)) rfl 0 (by decide) (hts _ il_X7_edit_10) (fun _ h9 => h9) rfl dX7_edit_83 ?_
      refine lv_iload_n hx hb dX7_edit_86 rfl (lv_at hl 3 rfl) ?_
      refine lv_iload_n hx hb dX7_edit_87 rfl (lv_at hl 1 rfl) ?_
      refine lv_iload_n hx hb dX7_edit_88 rfl (lv_at hl 0 rfl) ?_
      refine iw_i (va_runV (As := [.int (nI 0), .int (nI q1), .int (nI (1 + q2))]) (rest := []) ⟨hx, hb, hml, hown, hts⟩ (kX6_edit l G (N + 1) ad1 _ 1 S (Cam_N (Cam_up q1_cam (by omega)) (by omega)) 0 (by omega) (q1) (1 + q2) ⟨by omega, by omega, fun h => by omega, fun h => by omega⟩ (fun h => by omega) (by omega) _) (cwV 3 hts gX7_edit_X6_edit rfl rfl rfl (by decide +kernel) ⟨Nat.le_of_ble_eq_true rfl, Nat.le_of_ble_eq_true rfl⟩) (iPV hK hP hD (by omega) ((va_un _ _ (by omega)).trans (q1_cam.2.2.1)) rfl [.int (nI 0), .int (nI q1), .int (nI (1 + q2))]) rfl rfl hl.1 rfl (lv_room (Nat.le_of_ble_eq_true rfl)) dX7_edit_89 ⟨Nat.le_of_ble_eq_true rfl, Nat.le_of_ble_eq_true rfl⟩) hD hS hA (fun r8 u8 H locs hw8 hP hD hS => ?_)
      obtain ⟨hr8, hc8, hs8⟩ := hw8
      refine lv_asI hr8 ?_
      obtain ⟨V1, rfl⟩ : ∃ V, V = u8 := ⟨_, rfl⟩
      have k2_0 : V1 0 = ob 7 [.ref (ad1 1), .ref b, .int (nI (d + 2)), .ref (ad1 75), .ref (ad1 140), .ref (ad1 141), .ref (ad1 142), .int dw, .ref a8, .ref a9, .ref (ad1 eg), .ref (ad1 146)] := (hs8 _ (by omega)).trans ((va_un _ _ (by omega)).trans (k1_0))
      have k2_eg : V1 eg = ra G 5 1 (va_up FE 0 (some (ad1 N))) := (hs8 _ (by omega)).trans (va_us _ _ _)
      have k2_ee : V1 ee = ia G (2 * k) fe := (hs8 _ (by omega)).trans ((va_un _ _ (by omega)).trans (k1_ee))
      have k2_N : V1 N = ia G (2 * k + 2) fn9 := (hs8 _ (by omega)).trans ((va_un _ _ (by omega)).trans (hfn1))
      have q2_ts := isTs_cam hs8 (by omega) (isTs_up q1_ts (by omega))
      have q2_cam := hc8
      have ea2 : ∀ j, j < N → ad1 j = ad j := ea1
      have ca2 : ∀ j, j < N → (75 < j ∧ j ≠ eg) → V1 j = C j := fun j h hx9 => (hs8 j (by omega)).trans ((va_un _ _ (by omega)).trans (ca1 j h hx9))
      refine lv_asI (y := nI (k + 1)) (by rw [hel]) ?_
      refine lv_aload_n hx hb dX7_edit_92 rfl (lv_at hl 2 rfl) ?_
      refine iw_get hx hb hts iu_X7_edit_7 hown hK hP (by omega) (k2_0) rfl 10 (by decide) (hts _ il_X7_edit_39) (fun _ h9 => h9) rfl dX7_edit_93 ?_
      refine lv_iload_n hx hb dX7_edit_96 rfl (lv_at hl 3 rfl) ?_
      refine iw_gald (v := ad1 (N)) hx hb hK hP (by omega) (k2_eg) (vp_in_nI (show 0 < 1 by omega) (by omega)) ((congrArg (va_up FE 0 (some (ad1 N))) (nI_clamp (by omega))).trans ((fun (i : Nat) (hi : i < 1) => (by rw [show i = 0 by omega]; exact va_us _ _ _ : va_up FE 0 (some (ad1 N)) i = some (ad1 N))) _ (by omega))) dX7_edit_97 ?_
      refine iw_alenI (v := nI (2 * k + 2)) hx hb hK hP (by omega) (k2_N) rfl dX7_edit_98 ?_
      refine lv_iconst (v := nI 2) hx hb dX7_edit_99 (by decide) ?_
      refine lv_idiv hx hb dX7_edit_100 (by decide) ?_
      refine lv_asI (y := nI ((2 * k + 2) / 2)) (pk_div (by omega) (by omega) (by omega)) ?_
      refine lv_icmp_ne (tgt := 108) hx hb dX7_edit_101 (by decide) (fun c9 => absurd ((by rw [show (2 * k + 2) / 2 = k + 1 by omega])) c9) (fun _ => ?_)
      refine lv_iconst (v := nI 1) hx hb dX7_edit_104 (by decide) ?_
      refine lv_goto (tgt := 109) hx hb dX7_edit_105 (by decide) ?_
      refine W.widen (k := 1) (n := 12) (Nat.le_of_ble_eq_true rfl) (Nat.le_of_ble_eq_true rfl) ?_
      have z_0 : (V1) 0 = ob 7 [.ref (ad1 1), .ref b, .int (nI (d + 2)), .ref (ad1 75), .ref (ad1 140), .ref (ad1 141), .ref (ad1 142), .int dw, .ref a8, .ref a9, .ref (ad1 eg), .ref (ad1 146)] := k2_0
      have z_eg : (V1) eg = ra G 5 1 (va_up FE 0 (some (ad1 N))) := k2_eg
      have z_N : (V1) N = ia G (2 * k + 2) fn9 := k2_N
      exact W.zret (v := (nI 1)) (ty := .boolean) hx hb hr (by decide) (fun t ht hW => ⟨⟨_, (ad1, V1), rfl, ⟨rfl, ⟨ea2, fun j h hx9 => ca2 j h hx9, ⟨q1, (1 + q2), ⟨⟨by omega, by omega, fun h => by omega, fun h => by omega⟩, fun h => by omega⟩, (Cam_N q2_cam (by omega)), q2_ts, ⟨d + 2, (by omega), z_0⟩, va_up FE 0 (some (ad1 N)), fn9, z_eg, (fun i hi => by rw [show i = 0 by omega]; exact va_us _ _ _), z_N⟩⟩⟩, ⟨by rw [ht]; exact hP, hD⟩⟩, hS.F ht⟩) hS.2.2 dX7_edit_109
  · have p1 : q1 = 0 := (nI_eq (by omega) (by omega)).mp (c8.trans nI_0.symm)
    refine lv_aload_n hx hb dX7_edit_11 rfl (lv_at hl 1 rfl) ?_
    refine lv_bipush (v := nI 65) hx hb dX7_edit_12 (by decide) ?_
    refine iw_i (va_runV (As := [.int (nI 65)]) (rest := []) ⟨hx, hb, hml, hown, hts⟩ (kX7_draw l G (N) ad _ b L xs (t := 0) (by omega) (65) (by omega) (d + 1) (by omega) (va_us _ _ _) _) (cwV 1 hts gX7_edit_X7_draw rfl rfl rfl (by decide +kernel) ⟨Nat.le_of_ble_eq_true rfl, Nat.le_of_ble_eq_true rfl⟩) (iPVX hK hV hX hbA hS hP hD (by omega) (va_us _ _ _) rfl [.int (nI 65)]) rfl rfl hl.1 rfl (lv_room (Nat.le_of_ble_eq_true rfl)) dX7_edit_14 ⟨Nat.le_of_ble_eq_true rfl, Nat.le_of_ble_eq_true rfl⟩) hD hS hA (fun r8 u8 H locs hw8 hP hD hS => ?_)
    obtain ⟨⟨q2, hq2, hr8⟩, hu8⟩ := hw8
    refine lv_asI hr8 ?_
    rw [hu8] at hP hD
    rw [va_uu _ _ _ _] at hP hD
    refine lv_goto (tgt := 50) hx hb dX7_edit_17 (by decide) ?_
    refine lv_istore_n (lv' := [(3, .int (nI q2)), (2, .int (nI q1)), (0, .ref (ad 0)), (1, .int (nI 0))]) hx hb dX7_edit_50 rfl hl (by decide) rfl (fun ls hl => ?_)
    refine lv_aload_n hx hb dX7_edit_51 rfl (lv_at hl 2 rfl) ?_
    refine iw_get hx hb hts iu_X7_edit_7 hown hK hP (by omega) (va_us _ _ _) rfl 10 (by decide) (hts _ il_X7_edit_39) (fun _ h9 => h9) rfl dX7_edit_52 ?_
    refine lv_iload_n hx hb dX7_edit_55 rfl (lv_at hl 3 rfl) ?_
    refine iw_gald (v := ad (ee)) hx hb hK hP (by omega) ((va_un _ _ (by omega)).trans (hFE)) (vp_in_nI (show 0 < 1 by omega) (by omega)) ((congrArg FE (nI_clamp (by omega))).trans (hFE1 _ (by omega))) dX7_edit_56 ?_
    refine iw_alenI (v := nI (2 * k)) hx hb hK hP (by omega) ((va_un _ _ (by omega)).trans (hfe)) rfl dX7_edit_57 ?_
    refine lv_bipush (v := nI 11) hx hb dX7_edit_58 (by decide) ?_
    refine lv_icmp_le (tgt := 65) hx hb dX7_edit_60 (by decide) (fun _ => ?_) (fun c9 => absurd ((nI_le (by omega) (by omega))) c9)
    refine lv_aload_n hx hb dX7_edit_65 rfl (lv_at hl 2 rfl) ?_
    refine iw_get hx hb hts iu_X7_edit_7 hown hK hP (by omega) (va_us _ _ _) rfl 10 (by decide) (hts _ il_X7_edit_39) (fun _ h9 => h9) rfl dX7_edit_66 ?_
    refine lv_iload_n hx hb dX7_edit_69 rfl (lv_at hl 3 rfl) ?_
    refine lv_aload_n hx hb dX7_edit_70 rfl (lv_at hl 2 rfl) ?_
    refine iw_get hx hb hts iu_X7_edit_7 hown hK hP (by omega) (va_us _ _ _) rfl 10 (by decide) (hts _ il_X7_edit_39) (fun _ h9 => h9) rfl dX7_edit_71 ?_
    refine lv_iload_n hx hb dX7_edit_74 rfl (lv_at hl 3 rfl) ?_
    refine iw_gald (v := ad (ee)) hx hb hK hP (by omega) ((va_un _ _ (by omega)).trans (hFE)) (vp_in_nI (show 0 < 1 by omega) (by omega)) ((congrArg FE (nI_clamp (by omega))).trans (hFE1 _ (by omega))) dX7_edit_75 ?_
    refine lv_iload_n hx hb dX7_edit_76 rfl (lv_at hl 1 rfl) ?_
    refine lv_iload_n hx hb dX7_edit_77 rfl (lv_at hl 0 rfl) ?_
    refine iwg_r (k := N) (va_runS (As := [.ref (ad ee), .int (nI q1), .int (nI q2)]) (rest := [.int (nI 0), .ref (ad eg)]) ⟨hx, hb, hml, hown, hts⟩ (kX7_plus_ l G (N) ad _ (by omega) (by omega) ((va_un _ _ (by omega)).trans (hfe)) (nI q1) (nI q2) _) (va_cwS 3 hts gX7_edit_X7_plus_ rfl rfl rfl (by decide +kernel) ⟨Nat.le_of_ble_eq_true rfl, Nat.le_of_ble_eq_true rfl⟩) (iPS hK hP hD [.ref (ad ee), .int (nI q1), .int (nI q2)]) rfl rfl hl.1 rfl (lv_room (Nat.le_of_ble_eq_true rfl)) dX7_edit_78 ⟨Nat.le_of_ble_eq_true rfl, Nat.le_of_ble_eq_true rfl⟩) hD hS hA (fun ad1 C1 H locs hw8 hP hD hS => ?_)
    dsimp only at hw8
    obtain ⟨e1, c1, fn9, hfn1⟩ := hw8
    have k1_0 : C1 0 = ob 7 [.ref (ad1 1), .ref b, .int (nI (d + 2)), .ref (ad1 75), .ref (ad1 140), .ref (ad1 141), .ref (ad1 142), .int dw, .ref a8, .ref a9, .ref (ad1 eg), .ref (ad1 146)] := (c1 _ (by omega)).trans ((va_us _ _ _).trans (by first | (rw [e1 1 (by omega), e1 75 (by omega), e1 140 (by omega), e1 141 (by omega), e1 142 (by omega), e1 eg (by omega), e1 146 (by omega)]; done) | (rw [e1 1 (by omega), e1 75 (by omega), e1 140 (by omega), e1 141 (by omega), e1 142 (by omega), e1 eg (by omega), e1 146 (by omega)]; rfl)))
    have k1_eg : C1 eg = ra G 5 1 FE := (c1 _ (by omega)).trans ((va_un _ _ (by omega)).trans (hFE))
    have k1_ee : C1 ee = ia G (2 * k) fe := (c1 _ (by omega)).trans ((va_un _ _ (by omega)).trans (hfe))
    have q1_cam := Cam_gr e1 c1 (by omega) (by omega) (Cam_up hcam (by omega))
    have q1_ts := isTs_gr e1 c1 (by omega) (by omega) (isTs_up hts0 (by omega))
    have ea1 : ∀ j, j < N → ad1 j = ad j := fun j h => e1 j (by omega)
    have ca1 : ∀ j, j < N → (75 < j ∧ j ≠ eg) → C1 j = C j := fun j h hx9 => (c1 j (by omega)).trans ((va_un _ _ (by omega)).trans (rfl))
    have hl : lv_has ls 4 [(3, .int (nI q2)), (2, .int (nI q1)), (0, .ref (ad1 0)), (1, .int (nI 0))] := by rw [e1 0 (by omega)]; exact hl
    refine W.eq (g2 := F0 m 81 ls [.ref (ad1 N), .int (nI 0), .ref (ad1 eg)]) (by first | (rw [e1 eg (by omega)]; done) | (rw [e1 eg (by omega)]; rfl)) ?_
    refine iw_gast hx hb hK (vx_ag hV) hP hD hS (by omega) (k1_eg) (by omega) (hfn1) (vp_in_nI (show 0 < 1 by omega) (by omega)) (nI_clamp (by omega)) dX7_edit_81 (fun H locs hP hD hS => ?_)
    refine lv_aload_n hx hb dX7_edit_82 rfl (lv_at hl 2 rfl) ?_
    refine iw_get hx hb hts iu_X7_edit_7 hown hK hP (by omega) ((va_un _ _ (by omega)).trans (k1_0)) rfl 0 (by decide) (hts _ il_X7_edit_10) (fun _ h9 => h9) rfl dX7_edit_83 ?_
    refine lv_iload_n hx hb dX7_edit_86 rfl (lv_at hl 3 rfl) ?_
    refine lv_iload_n hx hb dX7_edit_87 rfl (lv_at hl 1 rfl) ?_
    refine lv_iload_n hx hb dX7_edit_88 rfl (lv_at hl 0 rfl) ?_
    refine iw_i (va_runV (As := [.int (nI 0), .int (nI q1), .int (nI q2)]) (rest := []) ⟨hx, hb, hml, hown, hts⟩ (kX6_edit l G (N + 1) ad1 _ 1 S (Cam_N (Cam_up q1_cam (by omega)) (by omega)) 0 (by omega) (q1) (q2) ⟨by omega, by omega, fun h => by omega, fun h => by omega⟩ (fun h => by omega) (by omega) _) (cwV 3 hts gX7_edit_X6_edit rfl rfl rfl (by decide +kernel) ⟨Nat.le_of_ble_eq_true rfl, Nat.le_of_ble_eq_true rfl⟩) (iPV hK hP hD (by omega) ((va_un _ _ (by omega)).trans (q1_cam.2.2.1)) rfl [.int (nI 0), .int (nI q1), .int (nI q2)]) rfl rfl hl.1 rfl (lv_room (Nat.le_of_ble_eq_true rfl)) dX7_edit_89 ⟨Nat.le_of_ble_eq_true rfl, Nat.le_of_ble_eq_true rfl⟩) hD hS hA (fun r8 u8 H locs hw8 hP hD hS => ?_)
    obtain ⟨hr8, hc8, hs8⟩ := hw8
    refine lv_asI hr8 ?_
    obtain ⟨V1, rfl⟩ : ∃ V, V = u8 := ⟨_, rfl⟩
    have k2_0 : V1 0 = ob 7 [.ref (ad1 1), .ref b, .int (nI (d + 2)), .ref (ad1 75), .ref (ad1 140), .ref (ad1 141), .ref (ad1 142), .int dw, .ref a8, .ref a9, .ref (ad1 eg), .ref (ad1 146)] := (hs8 _ (by omega)).trans ((va_un _ _ (by omega)).trans (k1_0))
    have k2_eg : V1 eg = ra G 5 1 (va_up FE 0 (some (ad1 N))) := (hs8 _ (by omega)).trans (va_us _ _ _)
    have k2_ee : V1 ee = ia G (2 * k) fe := (hs8 _ (by omega)).trans ((va_un _ _ (by omega)).trans (k1_ee))
    have k2_N : V1 N = ia G (2 * k + 2) fn9 := (hs8 _ (by omega)).trans ((va_un _ _ (by omega)).trans (hfn1))
    have q2_ts := isTs_cam hs8 (by omega) (isTs_up q1_ts (by omega))
    have q2_cam := hc8
    have ea2 : ∀ j, j < N → ad1 j = ad j := ea1
    have ca2 : ∀ j, j < N → (75 < j ∧ j ≠ eg) → V1 j = C j := fun j h hx9 => (hs8 j (by omega)).trans ((va_un _ _ (by omega)).trans (ca1 j h hx9))
    refine lv_asI (y := nI (k + 1)) (by rw [hel]) ?_
    refine lv_aload_n hx hb dX7_edit_92 rfl (lv_at hl 2 rfl) ?_
    refine iw_get hx hb hts iu_X7_edit_7 hown hK hP (by omega) (k2_0) rfl 10 (by decide) (hts _ il_X7_edit_39) (fun _ h9 => h9) rfl dX7_edit_93 ?_
    refine lv_iload_n hx hb dX7_edit_96 rfl (lv_at hl 3 rfl) ?_
    refine iw_gald (v := ad1 (N)) hx hb hK hP (by omega) (k2_eg) (vp_in_nI (show 0 < 1 by omega) (by omega)) ((congrArg (va_up FE 0 (some (ad1 N))) (nI_clamp (by omega))).trans ((fun (i : Nat) (hi : i < 1) => (by rw [show i = 0 by omega]; exact va_us _ _ _ : va_up FE 0 (some (ad1 N)) i = some (ad1 N))) _ (by omega))) dX7_edit_97 ?_
    refine iw_alenI (v := nI (2 * k + 2)) hx hb hK hP (by omega) (k2_N) rfl dX7_edit_98 ?_
    refine lv_iconst (v := nI 2) hx hb dX7_edit_99 (by decide) ?_
    refine lv_idiv hx hb dX7_edit_100 (by decide) ?_
    refine lv_asI (y := nI ((2 * k + 2) / 2)) (pk_div (by omega) (by omega) (by omega)) ?_
    refine lv_icmp_ne (tgt := 108) hx hb dX7_edit_101 (by decide) (fun c9 => absurd ((by rw [show (2 * k + 2) / 2 = k + 1 by omega])) c9) (fun _ => ?_)
    refine lv_iconst (v := nI 1) hx hb dX7_edit_104 (by decide) ?_
    refine lv_goto (tgt := 109) hx hb dX7_edit_105 (by decide) ?_
    refine W.widen (k := 1) (n := 12) (Nat.le_of_ble_eq_true rfl) (Nat.le_of_ble_eq_true rfl) ?_
    have z_0 : (V1) 0 = ob 7 [.ref (ad1 1), .ref b, .int (nI (d + 2)), .ref (ad1 75), .ref (ad1 140), .ref (ad1 141), .ref (ad1 142), .int dw, .ref a8, .ref a9, .ref (ad1 eg), .ref (ad1 146)] := k2_0
    have z_eg : (V1) eg = ra G 5 1 (va_up FE 0 (some (ad1 N))) := k2_eg
    have z_N : (V1) N = ia G (2 * k + 2) fn9 := k2_N
    exact W.zret (v := (nI 1)) (ty := .boolean) hx hb hr (by decide) (fun t ht hW => ⟨⟨_, (ad1, V1), rfl, ⟨rfl, ⟨ea2, fun j h hx9 => ca2 j h hx9, ⟨q1, q2, ⟨⟨by omega, by omega, fun h => by omega, fun h => by omega⟩, fun h => by omega⟩, (Cam_N q2_cam (by omega)), q2_ts, ⟨d + 2, (by omega), z_0⟩, va_up FE 0 (some (ad1 N)), fn9, z_eg, (fun i hi => by rw [show i = 0 by omega]; exact va_us _ _ _), z_N⟩⟩⟩, ⟨by rw [ht]; exact hP, hD⟩⟩, hS.F ht⟩) hS.2.2 dX7_edit_109
abbrev rmX7_save : Room := { frames := 3, cells := 2, slots := 6, locals := 67 }
set_option maxRecDepth 20000 in
theorem iu_X7_save_7 : ∀ w ∈ u_ws RX7 TX7 12, w ∈ wsX7_save := by decide +kernel
set_option maxRecDepth 20000 in
theorem il_X7_save_42 : (Cond.fieldLink RX7 42 "BayerGateLaw$Told" "files" "[[I") ∈ wsX7_save := by decide +kernel
set_option maxRecDepth 20000 in
theorem il_X7_save_39 : (Cond.fieldLink RX7 39 "BayerGateLaw$Told" "edits" "[[I") ∈ wsX7_save := by decide +kernel
set_option maxRecDepth 20000 in
theorem il_X7_save_arrint : (Cond.arrayClass .int) ∈ wsX7_save := by decide +kernel
set_option maxRecDepth 20000 in
theorem il_X7_save_62 : (Cond.methodLink RX7 62 arraycopyName) ∈ wsX7_save := by decide +kernel
set_option maxRecDepth 20000 in
theorem il_X7_save_natac : (Cond.native arraycopyName) ∈ wsX7_save := by decide +kernel
set_option maxRecDepth 20000 in
theorem il_X7_save_stac : (Cond.static arraycopyName) ∈ wsX7_save := by decide +kernel
set_option maxRecDepth 20000 in
theorem il_X7_save_inisys : (Cond.initialized "java/lang/System") ∈ wsX7_save := by decide +kernel
set_option maxRecDepth 20000 in
theorem il_X7_save_10 : (Cond.fieldLink RX7 10 "BayerGateLaw$Told" "m" "LBayerGate;") ∈ wsX7_save := by decide +kernel
set_option maxHeartbeats 4000000 in
set_option maxRecDepth 100000 in
theorem kX7_save (l : Launch) (G : iG) (N : Nat) (ad : Nat → Nat) (C : Nat → va_E) (h151 : 157 ≤ N) (S : St) (hcam : Cam G N ad C 1 S) (sn : Nat → Nat) (hts0 : isTs G ad C 151 sn) {b : Nat} (d : Nat) {dw : Int32} {a8 a9 eg ee : Nat} (heg : 151 ≤ eg ∧ eg < N) (hee : 150 < ee ∧ ee < N) (h0 : C 0 = ob 7 [.ref (ad 1), .ref b, .int (nI d), .ref (ad 75), .ref (ad 140), .ref (ad 141), .ref (ad 142), .int dw, .ref a8, .ref a9, .ref (ad eg), .ref (ad 146)]) {FE F146 : Nat → Option Nat} {fe : Nat → Int32} (hFE : C eg = ra G 5 1 FE) (hFE1 : ∀ i, i < 1 → FE i = some (ad ee)) (hfe : C ee = ia G 4 fe) (g146 : C 146 = ra G 5 0 F146) (hf1 : sFn S = 1) (hfl0 : sFl S = 0) (sz : Nat) : Met l yX7_save wsX7_save rmX7_save (iPreV G (N) ad C sz [.ref (ad 0), .int (nI 0)]) (va_Qi (fun (r : Int32) (u : iU) => (r = nI 1) ∧ (∀ j, j < N → u.1 j = ad j) ∧ (∀ j, j < N → 75 < j → u.2 j = C j) ∧ Cam G (N + 2) u.1 u.2 1 (mkS (sSh S) (sFac S) (sGq S) (sHw S) (sMp S) (sDr S) (sFn S) (sFl S + 1) (sFr S) (va_up (sFi S) (sFl S) ((sFr S 0).2.1, 0, cfN (sFi S) 0 (sFl S) + 1))) ∧ isTs G u.1 u.2 151 sn ∧ u.2 0 = ob 7 [.ref (u.1 1), .ref b, .int (nI d), .ref (u.1 75), .ref (u.1 140), .ref (u.1 141), .ref (u.1 142), .int dw, .ref a8, .ref a9, .ref (u.1 eg), .ref (u.1 (N + 1))]) (iB2 G (N + 2) (iA (N) ad sz)) (iA (N) ad sz)) 2 6 (iA (N) ad sz) := by
  refine Met.ofW (cc := cX7_save) (maxL := 3) (ret := (some .boolean)) (by decide) rfl ?_
  intro p e s m args below meth c s₁ B hml hv
  obtain ⟨rfl, ⟨hsz, hP, hK, hD0⟩, hV⟩ := hv
  have hx := B.exec
  have hb := B.bytes
  have hr := B.returns
  have hts := atoms_spec (ws := wsX7_save) B.pre
  have hown : s.vm.findClass RX7 = some m.cls := findClass_of_methodNamed B.named
  have hlocks := B.notSynchronized
  subst hsz
  have hD := wl_self hD0 s.heap.size
  have hA : ∀ q : Nat, s.heap.size ≤ q → iA (N) ad s.heap.size q := fun q h => Or.inr h
  have hS : va_S (iA (N) ad s.heap.size) s.heap s.heap [] := va_S.rf
  have hP : va_P G.1 vwB (wl (N) ad C) s.heap := hP
  have hl := lv_entry ([.ref (ad 0), .int (nI 0)]) (n := 3) (Nat.le_of_ble_eq_true rfl)
  rw [lg_entry_eq]
  generalize (lg_sl ([.ref (ad 0), .int (nI 0)]) ++ List.replicate (3 - (lg_sl ([.ref (ad 0), .int (nI 0)])).length) Slot.unset).toArray = ls at hl ⊢
  have hl : lv_has ls 3 [(0, .ref (ad 0)), (1, .int (nI 0))] := hl
  refine lv_aload_n hx hb dX7_save_0 rfl (lv_at hl 0 rfl) ?_
  refine iw_get hx hb hts iu_X7_save_7 hown hK hP (by omega) (h0) rfl 11 (by decide) (hts _ il_X7_save_42) (fun _ h9 => h9) rfl dX7_save_1 ?_
  refine iw_alenG (v := nI 0) hx hb hK hP (by omega) (g146) rfl dX7_save_4 ?_
  refine lv_iconst (v := nI 5) hx hb dX7_save_5 (by decide) ?_
  refine lv_icmp_le (tgt := 11) hx hb dX7_save_6 (by decide) (fun _ => ?_) (fun c9 => absurd (by decide) c9)
  refine lv_aload_n hx hb dX7_save_11 rfl (lv_at hl 0 rfl) ?_
  refine iw_get hx hb hts iu_X7_save_7 hown hK hP (by omega) (h0) rfl 10 (by decide) (hts _ il_X7_save_39) (fun _ h9 => h9) rfl dX7_save_12 ?_
  refine lv_iload_n hx hb dX7_save_15 rfl (lv_at hl 1 rfl) ?_
  refine iw_gald (v := ad (ee)) hx hb hK hP (by omega) (hFE) (vp_in_nI (show 0 < 1 by omega) (by omega)) ((congrArg FE (nI_clamp (by omega))).trans (hFE1 _ (by omega))) dX7_save_16 ?_
  refine iw_alenI (v := nI 4) hx hb hK hP (by omega) (hfe) rfl dX7_save_17 ?_
  refine lv_iconst (v := nI 1) hx hb dX7_save_18 (by decide) ?_
  refine lv_iadd hx hb dX7_save_19 ?_
  refine lv_asI (y := nI 5) (nI_add _ _) ?_
  refine iw_newI (N' := 5) hx hb (hts _ il_X7_save_arrint) hK hP hD hS hA (by decide) (by decide) (Nat.le_of_ble_eq_true rfl) (Nat.le_of_ble_eq_true rfl) (Nat.le_of_ble_eq_true rfl) dX7_save_20 (fun ad1 C1 H e1 c1 n1 hP hD hS => ?_)
  have k1_0 : C1 0 = ob 7 [.ref (ad1 1), .ref b, .int (nI d), .ref (ad1 75), .ref (ad1 140), .ref (ad1 141), .ref (ad1 142), .int dw, .ref a8, .ref a9, .ref (ad1 eg), .ref (ad1 146)] := (c1 _ (by omega)).trans ((h0).trans (by first | (rw [e1 1 (by omega), e1 75 (by omega), e1 140 (by omega), e1 141 (by omega), e1 142 (by omega), e1 eg (by omega), e1 146 (by omega)]; done) | (rw [e1 1 (by omega), e1 75 (by omega), e1 140 (by omega), e1 141 (by omega), e1 142 (by omega), e1 eg (by omega), e1 146 (by omega)]; rfl)))
  have k1_eg : C1 eg = ra G 5 1 FE := (c1 _ (by omega)).trans (hFE)
  have k1_ee : C1 ee = ia G 4 fe := (c1 _ (by omega)).trans (hfe)
  have k1_146 : C1 146 = ra G 5 0 F146 := (c1 _ (by omega)).trans (g146)
  have q1_cam := Cam_gr e1 c1 (by omega) (by omega) hcam
  have q1_ts := isTs_gr e1 c1 (by omega) (by omega) hts0
  have ea1 : ∀ j, j < N → ad1 j = ad j := fun j h => e1 j (by omega)
  have ca1 : ∀ j, j < N → 75 < j → C1 j = C j := fun j h hx9 => (c1 j (by omega)).trans (rfl)
  have hl : lv_has ls 3 [(0, .ref (ad1 0)), (1, .int (nI 0))] := by rw [e1 0 (by omega)]; exact hl
  have hFE1 : ∀ i, i < 1 → FE i = some (ad1 ee) := fun i hi => (hFE1 i hi).trans (congrArg some (e1 _ (by omega)).symm)
  refine lv_astore_n (lv' := [(2, .ref (ad1 N)), (0, .ref (ad1 0)), (1, .int (nI 0))]) hx hb dX7_save_22 rfl hl (by decide) rfl (fun ls hl => ?_)
  refine lv_aload_n hx hb dX7_save_23 rfl (lv_at hl 0 rfl) ?_
  refine lv_iconst (v := nI 0) hx hb dX7_save_24 (by decide) ?_
  refine lv_iload_n hx hb dX7_save_25 rfl (lv_at hl 2 rfl) ?_
  refine iw_iast hx hb hK hP hD hS (by omega) (n1) (vp_in_nI (show 0 < 5 by omega) (by omega)) (nI_clamp (by omega)) dX7_save_26 (fun H locs hP hD hS => ?_)
  refine lv_aload_n hx hb dX7_save_27 rfl (lv_at hl 1 rfl) ?_
  refine iw_get hx hb hts iu_X7_save_7 hown hK hP (by omega) ((va_un _ _ (by omega)).trans (k1_0)) rfl 10 (by decide) (hts _ il_X7_save_39) (fun _ h9 => h9) rfl dX7_save_28 ?_
  refine lv_iload_n hx hb dX7_save_31 rfl (lv_at hl 2 rfl) ?_
  refine iw_gald (v := ad1 (ee)) hx hb hK hP (by omega) ((va_un _ _ (by omega)).trans (k1_eg)) (vp_in_nI (show 0 < 1 by omega) (by omega)) ((congrArg FE (nI_clamp (by omega))).trans (hFE1 _ (by omega))) dX7_save_32 ?_
  refine lv_iconst (v := nI 0) hx hb dX7_save_33 (by decide) ?_
  refine lv_aload_n hx hb dX7_save_34 rfl (lv_at hl 0 rfl) ?_
  refine lv_iconst (v := nI 1) hx hb dX7_save_35 (by decide) ?_
  refine lv_aload_n hx hb dX7_save_36 rfl (lv_at hl 1 rfl) ?_
  refine iw_get hx hb hts iu_X7_save_7 hown hK hP (by omega) ((va_un _ _ (by omega)).trans (k1_0)) rfl 10 (by decide) (hts _ il_X7_save_39) (fun _ h9 => h9) rfl dX7_save_37 ?_
  refine lv_iload_n hx hb dX7_save_40 rfl (lv_at hl 2 rfl) ?_
  refine iw_gald (v := ad1 (ee)) hx hb hK hP (by omega) ((va_un _ _ (by omega)).trans (k1_eg)) (vp_in_nI (show 0 < 1 by omega) (by omega)) ((congrArg FE (nI_clamp (by omega))).trans (hFE1 _ (by omega))) dX7_save_41 ?_
  refine iw_alenI (v := nI 4) hx hb hK hP (by omega) ((va_un _ _ (by omega)).trans (k1_ee)) rfl dX7_save_42 ?_
  refine iw_icopy (sp' := 0) (dp' := 1) (n' := 4) hx hb (hml.trans hl.1.symm) hown (hts _ il_X7_save_62) (hts _ il_X7_save_natac) (hts _ il_X7_save_stac) (hts _ il_X7_save_inisys) hK hP hD hS (by omega) (by omega) ((va_un _ _ (by omega)).trans (k1_ee)) (va_us _ _ _) (nI_pos (by omega)) (nI_pos (by omega)) (nI_pos (by omega)) (nI_clamp (by omega)) (nI_clamp (by omega)) (nI_clamp (by omega)) (by omega) (by omega) (Nat.le_of_ble_eq_true rfl) (Nat.le_of_ble_eq_true rfl) dX7_save_43 (fun H locs hP hD hS => ?_)
  rw [va_uu _ _ _ _] at hP hD
  refine lv_aload_n hx hb dX7_save_46 rfl (lv_at hl 1 rfl) ?_
  refine lv_aload_n hx hb dX7_save_47 rfl (lv_at hl 1 rfl) ?_
  refine iw_get hx hb hts iu_X7_save_7 hown hK hP (by omega) ((va_un _ _ (by omega)).trans (k1_0)) rfl 11 (by decide) (hts _ il_X7_save_42) (fun _ h9 => h9) rfl dX7_save_48 ?_
  refine lv_aload_n hx hb dX7_save_51 rfl (lv_at hl 0 rfl) ?_
  refine iwg_r (k := N + 1) (va_runS (As := [.ref (ad1 146), .ref (ad1 N)]) (rest := [.ref (ad1 0)]) ⟨hx, hb, hml, hown, hts⟩ (kX7_plus l G (N + 1) ad1 _ (by omega) (by omega) ((va_un _ _ (by omega)).trans (k1_146)) (va_us _ _ _) _) (va_cwS 2 hts gX7_save_X7_plus rfl rfl rfl (by decide +kernel) ⟨Nat.le_of_ble_eq_true rfl, Nat.le_of_ble_eq_true rfl⟩) (iPSV hK hV hP hD [.ref (ad1 146), .ref (ad1 N)]) rfl rfl hl.1 rfl (lv_room (Nat.le_of_ble_eq_true rfl)) dX7_save_52 ⟨Nat.le_of_ble_eq_true rfl, Nat.le_of_ble_eq_true rfl⟩) hD hS hA (fun ad2 C2 H locs hw8 hP hD hS => ?_)
  dsimp only at hw8
  obtain ⟨e2, c2, F6, hF62, zF62⟩ := hw8
  have k2_0 : C2 0 = ob 7 [.ref (ad2 1), .ref b, .int (nI d), .ref (ad2 75), .ref (ad2 140), .ref (ad2 141), .ref (ad2 142), .int dw, .ref a8, .ref a9, .ref (ad2 eg), .ref (ad2 146)] := (c2 _ (by omega)).trans (((va_un _ _ (by omega)).trans (k1_0)).trans (by first | (rw [e2 1 (by omega), e2 75 (by omega), e2 140 (by omega), e2 141 (by omega), e2 142 (by omega), e2 eg (by omega), e2 146 (by omega)]; done) | (rw [e2 1 (by omega), e2 75 (by omega), e2 140 (by omega), e2 141 (by omega), e2 142 (by omega), e2 eg (by omega), e2 146 (by omega)]; rfl)))
  have k2_eg : C2 eg = ra G 5 1 FE := (c2 _ (by omega)).trans ((va_un _ _ (by omega)).trans (k1_eg))
  have k2_ee : C2 ee = ia G 4 fe := (c2 _ (by omega)).trans ((va_un _ _ (by omega)).trans (k1_ee))
  have k2_146 : C2 146 = ra G 5 0 F146 := (c2 _ (by omega)).trans ((va_un _ _ (by omega)).trans (k1_146))
  have k2_N : C2 N = ia G 5 (va_cpy fe (upd (fun _ => nI 0) 0 (nI 0)) 0 1 4) := (c2 _ (by omega)).trans (va_us _ _ _)
  have q2_cam := Cam_gr e2 c2 (by omega) (by omega) (Cam_up q1_cam (by omega))
  have q2_ts := isTs_gr e2 c2 (by omega) (by omega) (isTs_up q1_ts (by omega))
  have ea2 : ∀ j, j < N → ad2 j = ad j := fun j h => (e2 j (by omega)).trans (ea1 j h)
  have ca2 : ∀ j, j < N → 75 < j → C2 j = C j := fun j h hx9 => (c2 j (by omega)).trans ((va_un _ _ (by omega)).trans (ca1 j h hx9))
  have hl : lv_has ls 3 [(2, .ref (ad2 N)), (0, .ref (ad2 0)), (1, .int (nI 0))] := by rw [e2 N (by omega), e2 0 (by omega)]; exact hl
  refine W.eq (g2 := F0 m 55 ls [.ref (ad2 (N + 1)), .ref (ad2 0)]) (by first | (rw [e2 0 (by omega)]; done) | (rw [e2 0 (by omega)]; rfl)) ?_
  refine iw_put (ty := .array (.array (.int))) hx hb hts iu_X7_save_7 tyX7 tyX7_ok nmX7 hown hK hP hD hS (by omega) (k2_0) rfl 11 (by decide) (hts _ il_X7_save_42) (fun _ h9 => h9) rfl (by decide +kernel) rfl rfl (Nat.le_of_ble_eq_true rfl) rfl dX7_save_55 (fun H locs hP hD hS => ?_)
  refine lv_aload_n hx hb dX7_save_58 rfl (lv_at hl 1 rfl) ?_
  refine iw_get hx hb hts iu_X7_save_7 hown hK hP (by omega) (va_us _ _ _) rfl 0 (by decide) (hts _ il_X7_save_10) (fun _ h9 => h9) rfl dX7_save_59 ?_
  refine lv_iload_n hx hb dX7_save_62 rfl (lv_at hl 2 rfl) ?_
  refine iw_i (va_runV (As := [.int (nI 0)]) (rest := []) ⟨hx, hb, hml, hown, hts⟩ (kX6_save l G (N + 2) ad2 _ 1 S (Cam_N (Cam_up q2_cam (by omega)) (by omega)) 0 (by omega) (by omega) _) (cwV 1 hts gX7_save_X6_save rfl rfl rfl (by decide +kernel) ⟨Nat.le_of_ble_eq_true rfl, Nat.le_of_ble_eq_true rfl⟩) (iPV hK hP hD (by omega) ((va_un _ _ (by omega)).trans (q2_cam.2.2.1)) rfl [.int (nI 0)]) rfl rfl hl.1 rfl (lv_room (Nat.le_of_ble_eq_true rfl)) dX7_save_63 ⟨Nat.le_of_ble_eq_true rfl, Nat.le_of_ble_eq_true rfl⟩) hD hS hA (fun r8 u8 H locs hw8 hP hD hS => ?_)
  obtain ⟨hr8, hc8, hs8⟩ := hw8
  refine lv_asI hr8 ?_
  obtain ⟨V1, rfl⟩ : ∃ V, V = u8 := ⟨_, rfl⟩
  have k3_0 : V1 0 = ob 7 [.ref (ad2 1), .ref b, .int (nI d), .ref (ad2 75), .ref (ad2 140), .ref (ad2 141), .ref (ad2 142), .int dw, .ref a8, .ref a9, .ref (ad2 eg), .ref (ad2 (N + 1))] := (hs8 _ (by omega)).trans (va_us _ _ _)
  have k3_eg : V1 eg = ra G 5 1 FE := (hs8 _ (by omega)).trans ((va_un _ _ (by omega)).trans (k2_eg))
  have k3_ee : V1 ee = ia G 4 fe := (hs8 _ (by omega)).trans ((va_un _ _ (by omega)).trans (k2_ee))
  have k3_146 : V1 146 = ra G 5 0 F146 := (hs8 _ (by omega)).trans ((va_un _ _ (by omega)).trans (k2_146))
  have k3_N : V1 N = ia G 5 (va_cpy fe (upd (fun _ => nI 0) 0 (nI 0)) 0 1 4) := (hs8 _ (by omega)).trans ((va_un _ _ (by omega)).trans (k2_N))
  have k3_N_1 : V1 (N + 1) = ra G 5 1 F6 := (hs8 _ (by omega)).trans ((va_un _ _ (by omega)).trans (hF62))
  have q3_ts := isTs_cam hs8 (by omega) (isTs_up q2_ts (by omega))
  have q3_cam := hc8
  have ea3 : ∀ j, j < N → ad2 j = ad j := ea2
  have ca3 : ∀ j, j < N → 75 < j → V1 j = C j := fun j h hx9 => (hs8 j (by omega)).trans ((va_un _ _ (by omega)).trans (ca2 j h hx9))
  refine lv_asI (y := nI 0) (by rw [hfl0]) ?_
  refine lv_aload_n hx hb dX7_save_66 rfl (lv_at hl 1 rfl) ?_
  refine iw_get hx hb hts iu_X7_save_7 hown hK hP (by omega) (k3_0) rfl 11 (by decide) (hts _ il_X7_save_42) (fun _ h9 => h9) rfl dX7_save_67 ?_
  refine iw_alenG (v := nI 1) hx hb hK hP (by omega) (k3_N_1) rfl dX7_save_70 ?_
  refine lv_iconst (v := nI 1) hx hb dX7_save_71 (by decide) ?_
  refine lv_isub hx hb dX7_save_72 ?_
  refine lv_asI (y := nI (1 - 1)) (pk_sub (by omega)) ?_
  refine lv_icmp_ne (tgt := 80) hx hb dX7_save_73 (by decide) (fun c9 => absurd (rfl) c9) (fun _ => ?_)
  refine lv_iconst (v := nI 1) hx hb dX7_save_76 (by decide) ?_
  refine lv_goto (tgt := 81) hx hb dX7_save_77 (by decide) ?_
  refine W.widen (k := 2) (n := 6) (Nat.le_of_ble_eq_true rfl) (Nat.le_of_ble_eq_true rfl) ?_
  have z_0 : (V1) 0 = ob 7 [.ref (ad2 1), .ref b, .int (nI d), .ref (ad2 75), .ref (ad2 140), .ref (ad2 141), .ref (ad2 142), .int dw, .ref a8, .ref a9, .ref (ad2 eg), .ref (ad2 (N + 1))] := k3_0
  exact W.zret (v := (nI 1)) (ty := .boolean) hx hb hr (by decide) (fun t ht hW => ⟨⟨_, (ad2, V1), rfl, ⟨rfl, ⟨ea3, fun j h hx9 => ca3 j h hx9, (Cam_N q3_cam (by omega)), q3_ts, z_0⟩⟩, ⟨by rw [ht]; exact hP, hD⟩⟩, hS.F ht⟩) hS.2.2 dX7_save_81
