set_option maxRecDepth 20000 in
theorem ggL_law_X7_init : GoodIn wsL_law wsX7_init := goodIn_r _ [21, 22, 23, 24, 25, 7, 8, 26, 27, 4, 28, 29, 30, 31, 32, 33, 34, 35, 36, 37, 38, 39, 40, 41, 42, 43, 44, 45, 46, 47, 48, 49, 50, 51, 52, 53, 54, 55, 56, 57, 58, 59, 60, 61, 62, 63, 64, 65, 66, 67, 68, 69, 70, 71, 72, 73, 74, 75, 76, 77, 78, 79, 80, 81, 82, 83, 84, 85, 86, 87, 88, 89, 90, 91, 92, 93, 94, 95, 96, 97, 98, 99, 100, 101, 102, 103, 104, 105, 106, 107, 108, 109, 110, 520, 521, 522, 523, 524, 525, 526, 527, 528, 508, 509, 510, 511, 512, 513, 514, 515, 516, 517, 518, 519, 529, 530, 531, 532, 533, 534, 535, 536, 537, 538, 539, 540, 541, 542, 543, 544, 545, 546, 547] (by decide +kernel) (by decide +kernel)
set_option maxRecDepth 20000 in
theorem gL_law_X7_init : GoodIn wsL_law (wsX7_init) := ggL_law_X7_init
set_option maxRecDepth 20000 in
theorem ggL_law_X7_paint : GoodIn wsL_law wsX7_paint := goodIn_ca (goodIn_ca (goodIn_r _ [114, 4, 28, 26, 115, 116, 117, 118, 2, 119, 38, 39, 120, 121, 122, 123, 124, 125, 126, 127, 128, 129, 8, 130, 131, 132, 133, 47, 134, 135, 136, 137, 138, 139, 140, 141, 142, 143, 144, 145, 146, 147, 148, 149, 150, 46, 151, 72, 508, 509, 510, 511, 512, 513, 514, 515, 516, 517, 518, 519, 520, 521, 522, 523, 524, 525, 526, 527, 528, 529, 530, 531] (by decide +kernel) (by decide +kernel)) (goodIn_sub (fun _ h => List.mem_append_left _ (List.mem_append_left _ (List.mem_append_right _ h))) (by decide +kernel))) (goodIn_sub (fun _ h => List.mem_append_left _ (List.mem_append_right _ h)) (by decide +kernel))
set_option maxRecDepth 20000 in
theorem gL_law_X7_paint : GoodIn wsL_law (wsV RL 18 RX7 yX7_paint wsX7_paint) := goodIn_app (goodIn_of _ (by decide +kernel)) ggL_law_X7_paint
set_option maxRecDepth 20000 in
theorem ggL_law_X7_light : GoodIn wsL_law wsX7_light := goodIn_ca (goodIn_r _ [155, 29, 26, 116, 117, 118, 2, 119, 38, 39, 120, 121, 122, 123, 124, 125, 126, 156, 157, 158, 8, 159, 47, 142, 143, 144, 131, 132, 160, 161, 162, 46, 163, 75, 164, 165, 166, 167, 74, 168, 508, 509, 510, 511, 512, 513, 514, 515, 516, 517, 518, 519, 520, 521, 522, 523, 524, 525, 526, 527, 528, 529, 530, 531] (by decide +kernel) (by decide +kernel)) (goodIn_sub (fun _ h => List.mem_append_left _ (List.mem_append_left _ (List.mem_append_right _ h))) (by decide +kernel))
set_option maxRecDepth 20000 in
theorem gL_law_X7_light : GoodIn wsL_law (wsV RL 22 RX7 yX7_light wsX7_light) := goodIn_app (goodIn_of _ (by decide +kernel)) ggL_law_X7_light
set_option maxRecDepth 20000 in
theorem il_L_law_9 : (Cond.classLink RL 9 RX7) ∈ wsL_law := by decide +kernel
set_option maxRecDepth 20000 in
theorem il_L_law_instX7 : (Cond.instantiable RX7 12) ∈ wsL_law := by decide +kernel
set_option maxRecDepth 20000 in
theorem il_L_law_iniX7 : (Cond.initialized RX7) ∈ wsL_law := by decide +kernel
set_option maxRecDepth 20000 in
theorem iu_L_law_7 : ∀ w ∈ u_ws RX7 TX7 12, w ∈ wsL_law := by decide +kernel
set_option maxRecDepth 20000 in
theorem il_L_law_im_X7_init : (Cond.instanceMethod yX7_init) ∈ wsL_law := by decide +kernel
set_option maxRecDepth 20000 in
theorem il_L_law_11 : (Cond.methodLink RL 11 yX7_init) ∈ wsL_law := by decide +kernel
set_option maxRecDepth 20000 in
theorem il_L_law_14 : (Cond.fieldLink RL 14 "BayerGateLaw$Told" "m" "LBayerGate;") ∈ wsL_law := by decide +kernel
set_option maxHeartbeats 4000000 in
set_option maxRecDepth 100000 in
theorem law_r1 {p : Program} {l : Launch} {e : Env} {s : State} {m : MethodId} {below : List Frame} {meth : Method} {c : Code} {Q : State → Prop} {b L : Nat} {xs : Nat → Int32} {cells slots : Nat} (hx : p.tables.exec = Jvm.exec) (hb : c.code = cL_law) (hml : c.maxLocals = 16) (hr : meth.sig.returnType = (some .boolean)) (hts : ∀ w ∈ wsL_law, w.before #[Value.ref b] s = true) (hown : s.vm.findClass RL = some m.cls) {G : iG} (hK : KB G s) (hV : VX s) (hX : XS b L xs 0 (fun _ => 0) s s.heap) (hbA : ¬ aA s b) (hcc : cells + 4000 ≤ room_1.cells) (hcs : slots + 40000 ≤ room_1.slots) {ad : Nat → Nat} {C : Nat → va_E} {H : Heap} {locs : List Loc} {ls : Array Slot} {tm : Nat} (htm : tm < 3) (hP : va_P G.1 vwB (wl 0 ad C) H) (hD : va_D (aA s) (wl 0 ad C)) (hS : va_S (aA s) s.heap H locs) (hl : lv_has ls 16 [(1, .int (nI tm)), (0, .ref b)]) (kx : ∀ (ad : Nat → Nat) (C : Nat → va_E) (H : Heap) (locs : List Loc) (ls : Array Slot) (sh sn : Nat → Nat) (fac : Nat → UInt32) (l1 l2 l3 : Nat), F1 sh sn fac l1 l2 l3 → W1 G 151 151 ad C b (31 * tm + 41) (SL sh fac l2) sn l1 l2 l3 → va_P G.1 vwB (wl 151 ad C) H → va_D (aA s) (wl 151 ad C) → va_S (aA s) s.heap H locs → lv_has ls 16 [(3, .ref (ad 1)), (2, .ref (ad 0)), (1, .int (nI tm)), (0, .ref b)] → W p l e room_1 s m #[Value.ref b] below meth c H locs (cells + 1000) (slots + 10000) Q (F0 m 65 ls [])) : W p l e room_1 s m #[Value.ref b] below meth c H locs cells slots Q (F0 m 7 ls []) := by
  have hA : ∀ q : Nat, s.heap.size ≤ q → aA s q := fun _ h => h
  refine iw_new (ci := 7) (fs := [.null, .null, .int (nI 0), .null, .null, .null, .null, .int (nI 0), .null, .null, .null, .null]) (T := TX7) (n := 12) hx hb hts iu_L_law_7 tyX7 tyX7_ok hown (hts _ il_L_law_9) (hts _ il_L_law_instX7) (hts _ il_L_law_iniX7) hK hP hD hS hA rfl (fun j hj => by rcases (show j = 0 ∨ j = 1 ∨ j = 2 ∨ j = 3 ∨ j = 4 ∨ j = 5 ∨ j = 6 ∨ j = 7 ∨ j = 8 ∨ j = 9 ∨ j = 10 ∨ j = 11 by omega) with rfl | rfl | rfl | rfl | rfl | rfl | rfl | rfl | rfl | rfl | rfl | rfl <;> rfl) (by omega) (by omega) dL_law_7 (fun ad1 C1 H e1 c1 n1 hP hD hS => ?_)
  refine lv_dup hx hb dL_law_10 rfl ?_
  refine lv_aload_n hx hb dL_law_11 rfl (lv_at hl 1 rfl) ?_
  refine lv_bipush (v := nI 31) hx hb dL_law_12 (by decide) ?_
  refine lv_iload_n hx hb dL_law_14 rfl (lv_at hl 0 rfl) ?_
  refine lv_imul hx hb dL_law_15 ?_
  refine lv_asI (y := nI (31 * tm)) (pk_mul _ _) ?_
  refine lv_bipush (v := nI 7) hx hb dL_law_16 (by decide) ?_
  refine lv_iadd hx hb dL_law_18 ?_
  refine lv_asI (y := nI ((31 * tm) + 7)) (nI_add _ _) ?_
  refine iwg_v (va_runI (As := [.ref b, .int (nI (31 * tm + 7))]) (rest := [.ref (ad1 0)]) ⟨hx, hb, hml, hown, hts⟩ (kX7_init l G ad1 _ b L xs (31 * tm + 7) (n1) _) (cwI 2 hts gL_law_X7_init rfl rfl rfl (hts _ il_L_law_iniX7) (hts _ il_L_law_11) (hts _ il_L_law_im_X7_init) rfl (by decide +kernel) ⟨Nat.le_of_ble_eq_true rfl, Nat.le_of_ble_eq_true rfl⟩) (iPSX hK hV hX hbA hS hP hD [.ref (ad1 0), .ref b, .int (nI (31 * tm + 7))])  rfl rfl hl.1 rfl (lv_room (Nat.le_of_ble_eq_true rfl)) dL_law_19 ⟨by omega, by omega⟩) hD hS hA (fun ad2 C2 H locs hw8 hP hD hS => ?_)
  dsimp only at hw8
  obtain ⟨e2, c2, hcam2, hsc2, hz2, ⟨fl0, g1402, hfl2⟩, g1412, ⟨F143, g1432⟩, ⟨F144, g1442⟩, ⟨F145, g1452⟩, F146, g1462⟩ := hw8
  refine W.eq (g2 := F0 m 22 ls [.ref (ad2 0)]) (by first | (rw [e2 0 (by omega)]; done) | (rw [e2 0 (by omega)]; rfl)) ?_
  have hcamL : Cam G 147 ad2 C2 1 (SL (sSh S0) (sFac S0) 4) := hcam2
  have hfl0 := hfl2
  refine lv_astore_n (lv' := [(2, .ref (ad2 0)), (1, .int (nI tm)), (0, .ref b)]) hx hb dL_law_22 rfl hl (by decide) rfl (fun ls hl => ?_)
  refine lv_aload_n hx hb dL_law_23 rfl (lv_at hl 0 rfl) ?_
  refine iw_get hx hb hts iu_L_law_7 hown hK hP (by omega) (hz2) rfl 0 (by decide) (hts _ il_L_law_14) (fun _ h9 => h9) rfl dL_law_24 ?_
  refine lv_astore_n (lv' := [(3, .ref (ad2 1)), (2, .ref (ad2 0)), (1, .int (nI tm)), (0, .ref b)]) hx hb dL_law_27 rfl hl (by decide) rfl (fun ls hl => ?_)
  refine lv_iconst (v := nI 0) hx hb dL_law_28 (by decide) ?_
  refine lv_istore (lv' := [(4, .int (nI 0)), (3, .ref (ad2 1)), (2, .ref (ad2 0)), (1, .int (nI tm)), (0, .ref b)]) hx hb dL_law_29 hl (by decide) rfl (fun ls hl => ?_)
  refine lv_iload hx hb dL_law_31 (lv_at hl 0 rfl) ?_
  refine lv_iconst (v := nI 4) hx hb dL_law_33 (by decide) ?_
  refine lv_icmp_ge (tgt := 65) hx hb dL_law_34 (by decide) (fun c9 => absurd c9 (by decide)) (fun _ => ?_)
  refine lv_aload_n hx hb dL_law_37 rfl (lv_at hl 2 rfl) ?_
  refine iwg_i (va_runV (As := []) (rest := []) ⟨hx, hb, hml, hown, hts⟩ (kX7_paint l G (147) ad2 _ b L xs (by omega) (SL (sSh S0) (sFac S0) 4) (Cam_N hcamL (by omega)) (fun _ => 0) (isTs_B hsc2 (by omega)) (31 * tm + 7) (by omega) (hz2) _) (cwV 0 hts gL_law_X7_paint rfl rfl rfl (by decide +kernel) ⟨Nat.le_of_ble_eq_true rfl, Nat.le_of_ble_eq_true rfl⟩) (iPVX hK hV hX hbA hS hP hD (by omega) (hz2) rfl []) rfl rfl hl.1 rfl (lv_room (Nat.le_of_ble_eq_true rfl)) dL_law_38 ⟨by omega, by omega⟩) hD hS hA (fun r8 ad3 C3 H locs hw8 hP hD hS => ?_)
  dsimp only at hw8
  obtain ⟨hr8, e3, c3, q1, q2, q3, q4, q5, q6, q7, hq3, hcam3, hsc3, hz3⟩ := hw8
  refine lv_asI hr8 ?_
  have k3_140 : C3 140 = ia G 3 fl0 := (c3 _ (by omega) (by omega)).trans (g1402)
  have k3_141 : C3 141 = ia G 64 (fun _ => nI 0) := (c3 _ (by omega) (by omega)).trans (g1412)
  have k3_143 : C3 143 = ra G 5 0 F143 := (c3 _ (by omega) (by omega)).trans (g1432)
  have k3_144 : C3 144 = ra G 5 0 F144 := (c3 _ (by omega) (by omega)).trans (g1442)
  have k3_145 : C3 145 = ra G 5 0 F145 := (c3 _ (by omega) (by omega)).trans (g1452)
  have k3_146 : C3 146 = ra G 5 0 F146 := (c3 _ (by omega) (by omega)).trans (g1462)
  have hl : lv_has ls 16 [(4, .int (nI 0)), (3, .ref (ad3 1)), (2, .ref (ad3 0)), (1, .int (nI tm)), (0, .ref b)] := by rw [e3 1 (by omega), e3 0 (by omega)]; exact hl
  obtain ⟨sh1, sn1, hcamP1, hscP1, hsn1⟩ : ∃ sh sn : Nat → Nat, Cam G (148) ad3 C3 1 (SL sh (sFac S0) 4) ∧ isTs G ad3 C3 (148) sn ∧ SnI sh sn := ⟨_, _, hcam3, hsc3, SnI_p (c := 0) SnI_0 hq3⟩
  have hy3 : C3 0 = ob 7 [.ref (ad3 1), .ref b, .int (nI (31 * tm + 14)), .ref (ad3 75), .ref (ad3 140), .ref (ad3 141), .ref (ad3 142), .int (nI 0), .ref (ad3 143), .ref (ad3 144), .ref (ad3 145), .ref (ad3 146)] := hz3.trans (by first | (rw [e3 143 (by omega), e3 144 (by omega), e3 145 (by omega), e3 146 (by omega)]; done) | (rw [e3 143 (by omega), e3 144 (by omega), e3 145 (by omega), e3 146 (by omega)]; rfl))
  refine lv_if_eq (tgt := 57) hx hb dL_law_41 (by decide) (fun c9 => absurd c9 (by decide)) (fun _ => ?_)
  refine lv_iload hx hb dL_law_44 (lv_at hl 0 rfl) ?_
  refine lv_iconst (v := nI 2) hx hb dL_law_46 (by decide) ?_
  refine lv_icmp_ge (tgt := 59) hx hb dL_law_47 (by decide) (fun c9 => absurd c9 (by decide)) (fun _ => ?_)
  refine lv_aload_n hx hb dL_law_50 rfl (lv_at hl 2 rfl) ?_
  refine iwg_i (va_runV (As := []) (rest := []) ⟨hx, hb, hml, hown, hts⟩ (kX7_light l G (148) ad3 _ b L xs (by omega) (SL sh1 (sFac S0) 4) (Cam_N hcamP1 (by omega)) sn1 (isTs_B hscP1 (by omega)) (31 * tm + 14) (by omega) (hy3) (fl := fl0) (lp := (fun _ => 4)) (k3_140) hfl0 rfl _) (cwV 0 hts gL_law_X7_light rfl rfl rfl (by decide +kernel) ⟨Nat.le_of_ble_eq_true rfl, Nat.le_of_ble_eq_true rfl⟩) (iPVX hK hV hX hbA hS hP hD (by omega) (hy3) rfl []) rfl rfl hl.1 rfl (lv_room (Nat.le_of_ble_eq_true rfl)) dL_law_51 ⟨by omega, by omega⟩) hD hS hA (fun r8 ad4 C4 H locs hw8 hP hD hS => ?_)
  dsimp only at hw8
  obtain ⟨hr8, e4, c4, q1, q2, q3, hq4, hcam4, hsc4, hz4, fl1, g1404, hfl4⟩ := hw8
  refine lv_asI hr8 ?_
  have k4_141 : C4 141 = ia G 64 (fun _ => nI 0) := (c4 _ (by omega) (by omega)).trans (k3_141)
  have k4_143 : C4 143 = ra G 5 0 F143 := (c4 _ (by omega) (by omega)).trans (k3_143)
  have k4_144 : C4 144 = ra G 5 0 F144 := (c4 _ (by omega) (by omega)).trans (k3_144)
  have k4_145 : C4 145 = ra G 5 0 F145 := (c4 _ (by omega) (by omega)).trans (k3_145)
  have k4_146 : C4 146 = ra G 5 0 F146 := (c4 _ (by omega) (by omega)).trans (k3_146)
  have hl : lv_has ls 16 [(4, .int (nI 0)), (3, .ref (ad4 1)), (2, .ref (ad4 0)), (1, .int (nI tm)), (0, .ref b)] := by rw [e4 1 (by omega), e4 0 (by omega)]; exact hl
  obtain ⟨fac1, l1, l2, l3, hcamP11, hll, hfac, hfl⟩ : ∃ (fac : Nat → UInt32) (l1 l2 l3 : Nat), Cam G (148) ad4 C4 1 (SL sh1 fac l2) ∧ ((0 < l1 ∧ l1 < 17) ∧ (0 < l2 ∧ l2 < 17) ∧ 0 < l3 ∧ l3 < 17) ∧ (∀ k, k < 3 → fac k = LFac l1 l2 l3 k) ∧ ∀ i, i < 3 → fl1 i = nI (rw3 l1 l2 l3 i) := ⟨_, 1 + q1, 1 + q2, 1 + q3, hcam4, by omega, fac3 _ _ _ _ _, hfl4⟩
  have hy4 : C4 0 = ob 7 [.ref (ad4 1), .ref b, .int (nI (31 * tm + 17)), .ref (ad4 75), .ref (ad4 140), .ref (ad4 141), .ref (ad4 142), .int (nI 0), .ref (ad4 143), .ref (ad4 144), .ref (ad4 145), .ref (ad4 146)] := hz4.trans (by first | (rw [e4 143 (by omega), e4 144 (by omega), e4 145 (by omega), e4 146 (by omega)]; done) | (rw [e4 143 (by omega), e4 144 (by omega), e4 145 (by omega), e4 146 (by omega)]; rfl))
  refine lv_if_ne (tgt := 59) hx hb dL_law_54 (by decide) (fun _ => ?_) (fun c9 => absurd c9 (by decide))
  refine lv_iinc (v := nI 1) (lv' := [(4, .int (nI 1)), (3, .ref (ad4 1)), (2, .ref (ad4 0)), (1, .int (nI tm)), (0, .ref b)]) hx hb dL_law_59 hl (k := 0) rfl (iinc_nat _ 1) (by decide) rfl (fun ls hl => ?_)
  refine lv_goto (tgt := 31) hx hb dL_law_62 (by decide) ?_
  refine lv_iload hx hb dL_law_31 (lv_at hl 0 rfl) ?_
  refine lv_iconst (v := nI 4) hx hb dL_law_33 (by decide) ?_
  refine lv_icmp_ge (tgt := 65) hx hb dL_law_34 (by decide) (fun c9 => absurd c9 (by decide)) (fun _ => ?_)
  refine lv_aload_n hx hb dL_law_37 rfl (lv_at hl 2 rfl) ?_
  refine iwg_i (va_runV (As := []) (rest := []) ⟨hx, hb, hml, hown, hts⟩ (kX7_paint l G (148) ad4 _ b L xs (by omega) (SL sh1 fac1 l2) (Cam_N hcamP11 (by omega)) sn1 (isTs_B hsc4 (by omega)) (31 * tm + 17) (by omega) (hy4) _) (cwV 0 hts gL_law_X7_paint rfl rfl rfl (by decide +kernel) ⟨Nat.le_of_ble_eq_true rfl, Nat.le_of_ble_eq_true rfl⟩) (iPVX hK hV hX hbA hS hP hD (by omega) (hy4) rfl []) rfl rfl hl.1 rfl (lv_room (Nat.le_of_ble_eq_true rfl)) dL_law_38 ⟨by omega, by omega⟩) hD hS hA (fun r8 ad5 C5 H locs hw8 hP hD hS => ?_)
  dsimp only at hw8
  obtain ⟨hr8, e5, c5, q1, q2, q3, q4, q5, q6, q7, hq5, hcam5, hsc5, hz5⟩ := hw8
  refine lv_asI hr8 ?_
  have k5_141 : C5 141 = ia G 64 (fun _ => nI 0) := (c5 _ (by omega) (by omega)).trans (k4_141)
  have k5_143 : C5 143 = ra G 5 0 F143 := (c5 _ (by omega) (by omega)).trans (k4_143)
  have k5_144 : C5 144 = ra G 5 0 F144 := (c5 _ (by omega) (by omega)).trans (k4_144)
  have k5_145 : C5 145 = ra G 5 0 F145 := (c5 _ (by omega) (by omega)).trans (k4_145)
  have k5_146 : C5 146 = ra G 5 0 F146 := (c5 _ (by omega) (by omega)).trans (k4_146)
  have k5_140 : C5 140 = ia G 3 fl1 := (c5 _ (by omega) (by omega)).trans (g1404)
  have hl : lv_has ls 16 [(4, .int (nI 1)), (3, .ref (ad5 1)), (2, .ref (ad5 0)), (1, .int (nI tm)), (0, .ref b)] := by rw [e5 1 (by omega), e5 0 (by omega)]; exact hl
  obtain ⟨sh2, sn2, hcamP2, hscP2, hsn2⟩ : ∃ sh sn : Nat → Nat, Cam G (149) ad5 C5 1 (SL sh fac1 l2) ∧ isTs G ad5 C5 (149) sn ∧ SnI sh sn := ⟨_, _, hcam5, hsc5, SnI_p (c := 0) hsn1 hq5⟩
  have hy5 : C5 0 = ob 7 [.ref (ad5 1), .ref b, .int (nI (31 * tm + 24)), .ref (ad5 75), .ref (ad5 140), .ref (ad5 141), .ref (ad5 142), .int (nI 0), .ref (ad5 143), .ref (ad5 144), .ref (ad5 145), .ref (ad5 146)] := hz5.trans (by first | (rw [e5 143 (by omega), e5 144 (by omega), e5 145 (by omega), e5 146 (by omega)]; done) | (rw [e5 143 (by omega), e5 144 (by omega), e5 145 (by omega), e5 146 (by omega)]; rfl))
  refine lv_if_eq (tgt := 57) hx hb dL_law_41 (by decide) (fun c9 => absurd c9 (by decide)) (fun _ => ?_)
  refine lv_iload hx hb dL_law_44 (lv_at hl 0 rfl) ?_
  refine lv_iconst (v := nI 2) hx hb dL_law_46 (by decide) ?_
  refine lv_icmp_ge (tgt := 59) hx hb dL_law_47 (by decide) (fun c9 => absurd c9 (by decide)) (fun _ => ?_)
  refine lv_aload_n hx hb dL_law_50 rfl (lv_at hl 2 rfl) ?_
  refine iwg_i (va_runV (As := []) (rest := []) ⟨hx, hb, hml, hown, hts⟩ (kX7_light l G (149) ad5 _ b L xs (by omega) (SL sh2 fac1 l2) (Cam_N hcamP2 (by omega)) sn2 (isTs_B hscP2 (by omega)) (31 * tm + 24) (by omega) (hy5) (fl := fl1) (lp := (rw3 l1 l2 l3)) (k5_140) hfl rfl _) (cwV 0 hts gL_law_X7_light rfl rfl rfl (by decide +kernel) ⟨Nat.le_of_ble_eq_true rfl, Nat.le_of_ble_eq_true rfl⟩) (iPVX hK hV hX hbA hS hP hD (by omega) (hy5) rfl []) rfl rfl hl.1 rfl (lv_room (Nat.le_of_ble_eq_true rfl)) dL_law_51 ⟨by omega, by omega⟩) hD hS hA (fun r8 ad6 C6 H locs hw8 hP hD hS => ?_)
  dsimp only at hw8
  obtain ⟨hr8, e6, c6, q1, q2, q3, hq6, hcam6, hsc6, hz6, fl2, g1406, hfl6⟩ := hw8
  refine lv_asI hr8 ?_
  have k6_141 : C6 141 = ia G 64 (fun _ => nI 0) := (c6 _ (by omega) (by omega)).trans (k5_141)
  have k6_143 : C6 143 = ra G 5 0 F143 := (c6 _ (by omega) (by omega)).trans (k5_143)
  have k6_144 : C6 144 = ra G 5 0 F144 := (c6 _ (by omega) (by omega)).trans (k5_144)
  have k6_145 : C6 145 = ra G 5 0 F145 := (c6 _ (by omega) (by omega)).trans (k5_145)
  have k6_146 : C6 146 = ra G 5 0 F146 := (c6 _ (by omega) (by omega)).trans (k5_146)
  have hl : lv_has ls 16 [(4, .int (nI 1)), (3, .ref (ad6 1)), (2, .ref (ad6 0)), (1, .int (nI tm)), (0, .ref b)] := by rw [e6 1 (by omega), e6 0 (by omega)]; exact hl
  obtain ⟨fac2, l1, l2, l3, hcamP12, hll, hfac, hfl⟩ : ∃ (fac : Nat → UInt32) (l1 l2 l3 : Nat), Cam G (149) ad6 C6 1 (SL sh2 fac l2) ∧ ((0 < l1 ∧ l1 < 17) ∧ (0 < l2 ∧ l2 < 17) ∧ 0 < l3 ∧ l3 < 17) ∧ (∀ k, k < 3 → fac k = LFac l1 l2 l3 k) ∧ ∀ i, i < 3 → fl2 i = nI (rw3 l1 l2 l3 i) := ⟨_, 1 + q1, 1 + q2, 1 + q3, hcam6, by omega, fac3 _ _ _ _ _, hfl6⟩
  have hy6 : C6 0 = ob 7 [.ref (ad6 1), .ref b, .int (nI (31 * tm + 27)), .ref (ad6 75), .ref (ad6 140), .ref (ad6 141), .ref (ad6 142), .int (nI 0), .ref (ad6 143), .ref (ad6 144), .ref (ad6 145), .ref (ad6 146)] := hz6.trans (by first | (rw [e6 143 (by omega), e6 144 (by omega), e6 145 (by omega), e6 146 (by omega)]; done) | (rw [e6 143 (by omega), e6 144 (by omega), e6 145 (by omega), e6 146 (by omega)]; rfl))
  refine lv_if_ne (tgt := 59) hx hb dL_law_54 (by decide) (fun _ => ?_) (fun c9 => absurd c9 (by decide))
  refine lv_iinc (v := nI 2) (lv' := [(4, .int (nI 2)), (3, .ref (ad6 1)), (2, .ref (ad6 0)), (1, .int (nI tm)), (0, .ref b)]) hx hb dL_law_59 hl (k := 0) rfl (iinc_nat _ 1) (by decide) rfl (fun ls hl => ?_)
  refine lv_goto (tgt := 31) hx hb dL_law_62 (by decide) ?_
  refine lv_iload hx hb dL_law_31 (lv_at hl 0 rfl) ?_
  refine lv_iconst (v := nI 4) hx hb dL_law_33 (by decide) ?_
  refine lv_icmp_ge (tgt := 65) hx hb dL_law_34 (by decide) (fun c9 => absurd c9 (by decide)) (fun _ => ?_)
  refine lv_aload_n hx hb dL_law_37 rfl (lv_at hl 2 rfl) ?_
  refine iwg_i (va_runV (As := []) (rest := []) ⟨hx, hb, hml, hown, hts⟩ (kX7_paint l G (149) ad6 _ b L xs (by omega) (SL sh2 fac2 l2) (Cam_N hcamP12 (by omega)) sn2 (isTs_B hsc6 (by omega)) (31 * tm + 27) (by omega) (hy6) _) (cwV 0 hts gL_law_X7_paint rfl rfl rfl (by decide +kernel) ⟨Nat.le_of_ble_eq_true rfl, Nat.le_of_ble_eq_true rfl⟩) (iPVX hK hV hX hbA hS hP hD (by omega) (hy6) rfl []) rfl rfl hl.1 rfl (lv_room (Nat.le_of_ble_eq_true rfl)) dL_law_38 ⟨by omega, by omega⟩) hD hS hA (fun r8 ad7 C7 H locs hw8 hP hD hS => ?_)
  dsimp only at hw8
  obtain ⟨hr8, e7, c7, q1, q2, q3, q4, q5, q6, q7, hq7, hcam7, hsc7, hz7⟩ := hw8
  refine lv_asI hr8 ?_
  have k7_141 : C7 141 = ia G 64 (fun _ => nI 0) := (c7 _ (by omega) (by omega)).trans (k6_141)
  have k7_143 : C7 143 = ra G 5 0 F143 := (c7 _ (by omega) (by omega)).trans (k6_143)
  have k7_144 : C7 144 = ra G 5 0 F144 := (c7 _ (by omega) (by omega)).trans (k6_144)
  have k7_145 : C7 145 = ra G 5 0 F145 := (c7 _ (by omega) (by omega)).trans (k6_145)
  have k7_146 : C7 146 = ra G 5 0 F146 := (c7 _ (by omega) (by omega)).trans (k6_146)
  have k7_140 : C7 140 = ia G 3 fl2 := (c7 _ (by omega) (by omega)).trans (g1406)
  have hl : lv_has ls 16 [(4, .int (nI 2)), (3, .ref (ad7 1)), (2, .ref (ad7 0)), (1, .int (nI tm)), (0, .ref b)] := by rw [e7 1 (by omega), e7 0 (by omega)]; exact hl
  obtain ⟨sh3, sn3, hcamP3, hscP3, hsn3⟩ : ∃ sh sn : Nat → Nat, Cam G (150) ad7 C7 1 (SL sh fac2 l2) ∧ isTs G ad7 C7 (150) sn ∧ SnI sh sn := ⟨_, _, hcam7, hsc7, SnI_p (c := 0) hsn2 hq7⟩
  have hy7 : C7 0 = ob 7 [.ref (ad7 1), .ref b, .int (nI (31 * tm + 34)), .ref (ad7 75), .ref (ad7 140), .ref (ad7 141), .ref (ad7 142), .int (nI 0), .ref (ad7 143), .ref (ad7 144), .ref (ad7 145), .ref (ad7 146)] := hz7.trans (by first | (rw [e7 143 (by omega), e7 144 (by omega), e7 145 (by omega), e7 146 (by omega)]; done) | (rw [e7 143 (by omega), e7 144 (by omega), e7 145 (by omega), e7 146 (by omega)]; rfl))
  refine lv_if_eq (tgt := 57) hx hb dL_law_41 (by decide) (fun c9 => absurd c9 (by decide)) (fun _ => ?_)
  refine lv_iload hx hb dL_law_44 (lv_at hl 0 rfl) ?_
  refine lv_iconst (v := nI 2) hx hb dL_law_46 (by decide) ?_
  refine lv_icmp_ge (tgt := 59) hx hb dL_law_47 (by decide) (fun _ => ?_) (fun c9 => absurd (by decide) c9)
  refine lv_iinc (v := nI 3) (lv' := [(4, .int (nI 3)), (3, .ref (ad7 1)), (2, .ref (ad7 0)), (1, .int (nI tm)), (0, .ref b)]) hx hb dL_law_59 hl (k := 0) rfl (iinc_nat _ 1) (by decide) rfl (fun ls hl => ?_)
  refine lv_goto (tgt := 31) hx hb dL_law_62 (by decide) ?_
  refine lv_iload hx hb dL_law_31 (lv_at hl 0 rfl) ?_
  refine lv_iconst (v := nI 4) hx hb dL_law_33 (by decide) ?_
  refine lv_icmp_ge (tgt := 65) hx hb dL_law_34 (by decide) (fun c9 => absurd c9 (by decide)) (fun _ => ?_)
  refine lv_aload_n hx hb dL_law_37 rfl (lv_at hl 2 rfl) ?_
  refine iwg_i (va_runV (As := []) (rest := []) ⟨hx, hb, hml, hown, hts⟩ (kX7_paint l G (150) ad7 _ b L xs (by omega) (SL sh3 fac2 l2) (Cam_N hcamP3 (by omega)) sn3 (isTs_B hscP3 (by omega)) (31 * tm + 34) (by omega) (hy7) _) (cwV 0 hts gL_law_X7_paint rfl rfl rfl (by decide +kernel) ⟨Nat.le_of_ble_eq_true rfl, Nat.le_of_ble_eq_true rfl⟩) (iPVX hK hV hX hbA hS hP hD (by omega) (hy7) rfl []) rfl rfl hl.1 rfl (lv_room (Nat.le_of_ble_eq_true rfl)) dL_law_38 ⟨by omega, by omega⟩) hD hS hA (fun r8 ad8 C8 H locs hw8 hP hD hS => ?_)
  dsimp only at hw8
  obtain ⟨hr8, e8, c8, q1, q2, q3, q4, q5, q6, q7, hq8, hcam8, hsc8, hz8⟩ := hw8
  refine lv_asI hr8 ?_
  have k8_141 : C8 141 = ia G 64 (fun _ => nI 0) := (c8 _ (by omega) (by omega)).trans (k7_141)
  have k8_143 : C8 143 = ra G 5 0 F143 := (c8 _ (by omega) (by omega)).trans (k7_143)
  have k8_144 : C8 144 = ra G 5 0 F144 := (c8 _ (by omega) (by omega)).trans (k7_144)
  have k8_145 : C8 145 = ra G 5 0 F145 := (c8 _ (by omega) (by omega)).trans (k7_145)
  have k8_146 : C8 146 = ra G 5 0 F146 := (c8 _ (by omega) (by omega)).trans (k7_146)
  have k8_140 : C8 140 = ia G 3 fl2 := (c8 _ (by omega) (by omega)).trans (k7_140)
  have hl : lv_has ls 16 [(4, .int (nI 3)), (3, .ref (ad8 1)), (2, .ref (ad8 0)), (1, .int (nI tm)), (0, .ref b)] := by rw [e8 1 (by omega), e8 0 (by omega)]; exact hl
  obtain ⟨sh4, sn4, hcamP4, hscP4, hsn4⟩ : ∃ sh sn : Nat → Nat, Cam G (151) ad8 C8 1 (SL sh fac2 l2) ∧ isTs G ad8 C8 (151) sn ∧ SnI sh sn := ⟨_, _, hcam8, hsc8, SnI_p (c := 0) hsn3 hq8⟩
  have hy8 : C8 0 = ob 7 [.ref (ad8 1), .ref b, .int (nI (31 * tm + 41)), .ref (ad8 75), .ref (ad8 140), .ref (ad8 141), .ref (ad8 142), .int (nI 0), .ref (ad8 143), .ref (ad8 144), .ref (ad8 145), .ref (ad8 146)] := hz8.trans (by first | (rw [e8 143 (by omega), e8 144 (by omega), e8 145 (by omega), e8 146 (by omega)]; done) | (rw [e8 143 (by omega), e8 144 (by omega), e8 145 (by omega), e8 146 (by omega)]; rfl))
  refine lv_if_eq (tgt := 57) hx hb dL_law_41 (by decide) (fun c9 => absurd c9 (by decide)) (fun _ => ?_)
  refine lv_iload hx hb dL_law_44 (lv_at hl 0 rfl) ?_
  refine lv_iconst (v := nI 2) hx hb dL_law_46 (by decide) ?_
  refine lv_icmp_ge (tgt := 59) hx hb dL_law_47 (by decide) (fun _ => ?_) (fun c9 => absurd (by decide) c9)
  refine lv_iinc (v := nI 4) (lv' := [(4, .int (nI 4)), (3, .ref (ad8 1)), (2, .ref (ad8 0)), (1, .int (nI tm)), (0, .ref b)]) hx hb dL_law_59 hl (k := 0) rfl (iinc_nat _ 1) (by decide) rfl (fun ls hl => ?_)
  refine lv_goto (tgt := 31) hx hb dL_law_62 (by decide) ?_
  refine lv_iload hx hb dL_law_31 (lv_at hl 0 rfl) ?_
  refine lv_iconst (v := nI 4) hx hb dL_law_33 (by decide) ?_
  refine lv_icmp_ge (tgt := 65) hx hb dL_law_34 (by decide) (fun _ => ?_) (fun c9 => absurd (by decide) c9)
  refine W.widen (k := cells + 1000) (n := slots + 10000) (by omega) (by omega) ?_
  have hF : F1 sh4 sn4 fac2 l1 l2 l3 := ⟨hsn4, hll, hfac⟩
  have tsE := hscP4
  have z_0 : (C8) 0 = ob 7 [.ref (ad8 1), .ref b, .int (nI (31 * tm + 41)), .ref (ad8 75), .ref (ad8 140), .ref (ad8 141), .ref (ad8 142), .int (nI 0), .ref (ad8 143), .ref (ad8 144), .ref (ad8 145), .ref (ad8 146)] := hy8
  have z_140 : (C8) 140 = ia G 3 fl2 := k8_140
  have z_141 : (C8) 141 = ia G 64 (fun _ => nI 0) := k8_141
  have z_143 : (C8) 143 = ra G 5 0 F143 := k8_143
  have z_144 : (C8) 144 = ra G 5 0 F144 := k8_144
  have z_145 : (C8) 145 = ra G 5 0 F145 := k8_145
  have z_146 : (C8) 146 = ra G 5 0 F146 := k8_146
  exact kx ad8 C8 H locs ls sh4 sn4 fac2 l1 l2 l3 hF ⟨(Cam_N hcamP4 (by omega)), hscP4, z_0, ⟨fl2, z_140, hfl⟩, z_141, ⟨F143, z_143⟩, ⟨F144, z_144⟩, ⟨F145, z_145⟩, F146, z_146⟩ hP hD hS (lv_sub hl [1, 2, 3, 4] rfl)
