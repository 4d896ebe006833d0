set_option maxRecDepth 20000 in
theorem ggL_law_X7_take : GoodIn wsL_law wsX7_take := goodIn_ca (goodIn_ca (goodIn_r _ [383, 384, 34, 35, 4, 36, 26, 116, 117, 118, 2, 119, 38, 39, 120, 121, 122, 123, 124, 125, 126, 385, 386, 387, 388, 28, 29, 389, 390, 391, 30, 392, 393, 394, 395, 396, 397, 33, 398, 399, 400, 401, 402, 355, 356, 8, 357, 56, 51, 47, 53, 326, 327, 328, 142, 143, 144, 131, 132, 358, 359, 360, 361, 362, 329, 330, 331, 50, 332, 81, 79, 146, 147, 214, 215, 333, 334, 335, 46, 336, 74, 337, 338, 339, 340, 341, 72, 342, 343, 344, 345, 13, 14, 15, 346, 222, 223, 363, 364, 365, 366, 508, 509, 510, 511, 512, 513, 514, 515, 516, 517, 518, 519, 520, 521, 522, 523, 524, 525, 526, 527, 528, 532, 533, 534, 535, 536, 537, 538, 539, 529, 530, 531] (by decide +kernel) (by decide +kernel)) (goodIn_sub (fun _ h => List.mem_append_left _ (List.mem_append_left _ (List.mem_append_right _ h))) (by decide +kernel))) (goodIn_sub (fun _ h => List.mem_append_right _ h) (by decide +kernel))
set_option maxRecDepth 20000 in
theorem gL_law_X7_take : GoodIn wsL_law (wsV RL 68 RX7 yX7_take wsX7_take) := goodIn_app (goodIn_of _ (by decide +kernel)) ggL_law_X7_take
set_option maxRecDepth 20000 in
theorem ggL_law_X7_edit : GoodIn wsL_law wsX7_edit := goodIn_ca (goodIn_ca (goodIn_ca (goodIn_r _ [406, 36, 26, 116, 117, 118, 2, 119, 38, 39, 120, 121, 122, 123, 124, 125, 126, 407, 408, 409, 4, 398, 399, 400, 401, 410, 411, 412, 8, 413, 53, 201, 202, 203, 204, 137, 138, 56, 142, 143, 144, 131, 132, 414, 415, 416, 417, 418, 419, 189, 190, 191, 88, 192, 98, 358, 359, 360, 361, 362, 420, 421, 422, 423, 96, 97, 508, 509, 510, 511, 512, 513, 514, 515, 516, 517, 518, 519, 520, 521, 522, 523, 524, 525, 526, 527, 528, 535, 536, 537, 538, 539, 545, 546, 547] (by decide +kernel) (by decide +kernel)) (goodIn_sub (fun _ h => List.mem_append_left _ (List.mem_append_right _ h)) (by decide +kernel))) (goodIn_sub (fun _ h => List.mem_append_left _ (List.mem_append_left _ (List.mem_append_right _ h))) (by decide +kernel))) (goodIn_sub (fun _ h => List.mem_append_right _ h) (by decide +kernel))
set_option maxRecDepth 20000 in
theorem gL_law_X7_edit : GoodIn wsL_law (wsV RL 70 RX7 yX7_edit wsX7_edit) := goodIn_app (goodIn_of _ (by decide +kernel)) ggL_law_X7_edit
set_option maxRecDepth 20000 in
theorem ggL_law_X7_save : GoodIn wsL_law wsX7_save := goodIn_ca (goodIn_ca (goodIn_r _ [427, 37, 36, 4, 398, 399, 400, 401, 26, 395, 396, 2, 397, 33, 428, 429, 430, 8, 431, 57, 55, 53, 201, 202, 203, 204, 137, 138, 56, 358, 359, 360, 361, 362, 228, 229, 230, 231, 432, 433, 434, 67, 435, 109, 110, 108, 436, 437, 438, 88, 439, 96, 97, 98, 508, 509, 510, 511, 512, 513, 514, 515, 516, 517, 518, 519, 520, 521, 522, 523, 524, 525, 526, 527, 528, 535, 536, 537, 538, 539, 542, 543, 544, 545, 546, 547] (by decide +kernel) (by decide +kernel)) (goodIn_sub (fun _ h => List.mem_append_left _ (List.mem_append_right _ h)) (by decide +kernel))) (goodIn_sub (fun _ h => List.mem_append_right _ h) (by decide +kernel))
set_option maxRecDepth 20000 in
theorem gL_law_X7_save : GoodIn wsL_law (wsV RL 74 RX7 yX7_save wsX7_save) := goodIn_app (goodIn_of _ (by decide +kernel)) ggL_law_X7_save
set_option maxHeartbeats 4000000 in
set_option maxRecDepth 100000 in
theorem law_r5 {p : Program} {l : Launch} {e : Env} {s : State} {m : MethodId} {below : List Frame} {meth : Method} {c : Code} {Q : State → Prop} {b L : Nat} {xs : Nat → Int32} {cells slots : Nat} (hx : p.tables.exec = Jvm.exec) (hb : c.code = cL_law) (hml : c.maxLocals = 16) (hr : meth.sig.returnType = (some .boolean)) (hts : ∀ w ∈ wsL_law, w.before #[Value.ref b] s = true) (hown : s.vm.findClass RL = some m.cls) {G : iG} (hK : KB G s) (hV : VX s) (hX : XS b L xs 0 (fun _ => 0) s s.heap) (hbA : ¬ aA s b) (hcc : cells + 4000 ≤ room_1.cells) (hcs : slots + 40000 ≤ room_1.slots) {ad : Nat → Nat} {C : Nat → va_E} {H : Heap} {locs : List Loc} {ls : Array Slot} {tm d l1 l2 l3 : Nat} {sh sn : Nat → Nat} {fac : Nat → UInt32} (hd : d < 400) (hF : F1 sh sn fac l1 l2 l3) (hW : W1 G 153 151 ad C b d (SL sh fac l2) sn l1 l2 l3) (hP : va_P G.1 vwB (wl 153 ad C) H) (hD : va_D (aA s) (wl 153 ad C)) (hS : va_S (aA s) s.heap H locs) (hl : lv_has ls 16 [(3, .ref (ad 1)), (2, .ref (ad 0)), (1, .int (nI tm)), (0, .ref b)]) (kx : ∀ (ad : Nat → Nat) (C : Nat → va_E) (H : Heap) (locs : List Loc) (ls : Array Slot) (rw e1 e2 : Nat → Nat) (z : Int32 × Int32 × Int32) (fi : Nat → Fi) (d2 a8 a9 a10 a11 : Nat) (dw : Int32), Cam G 163 ad C 1 (SC sh fac l2 rw e1 e2 2 z fi) → d2 ≤ d + 8 → C 0 = ob 7 [.ref (ad 1), .ref b, .int (nI d2), .ref (ad 75), .ref (ad 140), .ref (ad 141), .ref (ad 142), .int dw, .ref a8, .ref a9, .ref a10, .ref a11] → (∃ q : Nat, fi 0 = ((e1, e2, 2), 0, q)) → va_P G.1 vwB (wl 163 ad C) H → va_D (aA s) (wl 163 ad C) → va_S (aA s) s.heap H locs → lv_has ls 16 [(3, .ref (ad 1)), (2, .ref (ad 0)), (1, .int (nI tm)), (0, .ref b)] → W p l e room_1 s m #[Value.ref b] below meth c H locs (cells + 100) (slots + 1000) Q (F0 m 431 ls [])) : W p l e room_1 s m #[Value.ref b] below meth c H locs cells slots Q (F0 m 398 ls []) := by
  have hA : ∀ q : Nat, s.heap.size ≤ q → aA s q := fun _ h => h
  obtain ⟨hcam, hsc, h0, ⟨fl, g140, hfl⟩, g141, ⟨F143, g143⟩, ⟨F144, g144⟩, ⟨F145, g145⟩, F146, g146⟩ := hW
  obtain ⟨hsn, ⟨hl1, hl2, hl3⟩, hfac⟩ := id hF
  refine lv_aload_n hx hb dL_law_398 rfl (lv_at hl 1 rfl) ?_
  refine iwg_i (va_runV (As := []) (rest := []) ⟨hx, hb, hml, hown, hts⟩ (kX7_take l G (153) ad _ b L xs (by omega) (SL sh fac l2) (Cam_N hcam (by omega)) sn hsc d (by omega) (h0) (fl := fl) (lp := rw3 l1 l2 l3) (g140) hfl (fun i hi => by rcases (show i = 0 ∨ i = 1 ∨ i = 2 by omega) with rfl | rfl | rfl; exact hl1; exact hl2; exact hl3) (g141) (g143) (g144) (g145) rfl _) (cwV 0 hts gL_law_X7_take rfl rfl rfl (by decide +kernel) ⟨Nat.le_of_ble_eq_true rfl, Nat.le_of_ble_eq_true rfl⟩) (iPVX hK hV hX hbA hS hP hD (by omega) (h0) rfl []) rfl rfl hl.1 rfl (lv_room (Nat.le_of_ble_eq_true rfl)) dL_law_399 ⟨by omega, by omega⟩) hD hS hA (fun r8 ad1 C1 H locs hw8 hP hD hS => ?_)
  dsimp only at hw8
  obtain ⟨hr8, e1, c1, t1, g1, ht1, hg1, hcam1, hsc1, ⟨dw, hz1⟩, F158, f157, h1581, hF1581, h1571⟩ := hw8
  refine lv_asI hr8 ?_
  have k1_140 : C1 140 = ia G 3 fl := (c1 _ (by omega) (by omega)).trans (g140)
  have k1_141 : C1 141 = ia G 64 (fun _ => nI 0) := (c1 _ (by omega) (by omega)).trans (g141)
  have k1_146 : C1 146 = ra G 5 0 F146 := (c1 _ (by omega) (by omega)).trans (g146)
  have hl : lv_has ls 16 [(3, .ref (ad1 1)), (2, .ref (ad1 0)), (1, .int (nI tm)), (0, .ref b)] := by rw [e1 1 (by omega), e1 0 (by omega)]; exact hl
  obtain ⟨rw, z, hcamT⟩ : ∃ (rw : Nat → Nat) (z : Int32 × Int32 × Int32), Cam G 159 ad1 C1 1 (SB sh fac l2 rw (fun _ => 0) (fun _ => 0) 0 z) := ⟨_, _, hcam1⟩
  obtain ⟨a8, a9, hzT⟩ : ∃ a8 a9 : Nat, C1 0 = ob 7 [.ref (ad1 1), .ref b, .int (nI (d + 4)), .ref (ad1 75), .ref (ad1 140), .ref (ad1 141), .ref (ad1 142), .int dw, .ref a8, .ref a9, .ref (ad1 158), .ref (ad1 146)] := ⟨_, _, hz1.trans (by rw [e1 146 (by omega)])⟩
  refine lv_if_eq (tgt := 429) hx hb dL_law_402 (by decide) (fun c9 => absurd c9 (by decide)) (fun _ => ?_)
  refine lv_aload_n hx hb dL_law_405 rfl (lv_at hl 1 rfl) ?_
  refine lv_iconst (v := nI 0) hx hb dL_law_406 (by decide) ?_
  refine iwg_i (va_runV (As := [.int (nI 0)]) (rest := []) ⟨hx, hb, hml, hown, hts⟩ (kX7_edit l G (159) ad1 _ b L xs (by omega) (SB sh fac l2 rw (fun _ => 0) (fun _ => 0) 0 z) (Cam_N hcamT (by omega)) sn hsc1 (d + 4) (by omega) (eg := 158) (ee := 157) (k := 0) (by omega) (by omega) (by omega) (by omega) (by omega) (hzT) (FE := F158) (fe := f157) (h1581) (hF1581) (h1571) rfl rfl _) (cwV 1 hts gL_law_X7_edit rfl rfl rfl (by decide +kernel) ⟨Nat.le_of_ble_eq_true rfl, Nat.le_of_ble_eq_true rfl⟩) (iPVX hK hV hX hbA hS hP hD (by omega) (hzT) rfl [.int (nI 0)]) rfl rfl hl.1 rfl (lv_room (Nat.le_of_ble_eq_true rfl)) dL_law_407 ⟨by omega, by omega⟩) hD hS hA (fun r8 ad2 C2 H locs hw8 hP hD hS => ?_)
  dsimp only at hw8
  obtain ⟨hr8, e2, c2, kd0, nb0, hkn0, hcam2, hsc2, ⟨d0, hd0, hz2⟩, F158_0, f_0, h1582, hF1582, hrow2⟩ := hw8
  refine lv_asI hr8 ?_
  have k2_140 : C2 140 = ia G 3 fl := (c2 _ (by omega) (by omega)).trans (k1_140)
  have k2_141 : C2 141 = ia G 64 (fun _ => nI 0) := (c2 _ (by omega) (by omega)).trans (k1_141)
  have k2_146 : C2 146 = ra G 5 0 F146 := (c2 _ (by omega) (by omega)).trans (k1_146)
  have hl : lv_has ls 16 [(3, .ref (ad2 1)), (2, .ref (ad2 0)), (1, .int (nI tm)), (0, .ref b)] := by rw [e2 1 (by omega), e2 0 (by omega)]; exact hl
  obtain ⟨e1_0, e2_0, hcamE0⟩ : ∃ e1 e2 : Nat → Nat, Cam G 160 ad2 C2 1 (SB sh fac l2 rw e1 e2 1 z) := ⟨va_up (fun _ => 0) 0 kd0, va_up (fun _ => 0) 0 nb0, by show Cam G _ _ _ _ (mkS sh fac l2 (fun _ => 0) (fun _ => false) (drN 0 64) 1 0 (va_up FR00 0 (rw, (va_up (fun _ => 0) 0 kd0, va_up (fun _ => 0) 0 nb0, 1), z)) FI00); rw [← va_uu FR00 0 (rw, ((fun _ => 0), (fun _ => 0), 0), z) (rw, (va_up (fun _ => 0) 0 kd0, va_up (fun _ => 0) 0 nb0, 1), z)]; exact hcam2⟩
  have hzE0 : C2 0 = ob 7 [.ref (ad2 1), .ref b, .int (nI d0), .ref (ad2 75), .ref (ad2 140), .ref (ad2 141), .ref (ad2 142), .int dw, .ref a8, .ref a9, .ref (ad2 158), .ref (ad2 146)] := hz2
  refine lv_if_eq (tgt := 429) hx hb dL_law_410 (by decide) (fun c9 => absurd c9 (by decide)) (fun _ => ?_)
  refine lv_aload_n hx hb dL_law_413 rfl (lv_at hl 1 rfl) ?_
  refine lv_iconst (v := nI 0) hx hb dL_law_414 (by decide) ?_
  refine iwg_i (va_runV (As := [.int (nI 0)]) (rest := []) ⟨hx, hb, hml, hown, hts⟩ (kX7_edit l G (160) ad2 _ b L xs (by omega) (SB sh fac l2 rw e1_0 e2_0 1 z) (Cam_N hcamE0 (by omega)) sn hsc2 (d0) (by omega) (eg := 158) (ee := 159) (k := 1) (by omega) (by omega) (by omega) (by omega) (by omega) (hzE0) (FE := F158_0) (fe := f_0) (h1582) (hF1582) (hrow2) rfl rfl _) (cwV 1 hts gL_law_X7_edit rfl rfl rfl (by decide +kernel) ⟨Nat.le_of_ble_eq_true rfl, Nat.le_of_ble_eq_true rfl⟩) (iPVX hK hV hX hbA hS hP hD (by omega) (hzE0) rfl [.int (nI 0)]) rfl rfl hl.1 rfl (lv_room (Nat.le_of_ble_eq_true rfl)) dL_law_415 ⟨by omega, by omega⟩) hD hS hA (fun r8 ad3 C3 H locs hw8 hP hD hS => ?_)
  dsimp only at hw8
  obtain ⟨hr8, e3, c3, kd1, nb1, hkn1, hcam3, hsc3, ⟨d1, hd1, hz3⟩, F158_1, f_1, h1583, hF1583, hrow3⟩ := hw8
  refine lv_asI hr8 ?_
  have k3_140 : C3 140 = ia G 3 fl := (c3 _ (by omega) (by omega)).trans (k2_140)
  have k3_141 : C3 141 = ia G 64 (fun _ => nI 0) := (c3 _ (by omega) (by omega)).trans (k2_141)
  have k3_146 : C3 146 = ra G 5 0 F146 := (c3 _ (by omega) (by omega)).trans (k2_146)
  have hl : lv_has ls 16 [(3, .ref (ad3 1)), (2, .ref (ad3 0)), (1, .int (nI tm)), (0, .ref b)] := by rw [e3 1 (by omega), e3 0 (by omega)]; exact hl
  obtain ⟨e1_1, e2_1, hcamE1⟩ : ∃ e1 e2 : Nat → Nat, Cam G 161 ad3 C3 1 (SB sh fac l2 rw e1 e2 2 z) := ⟨va_up e1_0 1 kd1, va_up e2_0 1 nb1, by show Cam G _ _ _ _ (mkS sh fac l2 (fun _ => 0) (fun _ => false) (drN 0 64) 1 0 (va_up FR00 0 (rw, (va_up e1_0 1 kd1, va_up e2_0 1 nb1, 2), z)) FI00); rw [← va_uu FR00 0 (rw, (e1_0, e2_0, 1), z) (rw, (va_up e1_0 1 kd1, va_up e2_0 1 nb1, 2), z)]; exact hcam3⟩
  have hzE1 : C3 0 = ob 7 [.ref (ad3 1), .ref b, .int (nI d1), .ref (ad3 75), .ref (ad3 140), .ref (ad3 141), .ref (ad3 142), .int dw, .ref a8, .ref a9, .ref (ad3 158), .ref (ad3 146)] := hz3
  refine lv_if_eq (tgt := 429) hx hb dL_law_418 (by decide) (fun c9 => absurd c9 (by decide)) (fun _ => ?_)
  refine lv_aload_n hx hb dL_law_421 rfl (lv_at hl 1 rfl) ?_
  refine lv_iconst (v := nI 0) hx hb dL_law_422 (by decide) ?_
  refine iwg_i (va_runV (As := [.int (nI 0)]) (rest := []) ⟨hx, hb, hml, hown, hts⟩ (kX7_save l G (161) ad3 _ (by omega) (SB sh fac l2 rw e1_1 e2_1 2 z) (Cam_N hcamE1 (by omega)) sn hsc3 (d1) (eg := 158) (ee := 160) (by omega) (by omega) (hzE1) (FE := F158_1) (fe := f_1) (h1583) (hF1583) (hrow3) (k3_146) rfl rfl _) (cwV 1 hts gL_law_X7_save rfl rfl rfl (by decide +kernel) ⟨Nat.le_of_ble_eq_true rfl, Nat.le_of_ble_eq_true rfl⟩) (iPVV hK hV hP hD (by omega) (hzE1) rfl [.int (nI 0)]) rfl rfl hl.1 rfl (lv_room (Nat.le_of_ble_eq_true rfl)) dL_law_423 ⟨by omega, by omega⟩) hD hS hA (fun r8 ad4 C4 H locs hw8 hP hD hS => ?_)
  dsimp only at hw8
  obtain ⟨hr8, e4, c4, hcam4, hsc4, hz4⟩ := hw8
  refine lv_asI hr8 ?_
  have k4_140 : C4 140 = ia G 3 fl := (c4 _ (by omega) (by omega)).trans (k3_140)
  have k4_141 : C4 141 = ia G 64 (fun _ => nI 0) := (c4 _ (by omega) (by omega)).trans (k3_141)
  have hl : lv_has ls 16 [(3, .ref (ad4 1)), (2, .ref (ad4 0)), (1, .int (nI tm)), (0, .ref b)] := by rw [e4 1 (by omega), e4 0 (by omega)]; exact hl
  obtain ⟨fi, hcamS, hfi⟩ : ∃ fi : Nat → Fi, Cam G 163 ad4 C4 1 (SC sh fac l2 rw e1_1 e2_1 2 z fi) ∧ ∃ q : Nat, fi 0 = ((e1_1, e2_1, 2), 0, q) := ⟨_, hcam4, _, rfl⟩
  obtain ⟨a10, a11, hzS⟩ : ∃ a10 a11 : Nat, C4 0 = ob 7 [.ref (ad4 1), .ref b, .int (nI d1), .ref (ad4 75), .ref (ad4 140), .ref (ad4 141), .ref (ad4 142), .int dw, .ref a8, .ref a9, .ref a10, .ref a11] := ⟨_, _, hz4⟩
  refine lv_if_ne (tgt := 431) hx hb dL_law_426 (by decide) (fun _ => ?_) (fun c9 => absurd c9 (by decide))
  refine W.widen (k := cells + 100) (n := slots + 1000) (by omega) (by omega) ?_
  exact kx ad4 C4 H locs ls rw e1_1 e2_1 z fi d1 a8 a9 a10 a11 dw hcamS (by omega) hzS hfi hP hD hS (lv_sub hl [0, 1, 2, 3] rfl)
