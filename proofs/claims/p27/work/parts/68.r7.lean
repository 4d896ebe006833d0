set_option maxRecDepth 20000 in
theorem ggL_law_X6_picture : GoodIn wsL_law wsX6_picture := goodIn_ca (goodIn_ca (goodIn_r _ [454, 64, 201, 202, 203, 8, 204, 137, 138, 56, 134, 135, 136, 139, 140, 141, 142, 143, 144, 131, 132, 455, 456, 457, 458, 53, 51, 240, 241, 242, 63, 243, 244, 245, 246, 88, 247, 98, 96, 248, 249, 250, 251, 103, 146, 147, 252, 253, 254, 255, 256, 257, 258, 102, 214, 215, 259, 260, 261, 262, 263, 264, 265, 266, 190, 191, 192, 267, 268, 269, 270, 271, 272, 273, 274, 275, 276, 277, 278, 279, 280, 281, 282, 283, 284, 285, 286, 287, 288, 289, 290, 291, 292, 293, 294, 295, 296, 145, 459, 520, 521, 522, 523, 524, 525, 526, 527, 528, 540, 541, 535, 536, 537, 538, 539, 532, 533, 534, 545, 546, 547] (by decide +kernel) (by decide +kernel)) (goodIn_sub (fun _ h => List.mem_append_left _ (List.mem_append_right _ h)) (by decide +kernel))) (goodIn_sub (fun _ h => List.mem_append_left _ (List.mem_append_left _ (List.mem_append_right _ h))) (by decide +kernel))
set_option maxRecDepth 20000 in
theorem gL_law_X6_picture : GoodIn wsL_law (wsV RL 85 RX6 yX6_picture wsX6_picture) := goodIn_app (goodIn_of _ (by decide +kernel)) ggL_law_X6_picture
set_option maxRecDepth 20000 in
theorem ggL_law_X6_edit : GoodIn wsL_law wsX6_edit := goodIn_ca (goodIn_ca (goodIn_ca (goodIn_r _ [413, 53, 201, 202, 203, 8, 204, 137, 138, 56, 142, 143, 144, 131, 132, 414, 415, 416, 417, 418, 419, 189, 190, 191, 88, 192, 98, 358, 359, 360, 361, 362, 420, 421, 422, 423, 96, 97, 520, 521, 522, 523, 524, 525, 526, 527, 528, 535, 536, 537, 538, 539, 545, 546, 547] (by decide +kernel) (by decide +kernel)) (goodIn_sub (fun _ h => List.mem_append_left _ (List.mem_append_right _ h)) (by decide +kernel))) (goodIn_sub (fun _ h => List.mem_append_left _ (List.mem_append_left _ (List.mem_append_right _ h))) (by decide +kernel))) (goodIn_sub (fun _ h => List.mem_append_right _ h) (by decide +kernel))
set_option maxRecDepth 20000 in
theorem gL_law_X6_edit : GoodIn wsL_law (wsV RL 83 RX6 yX6_edit wsX6_edit) := goodIn_app (goodIn_of _ (by decide +kernel)) ggL_law_X6_edit
set_option maxRecDepth 20000 in
theorem ggL_law_X6_ofFile : GoodIn wsL_law wsX6_ofFile := goodIn_ca (goodIn_ca (goodIn_r _ [318, 57, 55, 319, 320, 8, 321, 137, 138, 142, 143, 144, 131, 132, 189, 190, 191, 88, 192, 98, 236, 237, 238, 239, 64, 53, 51, 240, 241, 242, 63, 243, 244, 245, 246, 247, 96, 248, 249, 250, 251, 103, 146, 147, 252, 253, 254, 140, 141, 255, 256, 257, 258, 102, 214, 215, 259, 260, 261, 262, 263, 264, 265, 266, 267, 268, 269, 270, 271, 272, 273, 274, 275, 276, 277, 278, 279, 280, 281, 282, 283, 284, 285, 286, 287, 288, 289, 290, 291, 292, 293, 294, 295, 296, 297, 298, 299, 300, 520, 521, 522, 523, 524, 525, 526, 527, 528, 542, 543, 544, 545, 546, 547, 535, 536, 537, 538, 539, 532, 533, 534, 540, 541] (by decide +kernel) (by decide +kernel)) (goodIn_sub (fun _ h => List.mem_append_left _ (List.mem_append_right _ h)) (by decide +kernel))) (goodIn_sub (fun _ h => List.mem_append_left _ (List.mem_append_left _ (List.mem_append_right _ h))) (by decide +kernel))
set_option maxRecDepth 20000 in
theorem gL_law_X6_ofFile : GoodIn wsL_law (wsV RL 91 RX6 yX6_ofFile wsX6_ofFile) := goodIn_app (goodIn_of _ (by decide +kernel)) ggL_law_X6_ofFile
set_option maxRecDepth 20000 in
theorem ggL_law_X6_undo : GoodIn wsL_law wsX6_undo := goodIn_ca (goodIn_r _ [464, 53, 201, 202, 203, 8, 204, 137, 138, 56, 465, 466, 467, 88, 468, 98, 96, 520, 521, 522, 523, 524, 525, 526, 527, 528, 535, 536, 537, 538, 539, 545, 546, 547] (by decide +kernel) (by decide +kernel)) (goodIn_sub (fun _ h => List.mem_append_left _ (List.mem_append_right _ h)) (by decide +kernel))
set_option maxRecDepth 20000 in
theorem gL_law_X6_undo : GoodIn wsL_law (wsV RL 94 RX6 yX6_undo wsX6_undo) := goodIn_app (goodIn_of _ (by decide +kernel)) ggL_law_X6_undo
set_option maxHeartbeats 4000000 in
set_option maxRecDepth 100000 in
theorem law_r7p {p : Program} {l : Launch} {e : Env} {s : State} {m : MethodId} {below : List Frame} {meth : Method} {c : Code} {Q : State → Prop} {b L : Nat} {xs : Nat → Int32} {cells slots : Nat} (hx : p.tables.exec = Jvm.exec) (hb : c.code = cL_law) (hml : c.maxLocals = 16) (hr : meth.sig.returnType = (some .boolean)) (hts : ∀ w ∈ wsL_law, w.before #[Value.ref b] s = true) (hown : s.vm.findClass RL = some m.cls) {G : iG} (hK : KB G s) (hV : VX s) (hX : XS b L xs 0 (fun _ => 0) s s.heap) (hbA : ¬ aA s b) (hcc : cells ≤ room_1.cells) (hcs : slots ≤ room_1.slots) {ad : Nat → Nat} {tm k kd w0 cc : Nat} {S : St} {gg : Nat → Int32} {C0 : Nat → va_E} (hk : k < 3) (hcc2 : (kd = 1 ∧ cc = 0) ∨ (kd = 2 ∧ cc = 2)) (hfn : sFn S = 1) (hok : okEr (sFr S 0).2.1) (kx : ∀ (C : Nat → va_E) (H : Heap) (locs : List Loc) (ls : Array Slot), Cam G 165 ad C 1 S → C 164 = ia G 3 (upd gg k (ofS (coF (sFr S 0).1 (sMp S) (sFr S 0).2.1) cc 64)) → (∀ j, (j < 1 ∨ 75 ≤ j) → j ≠ 164 → C j = C0 j) → va_P G.1 vwB (wl 165 ad C) H → va_D (aA s) (wl 165 ad C) → va_S (aA s) s.heap H locs → lv_has ls 16 [(14, .int (nI k)), (13, .ref (ad 164)), (12, .ref (ad 163)), (11, .int (nI w0)), (10, .int (nI kd)), (3, .ref (ad 1)), (2, .ref (ad 0)), (1, .int (nI tm)), (0, .ref b)] → W p l e room_1 s m #[Value.ref b] below meth c H locs cells slots Q (F0 m 583 ls [])) : ∀ (dq : Nat) (p9 : Nat) (C : Nat → va_E) (H : Heap) (locs : List Loc) (ls : Array Slot), 64 - p9 < dq → p9 ≤ 64 → Cam G 165 ad C 1 S → C 164 = ia G 3 (upd gg k (ofS (coF (sFr S 0).1 (sMp S) (sFr S 0).2.1) cc p9)) → (∀ j, (j < 1 ∨ 75 ≤ j) → j ≠ 164 → C j = C0 j) → va_P G.1 vwB (wl 165 ad C) H → va_D (aA s) (wl 165 ad C) → va_S (aA s) s.heap H locs → lv_has ls 16 [(15, .int (nI p9)), (14, .int (nI k)), (13, .ref (ad 164)), (12, .ref (ad 163)), (11, .int (nI w0)), (10, .int (nI kd)), (3, .ref (ad 1)), (2, .ref (ad 0)), (1, .int (nI tm)), (0, .ref b)] → W p l e room_1 s m #[Value.ref b] below meth c H locs cells slots Q (F0 m 517 ls []) := by
  have hA : ∀ q : Nat, s.heap.size ≤ q → aA s q := fun _ h => h
  intro dq
  induction dq with
  | zero => intro p9 C H locs ls hd; exact absurd hd (Nat.not_lt_zero _)
  | succ dq ih =>
    intro p9 C H locs ls hd h2 hcam h164 hag hP hD hS hl
    have hpic : ∀ i, i < 192 → FP.d2i (FP.f2d (piF (sFr S 0).1 (sMp S) (sFr S 0).2.1 i)) = FP.f2i (bdF ((coF (sFr S 0).1 (sMp S) (sFr S 0).2.1) i)) := fun i hi => d2i_f2d (piF_n _ _ hok hi)
    refine lv_iload hx hb dL_law_517 (lv_at hl 0 rfl) ?_
    refine lv_bipush (v := nI 64) hx hb dL_law_519 (by decide) ?_
    refine lv_icmp_ge (tgt := 583) hx hb dL_law_521 (by decide) (fun c521 => ?_) (fun c521 => ?_)
    · have h5 : p9 = 64 := by have := (nI_leI (by omega) (by omega)).mp c521; omega
      subst h5
      exact kx C H locs ls hcam h164 hag hP hD hS (lv_sub hl [1, 2, 3, 4, 5, 6, 7, 8, 9] rfl)
    · have h4 : p9 < 64 := by have := mt (nI_leI (by omega) (by omega)).mpr c521; omega
      refine lv_aload hx hb dL_law_524 (lv_at hl 2 rfl) ?_
      refine lv_iload hx hb dL_law_526 (lv_at hl 1 rfl) ?_
      refine lv_dup2_11 hx hb dL_law_528 rfl rfl ?_
      refine iw_iald (v := (upd gg k (ofS (coF (sFr S 0).1 (sMp S) (sFr S 0).2.1) cc p9)) k) hx hb hK hP (by omega) (h164) (vp_in_nI (show k < 3 by omega) (by omega)) (congrArg (upd gg k (ofS (coF (sFr S 0).1 (sMp S) (sFr S 0).2.1) cc p9)) (nI_clamp (by omega))) dL_law_529 ?_
      refine lv_asI (y := ofS (coF (sFr S 0).1 (sMp S) (sFr S 0).2.1) cc p9) pk_us ?_
      refine lv_aload_n hx hb dL_law_530 rfl (lv_at hl 6 rfl) ?_
      refine lv_iconst (v := nI 0) hx hb dL_law_531 (by decide) ?_
      refine lv_iload hx hb dL_law_532 (lv_at hl 0 rfl) ?_
      refine lv_bipush (v := nI 8) hx hb dL_law_534 (by decide) ?_
      refine lv_irem hx hb dL_law_536 (by decide) ?_
      refine lv_asI (y := nI (p9 % 8)) (pk_rem (by omega) (by omega) (by omega)) ?_
      refine lv_iload hx hb dL_law_537 (lv_at hl 0 rfl) ?_
      refine lv_bipush (v := nI 8) hx hb dL_law_539 (by decide) ?_
      refine lv_idiv hx hb dL_law_541 (by decide) ?_
      refine lv_asI (y := nI (p9 / 8)) (pk_div (by omega) (by omega) (by omega)) ?_
      refine lv_iconst (v := nI 1) hx hb dL_law_542 (by decide) ?_
      refine iw_d (va_runV (As := [.int (nI 0), .int (nI (p9 % 8)), .int (nI (p9 / 8)), .int (nI 1)]) (rest := [.int (ofS (coF (sFr S 0).1 (sMp S) (sFr S 0).2.1) cc p9), .int (nI k), .ref (ad 164)]) ⟨hx, hb, hml, hown, hts⟩ (kX6_picture l G (165) ad _ 1 S (Cam_N hcam (by omega)) 0 (by rw [hfn]; decide) (p9 % 8) (p9 / 8) (by omega) (by omega) 1 (by omega) _) (cwV 4 hts gL_law_X6_picture rfl rfl rfl (by decide +kernel) ⟨Nat.le_of_ble_eq_true rfl, Nat.le_of_ble_eq_true rfl⟩) (iPV hK hP hD (by omega) (hcam.2.2.1) rfl [.int (nI 0), .int (nI (p9 % 8)), .int (nI (p9 / 8)), .int (nI 1)]) rfl rfl hl.1 rfl (lv_room (Nat.le_of_ble_eq_true rfl)) dL_law_543 ⟨hcc, hcs⟩) hD hS hA (fun r8 u8 H locs hw8 hP hD hS => ?_)
      obtain ⟨hr8, hc8, hs8⟩ := hw8
      refine lv_asD hr8 ?_
      obtain ⟨V1, rfl⟩ : ∃ V, V = u8 := ⟨_, rfl⟩
      have k1_164 : V1 164 = ia G 3 (upd gg k (ofS (coF (sFr S 0).1 (sMp S) (sFr S 0).2.1) cc p9)) := (hs8 _ (by omega)).trans (h164)
      have q1_cam := hc8
      have hsA := hs8
      refine lv_d2i hx hb dL_law_546 ?_
      refine lv_asI (y := FP.f2i (bdF ((coF (sFr S 0).1 (sMp S) (sFr S 0).2.1) (3 * p9 + 1)))) (by rw [show 3 * (8 * (p9 / 8) + p9 % 8) + 1 = 3 * p9 + 1 by omega]; exact hpic _ (by omega)) ?_
      refine lv_aload_n hx hb dL_law_547 rfl (lv_at hl 6 rfl) ?_
      refine lv_iconst (v := nI 0) hx hb dL_law_548 (by decide) ?_
      refine lv_iload hx hb dL_law_549 (lv_at hl 0 rfl) ?_
      refine lv_bipush (v := nI 8) hx hb dL_law_551 (by decide) ?_
      refine lv_irem hx hb dL_law_553 (by decide) ?_
      refine lv_asI (y := nI (p9 % 8)) (pk_rem (by omega) (by omega) (by omega)) ?_
      refine lv_iload hx hb dL_law_554 (lv_at hl 0 rfl) ?_
      refine lv_bipush (v := nI 8) hx hb dL_law_556 (by decide) ?_
      refine lv_idiv hx hb dL_law_558 (by decide) ?_
      refine lv_asI (y := nI (p9 / 8)) (pk_div (by omega) (by omega) (by omega)) ?_
      refine lv_iload hx hb dL_law_559 (lv_at hl 5 rfl) ?_
      refine lv_iconst (v := nI 1) hx hb dL_law_561 (by decide) ?_
      refine lv_icmp_ne (tgt := 569) hx hb dL_law_562 (by decide) (fun c562 => ?_) (fun c562 => ?_)
      · have hk0 : cc = 2 := by rcases hcc2 with ⟨h, -⟩ | ⟨-, h⟩; exact absurd (congrArg nI h) c562; exact h
        refine lv_iconst (v := nI 2) hx hb dL_law_569 (by decide) ?_
        refine lv_asI (y := nI cc) (congrArg nI hk0.symm) ?_
        refine iw_d (va_runV (As := [.int (nI 0), .int (nI (p9 % 8)), .int (nI (p9 / 8)), .int (nI cc)]) (rest := [.int (FP.f2i (bdF ((coF (sFr S 0).1 (sMp S) (sFr S 0).2.1) (3 * p9 + 1)))), .int (ofS (coF (sFr S 0).1 (sMp S) (sFr S 0).2.1) cc p9), .int (nI k), .ref (ad 164)]) ⟨hx, hb, hml, hown, hts⟩ (kX6_picture l G (165) ad _ 1 S (Cam_N q1_cam (by omega)) 0 (by rw [hfn]; decide) (p9 % 8) (p9 / 8) (by omega) (by omega) cc (by omega) _) (cwV 4 hts gL_law_X6_picture rfl rfl rfl (by decide +kernel) ⟨Nat.le_of_ble_eq_true rfl, Nat.le_of_ble_eq_true rfl⟩) (iPV hK hP hD (by omega) (q1_cam.2.2.1) rfl [.int (nI 0), .int (nI (p9 % 8)), .int (nI (p9 / 8)), .int (nI cc)]) rfl rfl hl.1 rfl (lv_room (Nat.le_of_ble_eq_true rfl)) dL_law_570 ⟨hcc, hcs⟩) hD hS hA (fun r8 u8 H locs hw8 hP hD hS => ?_)
        obtain ⟨hr8, hc8, hs8⟩ := hw8
        refine lv_asD hr8 ?_
        obtain ⟨V2, rfl⟩ : ∃ V, V = u8 := ⟨_, rfl⟩
        have k2_164 : V2 164 = ia G 3 (upd gg k (ofS (coF (sFr S 0).1 (sMp S) (sFr S 0).2.1) cc p9)) := (hs8 _ (by omega)).trans (k1_164)
        have q2_cam := hc8
        have hsB := hs8
        refine lv_d2i hx hb dL_law_573 ?_
        refine lv_asI (y := FP.f2i (bdF ((coF (sFr S 0).1 (sMp S) (sFr S 0).2.1) (3 * p9 + cc)))) (by rw [show 3 * (8 * (p9 / 8) + p9 % 8) + cc = 3 * p9 + cc by omega]; exact hpic _ (by omega)) ?_
        refine lv_isub hx hb dL_law_574 ?_
        refine lv_iadd hx hb dL_law_575 ?_
        refine lv_asI (y := ofS (coF (sFr S 0).1 (sMp S) (sFr S 0).2.1) cc (p9 + 1)) rfl ?_
        refine iw_iast hx hb hK hP hD hS (by omega) (k2_164) (vp_in_nI (show k < 3 by omega) (by omega)) (nI_clamp (by omega)) dL_law_576 (fun H locs hP hD hS => ?_)
        refine lv_iinc (v := nI (p9 + 1)) (lv' := [(15, .int (nI (p9 + 1))), (14, .int (nI k)), (13, .ref (ad 164)), (12, .ref (ad 163)), (11, .int (nI w0)), (10, .int (nI kd)), (3, .ref (ad 1)), (2, .ref (ad 0)), (1, .int (nI tm)), (0, .ref b)]) hx hb dL_law_577 hl (k := 0) rfl (iinc_nat _ 1) (by decide) rfl (fun ls hl => ?_)
        refine lv_goto (tgt := 517) hx hb dL_law_580 (by decide) ?_
        rw [upd_two] at hP hD
        exact ih (p9 + 1) (va_up V2 164 (ia G 3 (upd gg k (ofS (coF (sFr S 0).1 (sMp S) (sFr S 0).2.1) cc (p9 + 1))))) H locs ls (by omega) (by omega) (Cam_N (Cam_up q2_cam (by omega)) (by omega)) (va_us _ _ _) (fun j h8 h9 => (va_un _ _ h9).trans ((hsB j (by omega)).trans ((hsA j (by omega)).trans (hag j h8 h9)))) hP hD hS (lv_sub hl [0, 1, 2, 3, 4, 5, 6, 7, 8, 9] rfl)
      · have hk1 : kd = 1 := (nI_eq (by omega) (by omega)).mp c562
        have hk0 : cc = 0 := by omega
        refine lv_iconst (v := nI 0) hx hb dL_law_565 (by decide) ?_
        refine lv_goto (tgt := 570) hx hb dL_law_566 (by decide) ?_
        refine lv_asI (y := nI cc) (congrArg nI hk0.symm) ?_
        refine iw_d (va_runV (As := [.int (nI 0), .int (nI (p9 % 8)), .int (nI (p9 / 8)), .int (nI cc)]) (rest := [.int (FP.f2i (bdF ((coF (sFr S 0).1 (sMp S) (sFr S 0).2.1) (3 * p9 + 1)))), .int (ofS (coF (sFr S 0).1 (sMp S) (sFr S 0).2.1) cc p9), .int (nI k), .ref (ad 164)]) ⟨hx, hb, hml, hown, hts⟩ (kX6_picture l G (165) ad _ 1 S (Cam_N q1_cam (by omega)) 0 (by rw [hfn]; decide) (p9 % 8) (p9 / 8) (by omega) (by omega) cc (by omega) _) (cwV 4 hts gL_law_X6_picture rfl rfl rfl (by decide +kernel) ⟨Nat.le_of_ble_eq_true rfl, Nat.le_of_ble_eq_true rfl⟩) (iPV hK hP hD (by omega) (q1_cam.2.2.1) rfl [.int (nI 0), .int (nI (p9 % 8)), .int (nI (p9 / 8)), .int (nI cc)]) rfl rfl hl.1 rfl (lv_room (Nat.le_of_ble_eq_true rfl)) dL_law_570 ⟨hcc, hcs⟩) hD hS hA (fun r8 u8 H locs hw8 hP hD hS => ?_)
        obtain ⟨hr8, hc8, hs8⟩ := hw8
        refine lv_asD hr8 ?_
        obtain ⟨V2, rfl⟩ : ∃ V, V = u8 := ⟨_, rfl⟩
        have k2_164 : V2 164 = ia G 3 (upd gg k (ofS (coF (sFr S 0).1 (sMp S) (sFr S 0).2.1) cc p9)) := (hs8 _ (by omega)).trans (k1_164)
        have q2_cam := hc8
        have hsB := hs8
        refine lv_d2i hx hb dL_law_573 ?_
        refine lv_asI (y := FP.f2i (bdF ((coF (sFr S 0).1 (sMp S) (sFr S 0).2.1) (3 * p9 + cc)))) (by rw [show 3 * (8 * (p9 / 8) + p9 % 8) + cc = 3 * p9 + cc by omega]; exact hpic _ (by omega)) ?_
        refine lv_isub hx hb dL_law_574 ?_
        refine lv_iadd hx hb dL_law_575 ?_
        refine lv_asI (y := ofS (coF (sFr S 0).1 (sMp S) (sFr S 0).2.1) cc (p9 + 1)) rfl ?_
        refine iw_iast hx hb hK hP hD hS (by omega) (k2_164) (vp_in_nI (show k < 3 by omega) (by omega)) (nI_clamp (by omega)) dL_law_576 (fun H locs hP hD hS => ?_)
        refine lv_iinc (v := nI (p9 + 1)) (lv' := [(15, .int (nI (p9 + 1))), (14, .int (nI k)), (13, .ref (ad 164)), (12, .ref (ad 163)), (11, .int (nI w0)), (10, .int (nI kd)), (3, .ref (ad 1)), (2, .ref (ad 0)), (1, .int (nI tm)), (0, .ref b)]) hx hb dL_law_577 hl (k := 0) rfl (iinc_nat _ 1) (by decide) rfl (fun ls hl => ?_)
        refine lv_goto (tgt := 517) hx hb dL_law_580 (by decide) ?_
        rw [upd_two] at hP hD
        exact ih (p9 + 1) (va_up V2 164 (ia G 3 (upd gg k (ofS (coF (sFr S 0).1 (sMp S) (sFr S 0).2.1) cc (p9 + 1))))) H locs ls (by omega) (by omega) (Cam_N (Cam_up q2_cam (by omega)) (by omega)) (va_us _ _ _) (fun j h8 h9 => (va_un _ _ h9).trans ((hsB j (by omega)).trans ((hsA j (by omega)).trans (hag j h8 h9)))) hP hD hS (lv_sub hl [0, 1, 2, 3, 4, 5, 6, 7, 8, 9] rfl)
set_option maxRecDepth 20000 in
theorem il_L_law_89 : (Cond.methodLink RL 89 Lib.Math.abs.name) ∈ wsL_law := by decide +kernel
set_option maxRecDepth 20000 in
theorem il_L_law_st_abs : (Cond.static Lib.Math.abs.name) ∈ wsL_law := by decide +kernel
set_option maxRecDepth 20000 in
theorem il_L_law_code_abs : (Cond.code Lib.Math.abs.name Lib.Math.abs.code 1 (some .int)) ∈ wsL_law := by decide +kernel
set_option maxHeartbeats 4000000 in
set_option maxRecDepth 100000 in
theorem law_r7 {p : Program} {l : Launch} {e : Env} {s : State} {m : MethodId} {below : List Frame} {meth : Method} {c : Code} {Q : State → Prop} {b L : Nat} {xs : Nat → Int32} {cells slots : Nat} (hx : p.tables.exec = Jvm.exec) (hb : c.code = cL_law) (hml : c.maxLocals = 16) (hr : meth.sig.returnType = (some .boolean)) (hts : ∀ w ∈ wsL_law, w.before #[Value.ref b] s = true) (hown : s.vm.findClass RL = some m.cls) {G : iG} (hK : KB G s) (hV : VX s) (hX : XS b L xs 0 (fun _ => 0) s s.heap) (hbA : ¬ aA s b) (hcc : cells + 4000 ≤ room_1.cells) (hcs : slots + 40000 ≤ room_1.slots) {ad : Nat → Nat} {C : Nat → va_E} {H : Heap} {locs : List Loc} {ls : Array Slot} {tm d kd w0 l2 a8 a9 a10 a11 q9 : Nat} {dw : Int32} {sh rw ek en nk : Nat → Nat} {fac : Nat → UInt32} {z : Int32 × Int32 × Int32} {fi : Nat → Fi} {fn : Nat → Int32} (hkd : kd = 1 ∨ kd = 2) (hF3 : F3 (coN rw ek en 2) (if kd = 1 then 0 else 2) nk) (hfn : ∀ k, k < 3 → fn k = nI (nk k)) (hfi : fi 0 = ((ek, en, 2), 0, q9)) {k : Nat} {gg : Nat → Int32} (hk : k < 3) (hg0 : gg k = nI 0) {ek2 en2 : Nat → Nat} (hE : eqEr (ek2, en2, 2) (ek, en, 2)) (hcam : Cam G 165 ad C 1 (SC sh fac l2 rw ek2 en2 2 z fi)) (h0 : C 0 = ob 7 [.ref (ad 1), .ref b, .int (nI d), .ref (ad 75), .ref (ad 140), .ref (ad 141), .ref (ad 142), .int dw, .ref a8, .ref a9, .ref a10, .ref a11]) (h163 : C 163 = ia G 3 fn) (h164 : C 164 = ia G 3 gg) (hP : va_P G.1 vwB (wl 165 ad C) H) (hD : va_D (aA s) (wl 165 ad C)) (hS : va_S (aA s) s.heap H locs) (hl : lv_has ls 16 [(14, .int (nI k)), (13, .ref (ad 164)), (12, .ref (ad 163)), (11, .int (nI w0)), (10, .int (nI kd)), (3, .ref (ad 1)), (2, .ref (ad 0)), (1, .int (nI tm)), (0, .ref b)]) (kx : ∀ (C : Nat → va_E) (H : Heap) (locs : List Loc) (ls : Array Slot) (ek3 en3 : Nat → Nat), eqEr (ek3, en3, 2) (ek, en, 2) → Cam G 165 ad C 1 (SC sh fac l2 rw ek3 en3 2 z fi) → C 0 = ob 7 [.ref (ad 1), .ref b, .int (nI d), .ref (ad 75), .ref (ad 140), .ref (ad 141), .ref (ad 142), .int dw, .ref a8, .ref a9, .ref a10, .ref a11] → C 163 = ia G 3 fn → C 164 = ia G 3 (upd gg k (bwO (coN rw ek en 2) (if kd = 1 then 0 else 2) (nk k))) → va_P G.1 vwB (wl 165 ad C) H → va_D (aA s) (wl 165 ad C) → va_S (aA s) s.heap H locs → lv_has ls 16 [(14, .int (nI k)), (13, .ref (ad 164)), (12, .ref (ad 163)), (11, .int (nI w0)), (10, .int (nI kd)), (3, .ref (ad 1)), (2, .ref (ad 0)), (1, .int (nI tm)), (0, .ref b)] → W p l e room_1 s m #[Value.ref b] below meth c H locs cells slots Q (F0 m 618 ls [])) : W p l e room_1 s m #[Value.ref b] below meth c H locs cells slots Q (F0 m 496 ls []) := by
  have hA : ∀ q : Nat, s.heap.size ≤ q → aA s q := fun _ h => h
  have hcc9 : cells ≤ room_1.cells := by omega
  have hcs9 : slots ≤ room_1.slots := by omega
  obtain ⟨hnk0, hnk1⟩ := hF3.1 k hk
  have ok2 : okEr (ek2, en2, 2) := by have h := (hcam.2.1.2.2.2.2.2.2.2.1 0 (by decide)).2; dsimp only [sFr, mkS] at h; rw [va_us] at h; exact h
  refine lv_aload_n hx hb dL_law_496 rfl (lv_at hl 5 rfl) ?_
  refine lv_iconst (v := nI 0) hx hb dL_law_497 (by decide) ?_
  refine lv_iload hx hb dL_law_498 (lv_at hl 4 rfl) ?_
  refine lv_aload hx hb dL_law_500 (lv_at hl 2 rfl) ?_
  refine lv_iload hx hb dL_law_502 (lv_at hl 0 rfl) ?_
  refine iw_iald (v := fn k) hx hb hK hP (by omega) (h163) (vp_in_nI (show k < 3 by omega) (by omega)) (congrArg fn (nI_clamp (by omega))) dL_law_504 ?_
  refine lv_asI (y := nI (nk k)) (hfn k hk) ?_
  refine iw_i (va_runV (As := [.int (nI 0), .int (nI kd), .int (nI (nk k))]) (rest := []) ⟨hx, hb, hml, hown, hts⟩ (kX6_edit l G (165) ad _ 1 (SC sh fac l2 rw ek2 en2 2 z fi) (Cam_N hcam (by omega)) 0 (by show 0 < 1; decide) kd (nk k) ⟨by omega, by omega, fun h => by omega, fun h => by omega⟩ (fun h => by omega) (by show 2 < 6; decide) _) (cwV 3 hts gL_law_X6_edit rfl rfl rfl (by decide +kernel) ⟨Nat.le_of_ble_eq_true rfl, Nat.le_of_ble_eq_true rfl⟩) (iPV hK hP hD (by omega) (hcam.2.2.1) rfl [.int (nI 0), .int (nI kd), .int (nI (nk k))]) rfl rfl hl.1 rfl (lv_room (Nat.le_of_ble_eq_true rfl)) dL_law_505 ⟨by omega, by omega⟩) hD hS hA (fun r8 u8 H locs hw8 hP hD hS => ?_)
  obtain ⟨hr8, hc8, hs8⟩ := hw8
  refine lv_asI hr8 ?_
  obtain ⟨V1, rfl⟩ : ∃ V, V = u8 := ⟨_, rfl⟩
  have k1_0 : V1 0 = ob 7 [.ref (ad 1), .ref b, .int (nI d), .ref (ad 75), .ref (ad 140), .ref (ad 141), .ref (ad 142), .int dw, .ref a8, .ref a9, .ref a10, .ref a11] := (hs8 _ (by omega)).trans (h0)
  have k1_163 : V1 163 = ia G 3 fn := (hs8 _ (by omega)).trans (h163)
  have k1_164 : V1 164 = ia G 3 gg := (hs8 _ (by omega)).trans (h164)
  have q1_cam := hc8
  refine lv_asI (y := nI 3) rfl ?_
  have hcamE : Cam G 165 ad V1 1 (SC sh fac l2 rw (va_up ek2 2 kd) (va_up en2 2 (nk k)) 3 z fi) := by show Cam G _ _ _ _ (mkS sh fac l2 (fun _ => 0) (fun _ => false) (drN 0 64) 1 1 (va_up FR00 0 (rw, ((va_up ek2 2 kd), (va_up en2 2 (nk k)), 3), z)) fi); rw [← va_uu FR00 0 (rw, (ek2, en2, 2), z) (rw, ((va_up ek2 2 kd), (va_up en2 2 (nk k)), 3), z)]; exact q1_cam
  refine lv_iconst (v := nI 3) hx hb dL_law_508 (by decide) ?_
  refine lv_icmp_eq (tgt := 514) hx hb dL_law_509 (by decide) (fun _ => ?_) (fun c9 => absurd (by decide) c9)
  refine lv_iconst (v := nI 0) hx hb dL_law_514 (by decide) ?_
  refine lv_istore (lv' := [(15, .int (nI 0)), (14, .int (nI k)), (13, .ref (ad 164)), (12, .ref (ad 163)), (11, .int (nI w0)), (10, .int (nI kd)), (3, .ref (ad 1)), (2, .ref (ad 0)), (1, .int (nI tm)), (0, .ref b)]) hx hb dL_law_515 hl (by decide) rfl (fun ls hl => ?_)
  have ok3 := (hcamE.2.1.2.2.2.2.2.2.2.1 0 (by decide)).2
  have hcc2 : (kd = 1 ∧ (if kd = 1 then 0 else 2) = 0) ∨ (kd = 2 ∧ (if kd = 1 then 0 else 2) = 2) := by rcases hkd with h | h; exact Or.inl ⟨h, if_pos h⟩; exact Or.inr ⟨h, if_neg (by omega)⟩
  refine law_r7p hx hb hml hr hts hown hK hV hX hbA hcc9 hcs9 (tm := tm) (k := k) (kd := kd) (w0 := w0) (cc := (if kd = 1 then 0 else 2)) (S := (SC sh fac l2 rw (va_up ek2 2 kd) (va_up en2 2 (nk k)) 3 z fi)) (gg := gg) (C0 := V1) hk hcc2 rfl ok3 (fun CL H locs ls hcam9 h164b hag hP hD hS hl => ?_) 65 0 V1 H locs ls (by omega) (by omega) (Cam_N hcamE (by omega)) ((k1_164).trans (congrArg (fun f => ia G 3 f) (upd_id gg k hg0).symm)) (fun j h8 h9 => rfl) hP hD hS (lv_sub hl [0, 1, 2, 3, 4, 5, 6, 7, 8, 9] rfl)
  refine lv_aload hx hb dL_law_583 (lv_at hl 1 rfl) ?_
  refine lv_iload hx hb dL_law_585 (lv_at hl 0 rfl) ?_
  refine lv_aload hx hb dL_law_587 (lv_at hl 1 rfl) ?_
  refine lv_iload hx hb dL_law_589 (lv_at hl 0 rfl) ?_
  refine iw_iald (v := (upd gg k (ofS (coF (sFr (SC sh fac l2 rw (va_up ek2 2 kd) (va_up en2 2 (nk k)) 3 z fi) 0).1 (sMp (SC sh fac l2 rw (va_up ek2 2 kd) (va_up en2 2 (nk k)) 3 z fi)) (sFr (SC sh fac l2 rw (va_up ek2 2 kd) (va_up en2 2 (nk k)) 3 z fi) 0).2.1) (if kd = 1 then 0 else 2) 64)) k) hx hb hK hP (by omega) (h164b) (vp_in_nI (show k < 3 by omega) (by omega)) (congrArg (upd gg k (ofS (coF (sFr (SC sh fac l2 rw (va_up ek2 2 kd) (va_up en2 2 (nk k)) 3 z fi) 0).1 (sMp (SC sh fac l2 rw (va_up ek2 2 kd) (va_up en2 2 (nk k)) 3 z fi)) (sFr (SC sh fac l2 rw (va_up ek2 2 kd) (va_up en2 2 (nk k)) 3 z fi) 0).2.1) (if kd = 1 then 0 else 2) 64)) (nI_clamp (by omega))) dL_law_591 ?_
  refine lv_asI (y := ofS (coF (sFr (SC sh fac l2 rw (va_up ek2 2 kd) (va_up en2 2 (nk k)) 3 z fi) 0).1 (sMp (SC sh fac l2 rw (va_up ek2 2 kd) (va_up en2 2 (nk k)) 3 z fi)) (sFr (SC sh fac l2 rw (va_up ek2 2 kd) (va_up en2 2 (nk k)) 3 z fi) 0).2.1) (if kd = 1 then 0 else 2) 64) pk_us ?_
  refine va_mabs hx hb (hml.trans hl.1.symm) hown (hts _ il_L_law_89) (hts _ il_L_law_st_abs) (hts _ il_L_law_ini_Math) (hts _ il_L_law_code_abs) (Nat.le_of_ble_eq_true rfl) (Nat.le_of_ble_eq_true rfl) (by omega) (by omega) dL_law_592 ?_
  have eN : (coF (sFr (SC sh fac l2 rw (va_up ek2 2 kd) (va_up en2 2 (nk k)) 3 z fi) 0).1 (sMp (SC sh fac l2 rw (va_up ek2 2 kd) (va_up en2 2 (nk k)) 3 z fi)) (sFr (SC sh fac l2 rw (va_up ek2 2 kd) (va_up en2 2 (nk k)) 3 z fi) 0).2.1) = coF rw (fun _ => false) ((va_up ek2 2 kd), (va_up en2 2 (nk k)), 3) := by dsimp only [sFr, sMp, mkS]; rw [va_us]
  have hb9 : absI (ofS (coF (sFr (SC sh fac l2 rw (va_up ek2 2 kd) (va_up en2 2 (nk k)) 3 z fi) 0).1 (sMp (SC sh fac l2 rw (va_up ek2 2 kd) (va_up en2 2 (nk k)) 3 z fi)) (sFr (SC sh fac l2 rw (va_up ek2 2 kd) (va_up en2 2 (nk k)) 3 z fi) 0).2.1) (if kd = 1 then 0 else 2) 64) = bwO (coN rw ek en 2) (if kd = 1 then 0 else 2) (nk k) := by rw [eN]; exact (ofS_bw rw (fun _ => false) (E := (ek2, en2, 2)) ok2 kd (nk k) hkd).trans (by rw [coF_congr rw (fun _ => false) hE])
  refine lv_asI (y := bwO (coN rw ek en 2) (if kd = 1 then 0 else 2) (nk k)) (by show absI (ofS (coF (sFr (SC sh fac l2 rw (va_up ek2 2 kd) (va_up en2 2 (nk k)) 3 z fi) 0).1 (sMp (SC sh fac l2 rw (va_up ek2 2 kd) (va_up en2 2 (nk k)) 3 z fi)) (sFr (SC sh fac l2 rw (va_up ek2 2 kd) (va_up en2 2 (nk k)) 3 z fi) 0).2.1) (if kd = 1 then 0 else 2) 64) = _; exact hb9) ?_
  refine iw_iast hx hb hK hP hD hS (by omega) (h164b) (vp_in_nI (show k < 3 by omega) (by omega)) (nI_clamp (by omega)) dL_law_595 (fun H locs hP hD hS => ?_)
  refine lv_aload_n hx hb dL_law_596 rfl (lv_at hl 5 rfl) ?_
  refine lv_iconst (v := nI 0) hx hb dL_law_597 (by decide) ?_
  refine lv_iconst (v := nI 2) hx hb dL_law_598 (by decide) ?_
  rw [upd_two] at hP hD
  refine iw_i (va_runV (As := [.int (nI 0), .int (nI 2)]) (rest := []) ⟨hx, hb, hml, hown, hts⟩ (kX6_ofFile l G (165) ad _ 1 (SC sh fac l2 rw (va_up ek2 2 kd) (va_up en2 2 (nk k)) 3 z fi) (Cam_N (Cam_up hcam9 (by omega)) (by omega)) 0 (by show 0 < 1; decide) 2 (Or.inl rfl) _) (cwV 2 hts gL_law_X6_ofFile rfl rfl rfl (by decide +kernel) ⟨Nat.le_of_ble_eq_true rfl, Nat.le_of_ble_eq_true rfl⟩) (iPV hK hP hD (by omega) ((va_un _ _ (by omega)).trans (hcam9.2.2.1)) rfl [.int (nI 0), .int (nI 2)]) rfl rfl hl.1 rfl (lv_room (Nat.le_of_ble_eq_true rfl)) dL_law_599 ⟨by omega, by omega⟩) hD hS hA (fun r8 u8 H locs hw8 hP hD hS => ?_)
  obtain ⟨hr8, hc8, hs8⟩ := hw8
  refine lv_asI hr8 ?_
  obtain ⟨V2, rfl⟩ : ∃ V, V = u8 := ⟨_, rfl⟩
  have k2_0 : V2 0 = ob 7 [.ref (ad 1), .ref b, .int (nI d), .ref (ad 75), .ref (ad 140), .ref (ad 141), .ref (ad 142), .int dw, .ref a8, .ref a9, .ref a10, .ref a11] := (hs8 _ (by omega)).trans ((va_un _ _ (by omega)).trans ((hag 0 (by omega) (by omega)).trans (k1_0)))
  have k2_163 : V2 163 = ia G 3 fn := (hs8 _ (by omega)).trans ((va_un _ _ (by omega)).trans ((hag 163 (by omega) (by omega)).trans (k1_163)))
  have k2_164 : V2 164 = ia G 3 (upd gg k (bwO (coN rw ek en 2) (if kd = 1 then 0 else 2) (nk k))) := (hs8 _ (by omega)).trans (va_us _ _ _)
  have q2_cam := hc8
  refine lv_asI (y := nI 2) (by unfold fiI; rw [if_neg (by decide), if_neg (by decide), if_pos rfl]; show nI (fi 0).1.2.2 = nI 2; rw [hfi]) ?_
  refine lv_iconst (v := nI 2) hx hb dL_law_602 (by decide) ?_
  refine lv_icmp_ne (tgt := 616) hx hb dL_law_603 (by decide) (fun c9 => absurd (by decide) c9) (fun _ => ?_)
  refine lv_aload_n hx hb dL_law_606 rfl (lv_at hl 5 rfl) ?_
  refine lv_iconst (v := nI 0) hx hb dL_law_607 (by decide) ?_
  refine iw_i (va_runV (As := [.int (nI 0)]) (rest := []) ⟨hx, hb, hml, hown, hts⟩ (kX6_undo l G (165) ad _ 1 (SC sh fac l2 rw (va_up ek2 2 kd) (va_up en2 2 (nk k)) 3 z fi) (Cam_N q2_cam (by omega)) 0 (by show 0 < 1; decide) _) (cwV 1 hts gL_law_X6_undo rfl rfl rfl (by decide +kernel) ⟨Nat.le_of_ble_eq_true rfl, Nat.le_of_ble_eq_true rfl⟩) (iPV hK hP hD (by omega) (q2_cam.2.2.1) rfl [.int (nI 0)]) rfl rfl hl.1 rfl (lv_room (Nat.le_of_ble_eq_true rfl)) dL_law_608 ⟨by omega, by omega⟩) hD hS hA (fun r8 u8 H locs hw8 hP hD hS => ?_)
  obtain ⟨hr8, hc8, hs8⟩ := hw8
  refine lv_asI hr8 ?_
  obtain ⟨V3, rfl⟩ : ∃ V, V = u8 := ⟨_, rfl⟩
  have k3_0 : V3 0 = ob 7 [.ref (ad 1), .ref b, .int (nI d), .ref (ad 75), .ref (ad 140), .ref (ad 141), .ref (ad 142), .int dw, .ref a8, .ref a9, .ref a10, .ref a11] := (hs8 _ (by omega)).trans (k2_0)
  have k3_163 : V3 163 = ia G 3 fn := (hs8 _ (by omega)).trans (k2_163)
  have k3_164 : V3 164 = ia G 3 (upd gg k (bwO (coN rw ek en 2) (if kd = 1 then 0 else 2) (nk k))) := (hs8 _ (by omega)).trans (k2_164)
  have q3_cam := hc8
  refine lv_asI (y := nI kd) rfl ?_
  have hcamU : Cam G 165 ad V3 1 (SC sh fac l2 rw (va_up ek2 2 kd) (va_up en2 2 (nk k)) 2 z fi) := by show Cam G _ _ _ _ (mkS sh fac l2 (fun _ => 0) (fun _ => false) (drN 0 64) 1 1 (va_up FR00 0 (rw, ((va_up ek2 2 kd), (va_up en2 2 (nk k)), 2), z)) fi); rw [← va_uu FR00 0 (rw, ((va_up ek2 2 kd), (va_up en2 2 (nk k)), 3), z) (rw, ((va_up ek2 2 kd), (va_up en2 2 (nk k)), 2), z)]; exact q3_cam
  refine lv_iload hx hb dL_law_611 (lv_at hl 4 rfl) ?_
  refine lv_icmp_eq (tgt := 618) hx hb dL_law_613 (by decide) (fun _ => ?_) (fun c9 => absurd (rfl) c9)
  have hE4 : eqEr ((va_up ek2 2 kd), (va_up en2 2 (nk k)), 2) (ek, en, 2) := ⟨rfl, fun i hi => by have h9 : i < 2 := hi; exact ⟨(va_un _ _ (by omega)).trans (hE.2 i hi).1, (va_un _ _ (by omega)).trans (hE.2 i hi).2⟩⟩
  have z_0 : (V3) 0 = ob 7 [.ref (ad 1), .ref b, .int (nI d), .ref (ad 75), .ref (ad 140), .ref (ad 141), .ref (ad 142), .int dw, .ref a8, .ref a9, .ref a10, .ref a11] := k3_0
  have z_163 : (V3) 163 = ia G 3 fn := k3_163
  have z_164 : (V3) 164 = ia G 3 (upd gg k (bwO (coN rw ek en 2) (if kd = 1 then 0 else 2) (nk k))) := k3_164
  exact kx (V3) H locs ls (va_up ek2 2 kd) (va_up en2 2 (nk k)) hE4 (Cam_N hcamU (by omega)) z_0 z_163 z_164 hP hD hS (lv_sub hl [0, 1, 2, 3, 4, 5, 6, 7, 8] rfl)
set_option maxHeartbeats 4000000 in
set_option maxRecDepth 100000 in
theorem law_r7l {p : Program} {l : Launch} {e : Env} {s : State} {m : MethodId} {below : List Frame} {meth : Method} {c : Code} {Q : State → Prop} {b L : Nat} {xs : Nat → Int32} {cells slots : Nat} (hx : p.tables.exec = Jvm.exec) (hb : c.code = cL_law) (hml : c.maxLocals = 16) (hr : meth.sig.returnType = (some .boolean)) (hts : ∀ w ∈ wsL_law, w.before #[Value.ref b] s = true) (hown : s.vm.findClass RL = some m.cls) {G : iG} (hK : KB G s) (hV : VX s) (hX : XS b L xs 0 (fun _ => 0) s s.heap) (hbA : ¬ aA s b) (hcc : cells + 4000 ≤ room_1.cells) (hcs : slots + 40000 ≤ room_1.slots) {ad : Nat → Nat} {C : Nat → va_E} {H : Heap} {locs : List Loc} {ls : Array Slot} {tm d kd w0 l2 a8 a9 a10 a11 q9 : Nat} {dw : Int32} {sh rw ek en nk : Nat → Nat} {fac : Nat → UInt32} {z : Int32 × Int32 × Int32} {fi : Nat → Fi} {fn : Nat → Int32} (hkd : kd = 1 ∨ kd = 2) (hF3 : F3 (coN rw ek en 2) (if kd = 1 then 0 else 2) nk) (hfn : ∀ k, k < 3 → fn k = nI (nk k)) (hfi : fi 0 = ((ek, en, 2), 0, q9)) (hcam : Cam G 165 ad C 1 (SC sh fac l2 rw ek en 2 z fi)) (h0 : C 0 = ob 7 [.ref (ad 1), .ref b, .int (nI d), .ref (ad 75), .ref (ad 140), .ref (ad 141), .ref (ad 142), .int dw, .ref a8, .ref a9, .ref a10, .ref a11]) (h163 : C 163 = ia G 3 fn) (h164 : C 164 = ia G 3 (fun _ => nI 0)) (hP : va_P G.1 vwB (wl 165 ad C) H) (hD : va_D (aA s) (wl 165 ad C)) (hS : va_S (aA s) s.heap H locs) (hl : lv_has ls 16 [(13, .ref (ad 164)), (12, .ref (ad 163)), (11, .int (nI w0)), (10, .int (nI kd)), (3, .ref (ad 1)), (2, .ref (ad 0)), (1, .int (nI tm)), (0, .ref b)]) (kx : ∀ (C : Nat → va_E) (H : Heap) (locs : List Loc) (ls : Array Slot) (ek2 en2 : Nat → Nat), eqEr (ek2, en2, 2) (ek, en, 2) → Cam G 165 ad C 1 (SC sh fac l2 rw ek2 en2 2 z fi) → C 0 = ob 7 [.ref (ad 1), .ref b, .int (nI d), .ref (ad 75), .ref (ad 140), .ref (ad 141), .ref (ad 142), .int dw, .ref a8, .ref a9, .ref a10, .ref a11] → C 163 = ia G 3 fn → C 164 = ia G 3 ((upd (upd (upd (fun _ => nI 0) 0 (bwO (coN rw ek en 2) (if kd = 1 then 0 else 2) (nk 0))) 1 (bwO (coN rw ek en 2) (if kd = 1 then 0 else 2) (nk 1))) 2 (bwO (coN rw ek en 2) (if kd = 1 then 0 else 2) (nk 2)))) → va_P G.1 vwB (wl 165 ad C) H → va_D (aA s) (wl 165 ad C) → va_S (aA s) s.heap H locs → lv_has ls 16 [(13, .ref (ad 164)), (12, .ref (ad 163)), (11, .int (nI w0)), (10, .int (nI kd)), (3, .ref (ad 1)), (2, .ref (ad 0)), (1, .int (nI tm)), (0, .ref b)] → W p l e room_1 s m #[Value.ref b] below meth c H locs cells slots Q (F0 m 624 ls [])) : W p l e room_1 s m #[Value.ref b] below meth c H locs cells slots Q (F0 m 487 ls []) := by
  have hA : ∀ q : Nat, s.heap.size ≤ q → aA s q := fun _ h => h
  refine lv_iconst (v := nI 0) hx hb dL_law_487 (by decide) ?_
  refine lv_istore (lv' := [(14, .int (nI 0)), (13, .ref (ad 164)), (12, .ref (ad 163)), (11, .int (nI w0)), (10, .int (nI kd)), (3, .ref (ad 1)), (2, .ref (ad 0)), (1, .int (nI tm)), (0, .ref b)]) hx hb dL_law_488 hl (by decide) rfl (fun ls hl => ?_)
  refine lv_iload hx hb dL_law_490 (lv_at hl 0 rfl) ?_
  refine lv_iconst (v := nI 3) hx hb dL_law_492 (by decide) ?_
  refine lv_icmp_ge (tgt := 624) hx hb dL_law_493 (by decide) (fun c9 => absurd c9 (by decide)) (fun _ => ?_)
  refine law_r7 hx hb hml hr hts hown hK hV hX hbA (by omega) (by omega) hkd hF3 hfn hfi (k := 0) (gg := (fun _ => nI 0)) (by decide) (by rfl) ⟨rfl, fun i hi => ⟨rfl, rfl⟩⟩ hcam h0 h163 h164 hP hD hS (lv_sub hl [0, 1, 2, 3, 4, 5, 6, 7, 8] rfl) (fun C_0 H locs ls ek_0 en_0 hE_0 hcam_0 h0_0 h163_0 h164_0 hP hD hS hl => ?_)
  refine lv_iinc (v := nI 1) (lv' := [(14, .int (nI 1)), (13, .ref (ad 164)), (12, .ref (ad 163)), (11, .int (nI w0)), (10, .int (nI kd)), (3, .ref (ad 1)), (2, .ref (ad 0)), (1, .int (nI tm)), (0, .ref b)]) hx hb dL_law_618 hl (k := 0) rfl (iinc_nat _ 1) (by decide) rfl (fun ls hl => ?_)
  refine lv_goto (tgt := 490) hx hb dL_law_621 (by decide) ?_
  refine lv_iload hx hb dL_law_490 (lv_at hl 0 rfl) ?_
  refine lv_iconst (v := nI 3) hx hb dL_law_492 (by decide) ?_
  refine lv_icmp_ge (tgt := 624) hx hb dL_law_493 (by decide) (fun c9 => absurd c9 (by decide)) (fun _ => ?_)
  refine law_r7 hx hb hml hr hts hown hK hV hX hbA (by omega) (by omega) hkd hF3 hfn hfi (k := 1) (gg := (upd (fun _ => nI 0) 0 (bwO (coN rw ek en 2) (if kd = 1 then 0 else 2) (nk 0)))) (by decide) (by rfl) hE_0 hcam_0 h0_0 h163_0 h164_0 hP hD hS (lv_sub hl [0, 1, 2, 3, 4, 5, 6, 7, 8] rfl) (fun C_1 H locs ls ek_1 en_1 hE_1 hcam_1 h0_1 h163_1 h164_1 hP hD hS hl => ?_)
  refine lv_iinc (v := nI 2) (lv' := [(14, .int (nI 2)), (13, .ref (ad 164)), (12, .ref (ad 163)), (11, .int (nI w0)), (10, .int (nI kd)), (3, .ref (ad 1)), (2, .ref (ad 0)), (1, .int (nI tm)), (0, .ref b)]) hx hb dL_law_618 hl (k := 0) rfl (iinc_nat _ 1) (by decide) rfl (fun ls hl => ?_)
  refine lv_goto (tgt := 490) hx hb dL_law_621 (by decide) ?_
  refine lv_iload hx hb dL_law_490 (lv_at hl 0 rfl) ?_
  refine lv_iconst (v := nI 3) hx hb dL_law_492 (by decide) ?_
  refine lv_icmp_ge (tgt := 624) hx hb dL_law_493 (by decide) (fun c9 => absurd c9 (by decide)) (fun _ => ?_)
  refine law_r7 hx hb hml hr hts hown hK hV hX hbA (by omega) (by omega) hkd hF3 hfn hfi (k := 2) (gg := (upd (upd (fun _ => nI 0) 0 (bwO (coN rw ek en 2) (if kd = 1 then 0 else 2) (nk 0))) 1 (bwO (coN rw ek en 2) (if kd = 1 then 0 else 2) (nk 1)))) (by decide) (by rfl) hE_1 hcam_1 h0_1 h163_1 h164_1 hP hD hS (lv_sub hl [0, 1, 2, 3, 4, 5, 6, 7, 8] rfl) (fun C_2 H locs ls ek_2 en_2 hE_2 hcam_2 h0_2 h163_2 h164_2 hP hD hS hl => ?_)
  refine lv_iinc (v := nI 3) (lv' := [(14, .int (nI 3)), (13, .ref (ad 164)), (12, .ref (ad 163)), (11, .int (nI w0)), (10, .int (nI kd)), (3, .ref (ad 1)), (2, .ref (ad 0)), (1, .int (nI tm)), (0, .ref b)]) hx hb dL_law_618 hl (k := 0) rfl (iinc_nat _ 1) (by decide) rfl (fun ls hl => ?_)
  refine lv_goto (tgt := 490) hx hb dL_law_621 (by decide) ?_
  refine lv_iload hx hb dL_law_490 (lv_at hl 0 rfl) ?_
  refine lv_iconst (v := nI 3) hx hb dL_law_492 (by decide) ?_
  refine lv_icmp_ge (tgt := 624) hx hb dL_law_493 (by decide) (fun _ => ?_) (fun c9 => absurd (by decide) c9)
  exact kx C_2 H locs ls ek_2 en_2 hE_2 hcam_2 h0_2 h163_2 h164_2 hP hD hS (lv_sub hl [1, 2, 3, 4, 5, 6, 7, 8] rfl)
set_option maxHeartbeats 4000000 in
set_option maxRecDepth 100000 in
theorem law_r8a {p : Program} {l : Launch} {e : Env} {s : State} {m : MethodId} {below : List Frame} {meth : Method} {c : Code} {Q : State → Prop} {b L : Nat} {xs : Nat → Int32} {cells slots : Nat} (hx : p.tables.exec = Jvm.exec) (hb : c.code = cL_law) (hml : c.maxLocals = 16) (hr : meth.sig.returnType = (some .boolean)) (hts : ∀ w ∈ wsL_law, w.before #[Value.ref b] s = true) (hown : s.vm.findClass RL = some m.cls) {G : iG} (hK : KB G s) (hV : VX s) (hX : XS b L xs 0 (fun _ => 0) s s.heap) (hbA : ¬ aA s b) (hcc : cells + 4000 ≤ room_1.cells) (hcs : slots + 40000 ≤ room_1.slots) {ad : Nat → Nat} {C : Nat → va_E} {H : Heap} {locs : List Loc} {ls : Array Slot} {tm kd w0 : Nat} {rw ek en nk : Nat → Nat} {fn : Nat → Int32} (hF3 : F3 (coN rw ek en 2) (if kd = 1 then 0 else 2) nk) (hw0 : nk 0 = w0) (hfn : ∀ k, k < 3 → fn k = nI (nk k)) (h163 : C 163 = ia G 3 fn) (h164 : C 164 = ia G 3 (upd (upd (upd (fun _ => nI 0) 0 (bwO (coN rw ek en 2) (if kd = 1 then 0 else 2) (nk 0))) 1 (bwO (coN rw ek en 2) (if kd = 1 then 0 else 2) (nk 1))) 2 (bwO (coN rw ek en 2) (if kd = 1 then 0 else 2) (nk 2)))) (hP : va_P G.1 vwB (wl 165 ad C) H) (hD : va_D (aA s) (wl 165 ad C)) (hS : va_S (aA s) s.heap H locs) (hl : lv_has ls 16 [(13, .ref (ad 164)), (12, .ref (ad 163)), (11, .int (nI w0)), (10, .int (nI kd)), (3, .ref (ad 1)), (2, .ref (ad 0)), (1, .int (nI tm)), (0, .ref b)]) (kx : ∀ (H : Heap) (locs : List Loc) (ls : Array Slot), va_P G.1 vwB (wl 165 ad C) H → va_D (aA s) (wl 165 ad C) → va_S (aA s) s.heap H locs → lv_has ls 16 [(3, .ref (ad 1)), (2, .ref (ad 0)), (1, .int (nI tm)), (0, .ref b)] → W p l e room_1 s m #[Value.ref b] below meth c H locs cells slots Q (F0 m 666 ls [])) : W p l e room_1 s m #[Value.ref b] below meth c H locs cells slots Q (F0 m 624 ls []) := by
  have hA : ∀ q : Nat, s.heap.size ≤ q → aA s q := fun _ h => h
  have hn1 := (hF3.1 1 (by decide)).2
  have hn0 := (hF3.1 0 (by decide)).2
  refine lv_aload hx hb dL_law_624 (lv_at hl 0 rfl) ?_
  refine lv_iconst (v := nI 1) hx hb dL_law_626 (by decide) ?_
  refine iw_iald (v := (upd (upd (upd (fun _ => nI 0) 0 (bwO (coN rw ek en 2) (if kd = 1 then 0 else 2) (nk 0))) 1 (bwO (coN rw ek en 2) (if kd = 1 then 0 else 2) (nk 1))) 2 (bwO (coN rw ek en 2) (if kd = 1 then 0 else 2) (nk 2))) 1) hx hb hK hP (by omega) (h164) (vp_in_nI (show 1 < 3 by omega) (by omega)) (congrArg (upd (upd (upd (fun _ => nI 0) 0 (bwO (coN rw ek en 2) (if kd = 1 then 0 else 2) (nk 0))) 1 (bwO (coN rw ek en 2) (if kd = 1 then 0 else 2) (nk 1))) 2 (bwO (coN rw ek en 2) (if kd = 1 then 0 else 2) (nk 2))) (nI_clamp (by omega))) dL_law_627 ?_
  refine lv_asI (y := bwO (coN rw ek en 2) (if kd = 1 then 0 else 2) (nk 1)) (by rfl) ?_
  refine lv_aload hx hb dL_law_628 (lv_at hl 0 rfl) ?_
  refine lv_iconst (v := nI 0) hx hb dL_law_630 (by decide) ?_
  refine iw_iald (v := (upd (upd (upd (fun _ => nI 0) 0 (bwO (coN rw ek en 2) (if kd = 1 then 0 else 2) (nk 0))) 1 (bwO (coN rw ek en 2) (if kd = 1 then 0 else 2) (nk 1))) 2 (bwO (coN rw ek en 2) (if kd = 1 then 0 else 2) (nk 2))) 0) hx hb hK hP (by omega) (h164) (vp_in_nI (show 0 < 3 by omega) (by omega)) (congrArg (upd (upd (upd (fun _ => nI 0) 0 (bwO (coN rw ek en 2) (if kd = 1 then 0 else 2) (nk 0))) 1 (bwO (coN rw ek en 2) (if kd = 1 then 0 else 2) (nk 1))) 2 (bwO (coN rw ek en 2) (if kd = 1 then 0 else 2) (nk 2))) (nI_clamp (by omega))) dL_law_631 ?_
  refine lv_asI (y := bwO (coN rw ek en 2) (if kd = 1 then 0 else 2) (nk 0)) (by rfl) ?_
  refine lv_icmp_lt (tgt := 680) hx hb dL_law_632 (by decide) (fun c9 => absurd c9 ((fun h9 => by have h8 := Int32.lt_iff_toInt_lt.mp h9; have h7 := (hF3.2 1 (by decide)).1; omega))) (fun _ => ?_)
  refine lv_aload hx hb dL_law_635 (lv_at hl 0 rfl) ?_
  refine lv_iconst (v := nI 2) hx hb dL_law_637 (by decide) ?_
  refine iw_iald (v := (upd (upd (upd (fun _ => nI 0) 0 (bwO (coN rw ek en 2) (if kd = 1 then 0 else 2) (nk 0))) 1 (bwO (coN rw ek en 2) (if kd = 1 then 0 else 2) (nk 1))) 2 (bwO (coN rw ek en 2) (if kd = 1 then 0 else 2) (nk 2))) 2) hx hb hK hP (by omega) (h164) (vp_in_nI (show 2 < 3 by omega) (by omega)) (congrArg (upd (upd (upd (fun _ => nI 0) 0 (bwO (coN rw ek en 2) (if kd = 1 then 0 else 2) (nk 0))) 1 (bwO (coN rw ek en 2) (if kd = 1 then 0 else 2) (nk 1))) 2 (bwO (coN rw ek en 2) (if kd = 1 then 0 else 2) (nk 2))) (nI_clamp (by omega))) dL_law_638 ?_
  refine lv_asI (y := bwO (coN rw ek en 2) (if kd = 1 then 0 else 2) (nk 2)) (by rfl) ?_
  refine lv_aload hx hb dL_law_639 (lv_at hl 0 rfl) ?_
  refine lv_iconst (v := nI 0) hx hb dL_law_641 (by decide) ?_
  refine iw_iald (v := (upd (upd (upd (fun _ => nI 0) 0 (bwO (coN rw ek en 2) (if kd = 1 then 0 else 2) (nk 0))) 1 (bwO (coN rw ek en 2) (if kd = 1 then 0 else 2) (nk 1))) 2 (bwO (coN rw ek en 2) (if kd = 1 then 0 else 2) (nk 2))) 0) hx hb hK hP (by omega) (h164) (vp_in_nI (show 0 < 3 by omega) (by omega)) (congrArg (upd (upd (upd (fun _ => nI 0) 0 (bwO (coN rw ek en 2) (if kd = 1 then 0 else 2) (nk 0))) 1 (bwO (coN rw ek en 2) (if kd = 1 then 0 else 2) (nk 1))) 2 (bwO (coN rw ek en 2) (if kd = 1 then 0 else 2) (nk 2))) (nI_clamp (by omega))) dL_law_642 ?_
  refine lv_asI (y := bwO (coN rw ek en 2) (if kd = 1 then 0 else 2) (nk 0)) (by rfl) ?_
  refine lv_icmp_lt (tgt := 680) hx hb dL_law_643 (by decide) (fun c9 => absurd c9 ((fun h9 => by have h8 := Int32.lt_iff_toInt_lt.mp h9; have h7 := (hF3.2 2 (by decide)).1; omega))) (fun _ => ?_)
  refine lv_aload hx hb dL_law_646 (lv_at hl 0 rfl) ?_
  refine lv_iconst (v := nI 1) hx hb dL_law_648 (by decide) ?_
  refine iw_iald (v := (upd (upd (upd (fun _ => nI 0) 0 (bwO (coN rw ek en 2) (if kd = 1 then 0 else 2) (nk 0))) 1 (bwO (coN rw ek en 2) (if kd = 1 then 0 else 2) (nk 1))) 2 (bwO (coN rw ek en 2) (if kd = 1 then 0 else 2) (nk 2))) 1) hx hb hK hP (by omega) (h164) (vp_in_nI (show 1 < 3 by omega) (by omega)) (congrArg (upd (upd (upd (fun _ => nI 0) 0 (bwO (coN rw ek en 2) (if kd = 1 then 0 else 2) (nk 0))) 1 (bwO (coN rw ek en 2) (if kd = 1 then 0 else 2) (nk 1))) 2 (bwO (coN rw ek en 2) (if kd = 1 then 0 else 2) (nk 2))) (nI_clamp (by omega))) dL_law_649 ?_
  refine lv_asI (y := bwO (coN rw ek en 2) (if kd = 1 then 0 else 2) (nk 1)) (by rfl) ?_
  refine lv_aload hx hb dL_law_650 (lv_at hl 0 rfl) ?_
  refine lv_iconst (v := nI 0) hx hb dL_law_652 (by decide) ?_
  refine iw_iald (v := (upd (upd (upd (fun _ => nI 0) 0 (bwO (coN rw ek en 2) (if kd = 1 then 0 else 2) (nk 0))) 1 (bwO (coN rw ek en 2) (if kd = 1 then 0 else 2) (nk 1))) 2 (bwO (coN rw ek en 2) (if kd = 1 then 0 else 2) (nk 2))) 0) hx hb hK hP (by omega) (h164) (vp_in_nI (show 0 < 3 by omega) (by omega)) (congrArg (upd (upd (upd (fun _ => nI 0) 0 (bwO (coN rw ek en 2) (if kd = 1 then 0 else 2) (nk 0))) 1 (bwO (coN rw ek en 2) (if kd = 1 then 0 else 2) (nk 1))) 2 (bwO (coN rw ek en 2) (if kd = 1 then 0 else 2) (nk 2))) (nI_clamp (by omega))) dL_law_653 ?_
  refine lv_asI (y := bwO (coN rw ek en 2) (if kd = 1 then 0 else 2) (nk 0)) (by rfl) ?_
  refine lv_icmp_ne (tgt := 666) hx hb dL_law_654 (by decide) (fun c654 => ?_) (fun c654 => ?_)
  · exact kx H locs ls hP hD hS (lv_sub hl [4, 5, 6, 7] rfl)
  · have hle := (hF3.2 1 (by decide)).2 (congrArg Int32.toInt c654)
    refine lv_aload hx hb dL_law_657 (lv_at hl 1 rfl) ?_
    refine lv_iconst (v := nI 1) hx hb dL_law_659 (by decide) ?_
    refine iw_iald (v := fn 1) hx hb hK hP (by omega) (h163) (vp_in_nI (show 1 < 3 by omega) (by omega)) (congrArg fn (nI_clamp (by omega))) dL_law_660 ?_
    refine lv_asI (y := nI (nk 1)) (hfn 1 (by decide)) ?_
    refine lv_iload hx hb dL_law_661 (lv_at hl 2 rfl) ?_
    refine lv_icmp_lt (tgt := 680) hx hb dL_law_663 (by decide) (fun c9 => absurd c9 ((nI_nlt (by omega) (by omega)))) (fun _ => ?_)
    exact kx H locs ls hP hD hS (lv_sub hl [4, 5, 6, 7] rfl)
