set_option maxRecDepth 20000 in
theorem ggL_law_X6_word : GoodIn wsL_law wsX6_word := goodIn_ca (goodIn_r _ [235, 53, 201, 202, 203, 8, 204, 137, 138, 56, 236, 237, 238, 239, 64, 51, 240, 241, 242, 63, 243, 244, 245, 246, 88, 247, 98, 96, 248, 249, 250, 251, 103, 146, 147, 252, 253, 254, 140, 141, 255, 256, 257, 258, 102, 214, 215, 259, 260, 261, 262, 263, 264, 265, 266, 190, 191, 192, 267, 268, 269, 270, 271, 272, 273, 274, 275, 276, 277, 278, 279, 280, 281, 282, 283, 284, 285, 286, 287, 288, 289, 290, 291, 292, 293, 294, 295, 296, 297, 298, 299, 300, 520, 521, 522, 523, 524, 525, 526, 527, 528, 535, 536, 537, 538, 539, 532, 533, 534, 545, 546, 547, 540, 541] (by decide +kernel) (by decide +kernel)) (goodIn_sub (fun _ h => List.mem_append_left _ (List.mem_append_right _ h)) (by decide +kernel))
set_option maxRecDepth 20000 in
theorem gL_law_X6_word : GoodIn wsL_law (wsV RL 97 RX6 yX6_word wsX6_word) := goodIn_app (goodIn_of _ (by decide +kernel)) ggL_law_X6_word
set_option maxRecDepth 20000 in
theorem ggL_law_L_isMended : GoodIn wsL_law wsL_isMended := goodIn_ca (goodIn_ca (goodIn_ca (goodIn_r _ [472, 3, 473, 169, 117, 118, 2, 119, 38, 39, 120, 121, 122, 123, 124, 125, 126, 474, 475, 476, 8, 477, 51, 134, 135, 136, 137, 138, 139, 140, 141, 142, 143, 144, 131, 132, 145, 146, 147, 478, 479, 480, 50, 481, 79, 482, 483, 484, 485, 486, 487, 488, 489, 490, 491, 492, 493, 80, 181, 182, 183, 184, 354, 355, 356, 357, 56, 47, 53, 326, 327, 328, 358, 359, 360, 361, 362, 329, 330, 331, 332, 81, 214, 215, 333, 334, 335, 46, 336, 74, 337, 338, 339, 340, 341, 72, 342, 343, 344, 345, 13, 14, 15, 346, 222, 223, 363, 364, 365, 366, 494, 495, 496, 497, 201, 202, 203, 204, 450, 411, 412, 413, 414, 415, 416, 417, 418, 419, 189, 190, 191, 88, 192, 98, 420, 421, 422, 423, 96, 97, 498, 499, 500, 501, 502, 503, 504, 505, 506, 507, 451, 452, 453, 454, 64, 455, 456, 457, 458, 240, 241, 242, 63, 243, 244, 245, 246, 247, 248, 249, 250, 251, 103, 252, 253, 254, 255, 256, 257, 258, 102, 259, 260, 261, 262, 263, 264, 265, 266, 267, 268, 269, 270, 271, 272, 273, 274, 275, 276, 277, 278, 279, 280, 281, 282, 283, 284, 285, 286, 287, 288, 289, 290, 291, 292, 293, 294, 295, 296, 459, 469, 233, 234, 235, 236, 237, 238, 239, 297, 298, 299, 300, 461, 462, 463, 464, 465, 466, 467, 468, 508, 509, 510, 511, 512, 513, 514, 515, 516, 517, 518, 519, 520, 521, 522, 523, 524, 525, 526, 527, 528, 532, 533, 534, 535, 536, 537, 538, 539, 529, 530, 531, 545, 546, 547, 540, 541] (by decide +kernel) (by decide +kernel)) (goodIn_sub (fun _ h => List.mem_append_left _ (List.mem_append_right _ h)) (by decide +kernel))) (goodIn_sub (fun _ h => List.mem_append_left _ (List.mem_append_left _ (List.mem_append_right _ h))) (by decide +kernel))) (goodIn_sub (fun _ h => List.mem_append_right _ h) (by decide +kernel))
set_option maxRecDepth 20000 in
theorem gL_law_L_isMended : GoodIn wsL_law (va_wsS RL 100 yL_isMended wsL_isMended) := goodIn_app (goodIn_of _ (by decide +kernel)) ggL_law_L_isMended
set_option maxHeartbeats 4000000 in
set_option maxRecDepth 100000 in
theorem law_r8b {p : Program} {l : Launch} {e : Env} {s : State} {m : MethodId} {below : List Frame} {meth : Method} {c : Code} {Q : State → Prop} {b L : Nat} {xs : Nat → Int32} {cells slots : Nat} (hx : p.tables.exec = Jvm.exec) (hb : c.code = cL_law) (hml : c.maxLocals = 16) (hr : meth.sig.returnType = (some .boolean)) (hts : ∀ w ∈ wsL_law, w.before #[Value.ref b] s = true) (hown : s.vm.findClass RL = some m.cls) {G : iG} (hK : KB G s) (hV : VX s) (hX : XS b L xs 0 (fun _ => 0) s s.heap) (hbA : ¬ aA s b) (hcc : cells + 4000 ≤ room_1.cells) (hcs : slots + 40000 ≤ room_1.slots) {ad : Nat → Nat} {C : Nat → va_E} {H : Heap} {locs : List Loc} {ls : Array Slot} {tm d l2 a8 a9 a10 a11 q9 : Nat} {dw : Int32} {sh rw ek en ek2 en2 : Nat → Nat} {fac : Nat → UInt32} {z : Int32 × Int32 × Int32} {fi : Nat → Fi} (hd : d < 700) (hfi : fi 0 = ((ek, en, 2), 0, q9)) (hE : eqEr (ek2, en2, 2) (ek, en, 2)) (hcam : Cam G 165 ad C 1 (SC sh fac l2 rw ek2 en2 2 z fi)) (h0 : C 0 = ob 7 [.ref (ad 1), .ref b, .int (nI d), .ref (ad 75), .ref (ad 140), .ref (ad 141), .ref (ad 142), .int dw, .ref a8, .ref a9, .ref a10, .ref a11]) (hP : va_P G.1 vwB (wl 165 ad C) H) (hD : va_D (aA s) (wl 165 ad C)) (hS : va_S (aA s) s.heap H locs) (hl : lv_has ls 16 [(3, .ref (ad 1)), (2, .ref (ad 0)), (1, .int (nI tm)), (0, .ref b)]) (kx : ∀ (H : Heap) (locs : List Loc) (ls : Array Slot), va_S (aA s) s.heap H locs → lv_has ls 16 [(1, .int (nI (tm + 1))), (0, .ref b)] → W p l e room_1 s m #[Value.ref b] below meth c H locs (cells + 10) (slots + 100) Q (F0 m 2 ls [])) : W p l e room_1 s m #[Value.ref b] below meth c H locs cells slots Q (F0 m 666 ls []) := by
  have hA : ∀ q : Nat, s.heap.size ≤ q → aA s q := fun _ h => h
  refine lv_aload_n hx hb dL_law_666 rfl (lv_at hl 0 rfl) ?_
  refine lv_iconst (v := nI 0) hx hb dL_law_667 (by decide) ?_
  refine lv_iconst (v := nI 3) hx hb dL_law_668 (by decide) ?_
  refine iw_i (va_runV (As := [.int (nI 0), .int (nI 3)]) (rest := []) ⟨hx, hb, hml, hown, hts⟩ (kX6_ofFile l G (165) ad _ 1 (SC sh fac l2 rw ek2 en2 2 z fi) (Cam_N hcam (by omega)) 0 (by show 0 < 1; decide) 3 (Or.inr rfl) _) (cwV 2 hts gL_law_X6_ofFile rfl rfl rfl (by decide +kernel) ⟨Nat.le_of_ble_eq_true rfl, Nat.le_of_ble_eq_true rfl⟩) (iPV hK hP hD (by omega) (hcam.2.2.1) rfl [.int (nI 0), .int (nI 3)]) rfl rfl hl.1 rfl (lv_room (Nat.le_of_ble_eq_true rfl)) dL_law_669 ⟨by omega, by omega⟩) hD hS hA (fun r8 u8 H locs hw8 hP hD hS => ?_)
  obtain ⟨hr8, hc8, hs8⟩ := hw8
  refine lv_asI hr8 ?_
  obtain ⟨V1, rfl⟩ : ∃ V, V = u8 := ⟨_, rfl⟩
  have k1_0 : V1 0 = ob 7 [.ref (ad 1), .ref b, .int (nI d), .ref (ad 75), .ref (ad 140), .ref (ad 141), .ref (ad 142), .int dw, .ref a8, .ref a9, .ref a10, .ref a11] := (hs8 _ (by omega)).trans (h0)
  have q1_cam := hc8
  refine lv_asI (y := wdI rw (fun _ => false) (ek, en, 2)) (by unfold fiI; rw [if_neg (by decide), if_neg (by decide), if_neg (by decide)]; dsimp only [sFr, sMp, sFi, mkS]; rw [hfi]; dsimp only; rw [va_us]) ?_
  refine lv_aload_n hx hb dL_law_672 rfl (lv_at hl 0 rfl) ?_
  refine lv_iconst (v := nI 0) hx hb dL_law_673 (by decide) ?_
  refine iw_i (va_runV (As := [.int (nI 0)]) (rest := [.int (wdI rw (fun _ => false) (ek, en, 2))]) ⟨hx, hb, hml, hown, hts⟩ (kX6_word l G (165) ad _ 1 (SC sh fac l2 rw ek2 en2 2 z fi) (Cam_N q1_cam (by omega)) 0 (by show 0 < 1; decide) _) (cwV 1 hts gL_law_X6_word rfl rfl rfl (by decide +kernel) ⟨Nat.le_of_ble_eq_true rfl, Nat.le_of_ble_eq_true rfl⟩) (iPV hK hP hD (by omega) (q1_cam.2.2.1) rfl [.int (nI 0)]) rfl rfl hl.1 rfl (lv_room (Nat.le_of_ble_eq_true rfl)) dL_law_674 ⟨by omega, by omega⟩) hD hS hA (fun r8 u8 H locs hw8 hP hD hS => ?_)
  obtain ⟨hr8, hc8, hs8⟩ := hw8
  refine lv_asI hr8 ?_
  obtain ⟨V2, rfl⟩ : ∃ V, V = u8 := ⟨_, rfl⟩
  have k2_0 : V2 0 = ob 7 [.ref (ad 1), .ref b, .int (nI d), .ref (ad 75), .ref (ad 140), .ref (ad 141), .ref (ad 142), .int dw, .ref a8, .ref a9, .ref a10, .ref a11] := (hs8 _ (by omega)).trans (k1_0)
  have q2_cam := hc8
  refine lv_asI (y := wdI rw (fun _ => false) (ek, en, 2)) (by dsimp only [sFr, sMp, mkS]; rw [va_us]; exact wdI_congr rw (fun _ => false) hE) ?_
  refine lv_icmp_eq (tgt := 682) hx hb dL_law_677 (by decide) (fun _ => ?_) (fun c9 => absurd (rfl) c9)
  refine lv_aload_n hx hb dL_law_682 rfl (lv_at hl 1 rfl) ?_
  have hfr1 : (va_up FR00 0 (rw, (ek2, en2, 2), z)) 1 = ((fun _ => 0, (fun _ => 0, fun _ => 0, 0), nI 0, nI 0, nI 0) : Fr) := (va_un _ _ (by decide)).trans rfl
  have hcamM : Cam G 165 ad (V2) 1 (mkS sh fac l2 (fun _ => 0) (fun _ => false) (drN 0 64) 1 1 (va_up (va_up FR00 0 (rw, (ek2, en2, 2), z)) 1 (fun _ => 0, (fun _ => 0, fun _ => 0, 0), nI 0, nI 0, nI 0)) fi) := by rw [va_self (va_up FR00 0 (rw, (ek2, en2, 2), z)) hfr1]; exact (Cam_N q2_cam (by omega))
  refine iwg_i (va_runS (As := [.ref (ad 0)]) (rest := []) ⟨hx, hb, hml, hown, hts⟩ (kL_isMended l G (165) ad _ b L xs sh fac l2 (fun _ => 0) (fun _ => false) (drN 0 64) 1 (va_up FR00 0 (rw, (ek2, en2, 2), z)) fi (fun _ => 0) (fun _ => 0) (fun _ => 0) (nI 0, nI 0, nI 0) hcamM (fun i hi => rfl) d (by omega) (k2_0) _) (va_cwS 1 hts gL_law_L_isMended rfl rfl rfl (by decide +kernel) ⟨Nat.le_of_ble_eq_true rfl, Nat.le_of_ble_eq_true rfl⟩) (iPSX hK hV hX hbA hS hP hD [.ref (ad 0)]) rfl rfl hl.1 rfl (lv_room (Nat.le_of_ble_eq_true rfl)) dL_law_683 ⟨by omega, by omega⟩) hD hS hA (fun r8 ad9 C9 H locs hw8 hP hD hS => ?_)
  dsimp only at hw8
  obtain ⟨hr8, -⟩ := hw8
  refine lv_asI hr8 ?_
  refine lv_if_ne (tgt := 691) hx hb dL_law_686 (by decide) (fun _ => ?_) (fun c9 => absurd c9 (by decide))
  refine lv_iinc (v := nI (tm + 1)) (lv' := [(1, .int (nI (tm + 1))), (3, .ref (ad 1)), (2, .ref (ad 0)), (0, .ref b)]) hx hb dL_law_691 hl (k := 2) rfl (iinc_nat _ 1) (by decide) rfl (fun ls hl => ?_)
  refine lv_goto (tgt := 2) hx hb dL_law_694 (by decide) ?_
  refine W.widen (k := cells + 10) (n := slots + 100) (by omega) (by omega) ?_
  exact kx H locs ls hS (lv_sub hl [0, 3] rfl)
set_option maxHeartbeats 4000000 in
theorem law_round {p : Program} {l : Launch} {e : Env} {s : State} {m : MethodId} {below : List Frame} {meth : Method} {c : Code} {Q : State → Prop} {b L : Nat} {xs : Nat → Int32} {cells slots : Nat} (hx : p.tables.exec = Jvm.exec) (hb : c.code = cL_law) (hml : c.maxLocals = 16) (hr : meth.sig.returnType = (some .boolean)) (hts : ∀ w ∈ wsL_law, w.before #[Value.ref b] s = true) (hown : s.vm.findClass RL = some m.cls) {G : iG} (hK : KB G s) (hV : VX s) (hX : XS b L xs 0 (fun _ => 0) s s.heap) (hbA : ¬ aA s b) (hcc : cells + 8000 ≤ room_1.cells) (hcs : slots + 80000 ≤ room_1.slots) {H : Heap} {locs : List Loc} {ls : Array Slot} {tm : Nat} (htm : tm < 3) (hS : va_S (aA s) s.heap H locs) (hl : lv_has ls 16 [(1, .int (nI tm)), (0, .ref b)]) (kx : ∀ (H : Heap) (locs : List Loc) (ls : Array Slot), va_S (aA s) s.heap H locs → lv_has ls 16 [(1, .int (nI (tm + 1))), (0, .ref b)] → W p l e room_1 s m #[Value.ref b] below meth c H locs (cells + 1500) (slots + 20000) Q (F0 m 2 ls [])) : W p l e room_1 s m #[Value.ref b] below meth c H locs cells slots Q (F0 m 7 ls []) := by
  have hP : va_P G.1 vwB (wl 0 (fun _ => 0) (fun _ => ob 0 [])) H := fun k q h => by simp [wl] at h
  have hD : va_D (aA s) (wl 0 (fun _ => 0) (fun _ => ob 0 [])) := ⟨fun i j p q h => by simp [wl] at h, fun k q h => by simp [wl] at h⟩
  refine law_r1 hx hb hml hr hts hown hK hV hX hbA (by omega) (by omega) htm hP hD hS hl (fun ad C H locs ls sh sn fac l1 l2 l3 hF hW hP hD hS hl => ?_)
  refine law_r2 hx hb hml hr hts hown hK hV hX hbA (by omega) (by omega) htm hW hP hD hS hl (fun ad C H locs ls v tk gk fs hv hF2 hW h151 hfs h152 hP hD hS hl => ?_)
  refine law_r3l hx hb hml hr hts hown hK hV hX hbA (by omega) (by omega) hF hF2 hfs hW h151 h152 hP hD hS hl (fun ad C H locs ls hW h151 h152 hP hD hS hl => ?_)
  refine law_r4 hx hb hml hr hts hown hK hV hX hbA (by omega) (by omega) hF2 hfs h151 h152 hP hD hS hl (fun H locs ls hP hD hS hl => ?_)
  refine law_r5 hx hb hml hr hts hown hK hV hX hbA (by omega) (by omega) (by omega) hF hW hP hD hS hl (fun ad C H locs ls rw ek en z fi d2 a8 a9 a10 a11 dw hcam hd2 h0 hfi hP hD hS hl => ?_)
  obtain ⟨q9, hfi⟩ := hfi
  refine law_r6 hx hb hml hr hts hown hK hV hX hbA (by omega) (by omega) (by omega) hcam h0 hP hD hS hl (fun ad C H locs ls kd w0 nk fn hkd hF3 hw0 hfn hcam h0 h163 h164 hP hD hS hl => ?_)
  refine law_r7l hx hb hml hr hts hown hK hV hX hbA (by omega) (by omega) hkd hF3 hfn hfi hcam h0 h163 h164 hP hD hS hl (fun C H locs ls ek2 en2 hE hcam h0 h163 h164 hP hD hS hl => ?_)
  refine law_r8a hx hb hml hr hts hown hK hV hX hbA (by omega) (by omega) hF3 hw0 hfn h163 h164 hP hD hS hl (fun H locs ls hP hD hS hl => ?_)
  refine law_r8b hx hb hml hr hts hown hK hV hX hbA (by omega) (by omega) (by omega) hfi hE hcam h0 hP hD hS hl (fun H locs ls hS hl => ?_)
  refine W.widen (k := cells + 1500) (n := slots + 20000) (by omega) (by omega) ?_
  exact kx H locs ls hS hl
