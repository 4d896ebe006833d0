set_option maxRecDepth 20000 in
theorem ggL_law_L_take : GoodIn wsL_law wsL_take := goodIn_ca (goodIn_ca (goodIn_r _ [230, 116, 231, 232, 233, 234, 2, 235, 26, 21, 17, 23, 236, 237, 238, 132, 133, 134, 121, 122, 239, 240, 241, 242, 243, 244, 245, 246, 20, 247, 53, 50, 136, 137, 248, 249, 250, 251, 252, 16, 253, 45, 254, 255, 256, 257, 258, 43, 259, 260, 261, 262, 263, 264, 265, 266, 267, 268, 269, 270, 271, 272, 912, 913, 914, 915, 916, 917, 918, 919, 920, 932, 933, 934, 935, 936, 937, 938, 939, 929, 930, 931] (by decide +kernel) (by decide +kernel)) (goodIn_sub (fun _ h => List.mem_append_left _ (List.mem_append_left _ (List.mem_append_right _ h))) (by decide +kernel))) (goodIn_sub (fun _ h => List.mem_append_right _ h) (by decide +kernel))
set_option maxRecDepth 20000 in
theorem gL_law_L_take : GoodIn wsL_law (va_wsS RL 117 yL_take wsL_take) := goodIn_app (goodIn_of _ (by decide +kernel)) ggL_law_L_take
set_option maxRecDepth 20000 in
theorem ggL_law_X9_take : GoodIn wsL_law wsX9_take := goodIn_r _ [276, 146, 94, 152, 153, 5, 154, 155, 156, 157, 158, 277, 278, 279, 93, 280, 281, 282, 283, 284, 285, 42, 286, 87, 88, 287, 288, 289, 263, 264, 265, 89, 290, 267, 268, 291, 292, 293, 294, 295, 296, 297, 298, 299, 300, 12, 13, 301, 92, 302, 303, 304, 305, 306, 97, 98, 99, 100, 101, 102, 103, 104, 105, 106, 107, 108, 109, 110, 307, 308, 309, 310, 311, 312, 313, 314, 315, 316, 317, 318, 319, 320, 321, 322, 323, 324, 325, 326, 327, 328, 329, 330, 331, 332, 333, 334, 335, 336, 337, 338, 339, 340, 341, 342, 343, 344, 345, 346, 347, 348, 349, 350, 351, 352, 353, 921, 922, 923, 924, 925, 926, 927, 928, 948, 949, 950, 951, 952, 953, 954, 955] (by decide +kernel) (by decide +kernel)
set_option maxRecDepth 20000 in
theorem gL_law_X9_take : GoodIn wsL_law (wsV RL 120 RX9 yX9_take wsX9_take) := goodIn_app (goodIn_of _ (by decide +kernel)) ggL_law_X9_take
set_option maxRecDepth 20000 in
theorem ggL_law_X9_thrown : GoodIn wsL_law wsX9_thrown := goodIn_r _ [165, 146, 921, 922, 923, 924, 925, 926, 927, 928] (by decide +kernel) (by decide +kernel)
set_option maxRecDepth 20000 in
theorem gL_law_X9_thrown : GoodIn wsL_law (wsV RL 102 RX9 yX9_thrown wsX9_thrown) := goodIn_app (goodIn_of _ (by decide +kernel)) ggL_law_X9_thrown
set_option maxRecDepth 20000 in
theorem ggL_law_L_wouldClip : GoodIn wsL_law wsL_wouldClip := goodIn_ca (goodIn_r _ [845, 116, 846, 847, 848, 2, 849, 21, 17, 30, 236, 237, 238, 132, 133, 134, 121, 122, 244, 245, 246, 20, 247, 53, 50, 136, 137, 248, 249, 250, 251, 252, 16, 253, 45, 254, 255, 256, 257, 258, 43, 259, 260, 261, 262, 263, 264, 265, 266, 267, 268, 661, 662, 663, 29, 664, 57, 912, 913, 914, 915, 916, 917, 918, 919, 920, 932, 933, 934, 935, 936, 937, 938, 939, 929, 930, 931] (by decide +kernel) (by decide +kernel)) (goodIn_sub (fun _ h => List.mem_append_left _ (List.mem_append_left _ (List.mem_append_right _ h))) (by decide +kernel))
set_option maxRecDepth 20000 in
theorem gL_law_L_wouldClip : GoodIn wsL_law (va_wsS RL 170 yL_wouldClip wsL_wouldClip) := goodIn_app (goodIn_of _ (by decide +kernel)) ggL_law_L_wouldClip
set_option maxRecDepth 20000 in
theorem ggL_law_X9_wouldClip : GoodIn wsL_law wsX9_wouldClip := goodIn_r _ [853, 146, 152, 153, 5, 154, 155, 156, 157, 158, 282, 283, 284, 285, 42, 286, 87, 88, 287, 288, 289, 263, 264, 265, 89, 290, 267, 268, 291, 292, 293, 294, 295, 296, 297, 298, 299, 300, 12, 13, 301, 92, 93, 302, 303, 304, 305, 306, 97, 98, 99, 100, 101, 102, 103, 104, 105, 106, 107, 108, 109, 110, 688, 689, 690, 691, 921, 922, 923, 924, 925, 926, 927, 928, 951, 952, 953, 954, 955, 948, 949, 950] (by decide +kernel) (by decide +kernel)
set_option maxRecDepth 20000 in
theorem gL_law_X9_wouldClip : GoodIn wsL_law (wsV RL 172 RX9 yX9_wouldClip wsX9_wouldClip) := goodIn_app (goodIn_of _ (by decide +kernel)) ggL_law_X9_wouldClip
set_option maxRecDepth 20000 in
theorem ggL_law_L_paint : GoodIn wsL_law wsL_paint := goodIn_ca (goodIn_ca (goodIn_r _ [114, 115, 116, 117, 118, 119, 2, 120, 121, 122, 123, 17, 124, 125, 126, 127, 128, 129, 130, 131, 132, 133, 134, 135, 136, 137, 138, 139, 140, 16, 141, 43, 912, 913, 914, 915, 916, 917, 918, 919, 920, 929, 930, 931] (by decide +kernel) (by decide +kernel)) (goodIn_sub (fun _ h => List.mem_append_left _ (List.mem_append_left _ (List.mem_append_right _ h))) (by decide +kernel))) (goodIn_sub (fun _ h => List.mem_append_left _ (List.mem_append_right _ h)) (by decide +kernel))
set_option maxRecDepth 20000 in
theorem gL_law_L_paint : GoodIn wsL_law (va_wsS RL 96 yL_paint wsL_paint) := goodIn_app (goodIn_of _ (by decide +kernel)) ggL_law_L_paint
set_option maxRecDepth 20000 in
theorem ggL_law_X9_paint : GoodIn wsL_law wsX9_paint := goodIn_r _ [145, 146, 147, 87, 148, 149, 150, 5, 151, 152, 153, 154, 155, 156, 157, 158, 159, 160, 161, 921, 922, 923, 924, 925, 926, 927, 928] (by decide +kernel) (by decide +kernel)
set_option maxRecDepth 20000 in
theorem gL_law_X9_paint : GoodIn wsL_law (wsV RL 101 RX9 yX9_paint wsX9_paint) := goodIn_app (goodIn_of _ (by decide +kernel)) ggL_law_X9_paint
set_option maxHeartbeats 4000000 in
set_option maxRecDepth 100000 in
theorem lc_take_1 {p : Program} {l : Launch} {e : Env} {s : State} {m : MethodId} {below : List Frame} {meth : Method} {c : Code} {b dz : Nat} {xs : Nat → Int32} {G : iG} {Q : State → Prop} (hst : l.stackTraces = false) (hx : p.tables.exec = Jvm.exec) (hb : c.code = cL_law) (hml : c.maxLocals = 9) (hts : ∀ w ∈ wsL_law, w.before #[Value.ref b] s = true) (hown : s.vm.findClass RL = some m.cls) (hX : va_X b 6 xs s s.heap) (hbl : b < s.heap.size) (hK : KB G s) (hV : VX s) (hZt : ZT (aA s) s s.heap) (hZ : ZD dz (aA s) s s.heap) {ad : Nat → Nat} {C : Nat → va_E} {H : Heap} {locs : List Loc} {ls : Array Slot} (hcam : Cam G 83 ad C 0 S0) (hmod : Mod G 83 ad C 74 dz (nI 0)) (glo : C 81 = la G 1 (fun _ => 0)) (hP : va_P G.1 vwB (wl 83 ad C) H) (hD : va_D (aA s) (wl 83 ad C)) (hS : va_S (aA s) s.heap H locs) (hl : lv_has ls 9 [(5, .int (nI 0)), (4, .ref (ad 82)), (3, .ref (ad 81)), (2, .ref (ad 74)), (1, .ref (ad 0)), (0, .ref b)]) (kt : ∀ (H : Heap) (locs : List Loc) (ls : Array Slot), va_S (aA s) s.heap H locs → lv_has ls 9 [(5, .int (nI 0)), (0, .ref b)] → W p l e room_1 s m #[Value.ref b] below meth c H locs 300 6500 Q (F0 m 1906 ls [])) (t1 g1 : Int32) (h : t1 < nI 1 ∨ nI 64 < t1) (hx1 : xs 1 = t1) (hx2 : xs 2 = g1) : W p l e room_1 s m #[Value.ref b] below meth c H locs 83 1901 Q (F0 m 516 ls []) := by
  have hbA : ¬ aA s b := Nat.not_le.mpr hbl
  have hA : ∀ q : Nat, s.heap.size ≤ q → aA s q := fun _ h => h
  refine lv_aload_n hx hb dL_law_516 rfl (lv_at hl 4 rfl) ?_
  refine lv_aload_n hx hb dL_law_517 rfl (lv_at hl 5 rfl) ?_
  refine lv_iload hx hb dL_law_518 (lv_at hl 0 rfl) ?_
  refine lv_iconst (v := nI 1) hx hb dL_law_520 (by decide) ?_
  refine lv_iadd hx hb dL_law_521 ?_
  refine lv_asI (y := nI 1) (by decide) ?_
  refine va_sld hx hb hX hbl hbA hS (vp_in_nI (by decide) (by decide)) dL_law_522 ?_
  refine lv_asI (y := t1) ((congrArg xs (nI_clamp (by decide))).trans hx1) ?_
  refine lv_aload_n hx hb dL_law_523 rfl (lv_at hl 5 rfl) ?_
  refine lv_iload hx hb dL_law_524 (lv_at hl 0 rfl) ?_
  refine lv_iconst (v := nI 2) hx hb dL_law_526 (by decide) ?_
  refine lv_iadd hx hb dL_law_527 ?_
  refine lv_asI (y := nI 2) (by decide) ?_
  refine va_sld hx hb hX hbl hbA hS (vp_in_nI (by decide) (by decide)) dL_law_528 ?_
  refine lv_asI (y := g1) ((congrArg xs (nI_clamp (by decide))).trans hx2) ?_
  refine lv_aload_n hx hb dL_law_529 rfl (lv_at hl 2 rfl) ?_
  refine iwx_i (vx_runSX (hh := [(0, 10, 13, 15), (0, 10, 17, 32)]) (As := [.ref (ad 0), .int t1, .int g1, .ref (ad 81)]) (rest := []) ⟨hx, hb, hml, hown, hts⟩ (wL_take_1 l hst G 83 ad _ 0 S0 hcam 81 t1 g1 h _) (vx_cwSW 4 hts gL_law_L_take rfl rfl rfl (by decide +kernel) ⟨Nat.le_of_ble_eq_true rfl, Nat.le_of_ble_eq_true rfl⟩) (iPSX hK hV hZt hS hA hP hD [.ref (ad 0), .int t1, .int g1, .ref (ad 81)]) rfl rfl hl.1 rfl (lv_room (Nat.le_of_ble_eq_true rfl)) dL_law_530 ⟨Nat.le_of_ble_eq_true rfl, Nat.le_of_ble_eq_true rfl⟩) hD hS hA (fun r8 u8 H locs hw8 hP hD hS => ?_)
  obtain ⟨hr8, hu8⟩ := hw8
  rw [hu8] at hP hD
  refine lv_asI hr8 ?_
  refine lv_istore (lv' := [(6, .int (nI 1)), (5, .int (nI 0)), (4, .ref (ad 82)), (3, .ref (ad 81)), (2, .ref (ad 74)), (1, .ref (ad 0)), (0, .ref b)]) hx hb dL_law_533 hl (by decide) rfl (fun ls hl => ?_)
  refine lv_aload_n hx hb dL_law_535 rfl (lv_at hl 4 rfl) ?_
  refine lv_aload_n hx hb dL_law_536 rfl (lv_at hl 6 rfl) ?_
  refine lv_iload hx hb dL_law_537 (lv_at hl 1 rfl) ?_
  refine lv_iconst (v := nI 1) hx hb dL_law_539 (by decide) ?_
  refine lv_iadd hx hb dL_law_540 ?_
  refine lv_asI (y := nI 1) (by decide) ?_
  refine va_sld hx hb hX hbl hbA hS (vp_in_nI (by decide) (by decide)) dL_law_541 ?_
  refine lv_asI (y := t1) ((congrArg xs (nI_clamp (by decide))).trans hx1) ?_
  refine lv_aload_n hx hb dL_law_542 rfl (lv_at hl 6 rfl) ?_
  refine lv_iload hx hb dL_law_543 (lv_at hl 1 rfl) ?_
  refine lv_iconst (v := nI 2) hx hb dL_law_545 (by decide) ?_
  refine lv_iadd hx hb dL_law_546 ?_
  refine lv_asI (y := nI 2) (by decide) ?_
  refine va_sld hx hb hX hbl hbA hS (vp_in_nI (by decide) (by decide)) dL_law_547 ?_
  refine lv_asI (y := g1) ((congrArg xs (nI_clamp (by decide))).trans hx2) ?_
  refine iw_i (va_runV (As := [.int t1, .int g1]) (rest := []) ⟨hx, hb, hml, hown, hts⟩ (kX9_take_1 l G 83 ad _ 74 dz (nI 0) hmod t1 g1 h _) (cwV 2 hts gL_law_X9_take rfl rfl rfl (by decide +kernel) ⟨Nat.le_of_ble_eq_true rfl, Nat.le_of_ble_eq_true rfl⟩) (iPV hK hP hD (by decide) (hmod.2.1) rfl [.int t1, .int g1]) rfl rfl hl.1 rfl (lv_room (Nat.le_of_ble_eq_true rfl)) dL_law_548 ⟨Nat.le_of_ble_eq_true rfl, Nat.le_of_ble_eq_true rfl⟩) hD hS hA (fun r9 u9 H locs hw9 hP hD hS => ?_)
  obtain ⟨hr9, ⟨d9, ht9⟩, hm9⟩ := hw9
  refine lv_asI (y := nI 0) hr9 ?_
  refine lv_istore (lv' := [(7, .int (nI 0)), (6, .int (nI 1)), (5, .int (nI 0)), (4, .ref (ad 82)), (3, .ref (ad 81)), (2, .ref (ad 74)), (1, .ref (ad 0)), (0, .ref b)]) hx hb dL_law_551 hl (by decide) rfl (fun ls hl => ?_)
  refine lv_aload_n hx hb dL_law_553 rfl (lv_at hl 5 rfl) ?_
  refine iw_i (va_runV (As := []) (rest := []) ⟨hx, hb, hml, hown, hts⟩ (kX9_thrown l G 83 ad _ 74 (by decide) (nI 1) d9 ht9 _) (cwV 0 hts gL_law_X9_thrown rfl rfl rfl (by decide +kernel) ⟨Nat.le_of_ble_eq_true rfl, Nat.le_of_ble_eq_true rfl⟩) (iPV hK hP hD (by decide) (ht9) rfl []) rfl rfl hl.1 rfl (lv_room (Nat.le_of_ble_eq_true rfl)) dL_law_554 ⟨Nat.le_of_ble_eq_true rfl, Nat.le_of_ble_eq_true rfl⟩) hD hS hA (fun r7 u7 H locs hw7 hP hD hS => ?_)
  obtain ⟨hr7, hu7⟩ := hw7
  rw [hu7] at hP hD
  refine lv_asI hr7 ?_
  refine lv_iload hx hb dL_law_557 (lv_at hl 1 rfl) ?_
  refine lv_icmp_eq (tgt := 564) hx hb dL_law_559 (by decide) (fun _ => ?_) (fun c9 => absurd (by decide) c9)
  refine lv_iload hx hb dL_law_564 (lv_at hl 1 rfl) ?_
  refine lv_if_ne (tgt := 581) hx hb dL_law_566 (by decide) (fun _ => ?_) (fun c9 => absurd c9 (by decide))
  refine lv_goto (tgt := 1906) hx hb dL_law_581 (by decide) ?_
  refine W.widen (k := 300) (n := 6500) (Nat.le_of_ble_eq_true rfl) (Nat.le_of_ble_eq_true rfl) ?_
  exact kt H locs ls hS (lv_sub hl [2, 7] rfl)
set_option maxHeartbeats 4000000 in
set_option maxRecDepth 100000 in
theorem lc_take_v {p : Program} {l : Launch} {e : Env} {s : State} {m : MethodId} {below : List Frame} {meth : Method} {c : Code} {b dz : Nat} {xs : Nat → Int32} {G : iG} {Q : State → Prop} (hst : l.stackTraces = false) (hx : p.tables.exec = Jvm.exec) (hb : c.code = cL_law) (hml : c.maxLocals = 9) (hts : ∀ w ∈ wsL_law, w.before #[Value.ref b] s = true) (hown : s.vm.findClass RL = some m.cls) (hX : va_X b 6 xs s s.heap) (hbl : b < s.heap.size) (hK : KB G s) (hV : VX s) (hZt : ZT (aA s) s s.heap) (hZ : ZD dz (aA s) s s.heap) {ad : Nat → Nat} {C : Nat → va_E} {H : Heap} {locs : List Loc} {ls : Array Slot} (hcam : Cam G 83 ad C 0 S0) (hmod : Mod G 83 ad C 74 dz (nI 0)) (glo : C 81 = la G 1 (fun _ => 0)) (hP : va_P G.1 vwB (wl 83 ad C) H) (hD : va_D (aA s) (wl 83 ad C)) (hS : va_S (aA s) s.heap H locs) (hl : lv_has ls 9 [(5, .int (nI 0)), (4, .ref (ad 82)), (3, .ref (ad 81)), (2, .ref (ad 74)), (1, .ref (ad 0)), (0, .ref b)]) (kt : ∀ (H : Heap) (locs : List Loc) (ls : Array Slot), va_S (aA s) s.heap H locs → lv_has ls 9 [(5, .int (nI 0)), (0, .ref b)] → W p l e room_1 s m #[Value.ref b] below meth c H locs 300 6500 Q (F0 m 1906 ls [])) (t1 g1 : Nat) (ht : 0 < t1 ∧ t1 < 65) (hg : 0 < g1 ∧ g1 < 9) (hx1 : xs 1 = nI t1) (hx2 : xs 2 = nI g1) : W p l e room_1 s m #[Value.ref b] below meth c H locs 83 1901 Q (F0 m 516 ls []) := by
  have hbA : ¬ aA s b := Nat.not_le.mpr hbl
  have hA : ∀ q : Nat, s.heap.size ≤ q → aA s q := fun _ h => h
  refine lv_aload_n hx hb dL_law_516 rfl (lv_at hl 4 rfl) ?_
  refine lv_aload_n hx hb dL_law_517 rfl (lv_at hl 5 rfl) ?_
  refine lv_iload hx hb dL_law_518 (lv_at hl 0 rfl) ?_
  refine lv_iconst (v := nI 1) hx hb dL_law_520 (by decide) ?_
  refine lv_iadd hx hb dL_law_521 ?_
  refine lv_asI (y := nI 1) (by decide) ?_
  refine va_sld hx hb hX hbl hbA hS (vp_in_nI (by decide) (by decide)) dL_law_522 ?_
  refine lv_asI (y := nI t1) ((congrArg xs (nI_clamp (by decide))).trans hx1) ?_
  refine lv_aload_n hx hb dL_law_523 rfl (lv_at hl 5 rfl) ?_
  refine lv_iload hx hb dL_law_524 (lv_at hl 0 rfl) ?_
  refine lv_iconst (v := nI 2) hx hb dL_law_526 (by decide) ?_
  refine lv_iadd hx hb dL_law_527 ?_
  refine lv_asI (y := nI 2) (by decide) ?_
  refine va_sld hx hb hX hbl hbA hS (vp_in_nI (by decide) (by decide)) dL_law_528 ?_
  refine lv_asI (y := nI g1) ((congrArg xs (nI_clamp (by decide))).trans hx2) ?_
  refine lv_aload_n hx hb dL_law_529 rfl (lv_at hl 2 rfl) ?_
  refine iwx_i (vx_runSX (hh := [(0, 10, 13, 15), (0, 10, 17, 32)]) (As := [.ref (ad 0), .int (nI t1), .int (nI g1), .ref (ad 81)]) (rest := []) ⟨hx, hb, hml, hown, hts⟩ (wL_take l G 83 ad _ 0 S0 hcam 81 (by decide) (Or.inr (by decide)) _ glo t1 g1 ht hg (by decide) _) (vx_cwSW 4 hts gL_law_L_take rfl rfl rfl (by decide +kernel) ⟨Nat.le_of_ble_eq_true rfl, Nat.le_of_ble_eq_true rfl⟩) (iPSX hK hV hZt hS hA hP hD [.ref (ad 0), .int (nI t1), .int (nI g1), .ref (ad 81)]) rfl rfl hl.1 rfl (lv_room (Nat.le_of_ble_eq_true rfl)) dL_law_530 ⟨Nat.le_of_ble_eq_true rfl, Nat.le_of_ble_eq_true rfl⟩) hD hS hA (fun r8 u8 H locs hw8 hP hD hS => ?_)
  obtain ⟨hr8, ⟨f8, hf8, hv8⟩, hs8⟩ := hw8
  refine lv_asI hr8 ?_
  have hmod := Mod_same hmod (fun i h1 h2 => hs8 i (Or.inr (by omega)) (by omega))
  refine lv_istore (lv' := [(6, .int (nI 0)), (5, .int (nI 0)), (4, .ref (ad 82)), (3, .ref (ad 81)), (2, .ref (ad 74)), (1, .ref (ad 0)), (0, .ref b)]) hx hb dL_law_533 hl (by decide) rfl (fun ls hl => ?_)
  refine lv_aload_n hx hb dL_law_535 rfl (lv_at hl 4 rfl) ?_
  refine lv_aload_n hx hb dL_law_536 rfl (lv_at hl 6 rfl) ?_
  refine lv_iload hx hb dL_law_537 (lv_at hl 1 rfl) ?_
  refine lv_iconst (v := nI 1) hx hb dL_law_539 (by decide) ?_
  refine lv_iadd hx hb dL_law_540 ?_
  refine lv_asI (y := nI 1) (by decide) ?_
  refine va_sld hx hb hX hbl hbA hS (vp_in_nI (by decide) (by decide)) dL_law_541 ?_
  refine lv_asI (y := nI t1) ((congrArg xs (nI_clamp (by decide))).trans hx1) ?_
  refine lv_aload_n hx hb dL_law_542 rfl (lv_at hl 6 rfl) ?_
  refine lv_iload hx hb dL_law_543 (lv_at hl 1 rfl) ?_
  refine lv_iconst (v := nI 2) hx hb dL_law_545 (by decide) ?_
  refine lv_iadd hx hb dL_law_546 ?_
  refine lv_asI (y := nI 2) (by decide) ?_
  refine va_sld hx hb hX hbl hbA hS (vp_in_nI (by decide) (by decide)) dL_law_547 ?_
  refine lv_asI (y := nI g1) ((congrArg xs (nI_clamp (by decide))).trans hx2) ?_
  refine iwq_i (va_runV (As := [.int (nI t1), .int (nI g1)]) (rest := []) ⟨hx, hb, hml, hown, hts⟩ (kX9_take l G 83 ad _ 74 dz (nI 0) hmod t1 g1 ht hg _) (cwV 2 hts gL_law_X9_take rfl rfl rfl (by decide +kernel) ⟨Nat.le_of_ble_eq_true rfl, Nat.le_of_ble_eq_true rfl⟩) (iPVZ hK hV hZ hS hA hP hD (by decide) (hmod.2.1) rfl [.int (nI t1), .int (nI g1)]) rfl rfl hl.1 rfl (lv_room (Nat.le_of_ble_eq_true rfl)) dL_law_548 ⟨Nat.le_of_ble_eq_true rfl, Nat.le_of_ble_eq_true rfl⟩) (by decide) (by decide) hD hS hA (fun r9 u9 H locs hw9 hP hD hS => ?_)
  obtain ⟨hr9, ⟨d9, ht9⟩, hm9⟩ := hw9
  refine lv_asI (y := nI (sFn S0)) (hr9.trans (rfl)) ?_
  refine lv_istore (lv' := [(7, .int (nI (sFn S0))), (6, .int (nI 0)), (5, .int (nI 0)), (4, .ref (ad 82)), (3, .ref (ad 81)), (2, .ref (ad 74)), (1, .ref (ad 0)), (0, .ref b)]) hx hb dL_law_551 hl (by decide) rfl (fun ls hl => ?_)
  refine lv_aload_n hx hb dL_law_553 rfl (lv_at hl 5 rfl) ?_
  refine iw_i (va_runV (As := []) (rest := []) ⟨hx, hb, hml, hown, hts⟩ (kX9_thrown l G 83 ad _ 74 (by decide) (nI 0) d9 ht9 _) (cwV 0 hts gL_law_X9_thrown rfl rfl rfl (by decide +kernel) ⟨Nat.le_of_ble_eq_true rfl, Nat.le_of_ble_eq_true rfl⟩) (iPV hK hP hD (by decide) (ht9) rfl []) rfl rfl hl.1 rfl (lv_room (Nat.le_of_ble_eq_true rfl)) dL_law_554 ⟨Nat.le_of_ble_eq_true rfl, Nat.le_of_ble_eq_true rfl⟩) hD hS hA (fun r7 u7 H locs hw7 hP hD hS => ?_)
  obtain ⟨hr7, hu7⟩ := hw7
  rw [hu7] at hP hD
  refine lv_asI hr7 ?_
  refine lv_iload hx hb dL_law_557 (lv_at hl 1 rfl) ?_
  refine lv_icmp_eq (tgt := 564) hx hb dL_law_559 (by decide) (fun _ => ?_) (fun c9 => absurd (by decide) c9)
  refine lv_iload hx hb dL_law_564 (lv_at hl 1 rfl) ?_
  refine lv_if_ne (tgt := 581) hx hb dL_law_566 (by decide) (fun c9 => absurd (by decide) c9) (fun _ => ?_)
  refine lv_aload_n hx hb dL_law_569 rfl (lv_at hl 4 rfl) ?_
  refine lv_iconst (v := nI 0) hx hb dL_law_570 (by decide) ?_
  refine iw_lald (v := ((nI (sFn S0))).toInt64) hx hb hK hP (by decide) (((hm9 81 (by decide) (Or.inr (by decide))).trans hf8)) (vp_in_nI (show 0 < 1 by omega) (by omega)) ((congrArg f8 (nI_clamp (by decide))).trans hv8) dL_law_571 ?_
  refine lv_iload hx hb dL_law_572 (lv_at hl 0 rfl) ?_
  refine lv_i2l (v := (nI (sFn S0)).toInt64) hx hb dL_law_574 rfl ?_
  refine lv_lcmpE hx hb dL_law_575 ?_
  refine lv_if_eq (tgt := 581) hx hb dL_law_576 (by decide) (fun _ => ?_) (fun c9 => absurd (by decide) c9)
  refine lv_goto (tgt := 1906) hx hb dL_law_581 (by decide) ?_
  refine W.widen (k := 300) (n := 6500) (Nat.le_of_ble_eq_true rfl) (Nat.le_of_ble_eq_true rfl) ?_
  exact kt H locs ls hS (lv_sub hl [2, 7] rfl)
set_option maxHeartbeats 4000000 in
set_option maxRecDepth 100000 in
theorem lc_take_2 {p : Program} {l : Launch} {e : Env} {s : State} {m : MethodId} {below : List Frame} {meth : Method} {c : Code} {b dz : Nat} {xs : Nat → Int32} {G : iG} {Q : State → Prop} (hst : l.stackTraces = false) (hx : p.tables.exec = Jvm.exec) (hb : c.code = cL_law) (hml : c.maxLocals = 9) (hts : ∀ w ∈ wsL_law, w.before #[Value.ref b] s = true) (hown : s.vm.findClass RL = some m.cls) (hX : va_X b 6 xs s s.heap) (hbl : b < s.heap.size) (hK : KB G s) (hV : VX s) (hZt : ZT (aA s) s s.heap) (hZ : ZD dz (aA s) s s.heap) {ad : Nat → Nat} {C : Nat → va_E} {H : Heap} {locs : List Loc} {ls : Array Slot} (hcam : Cam G 83 ad C 0 S0) (hmod : Mod G 83 ad C 74 dz (nI 0)) (glo : C 81 = la G 1 (fun _ => 0)) (hP : va_P G.1 vwB (wl 83 ad C) H) (hD : va_D (aA s) (wl 83 ad C)) (hS : va_S (aA s) s.heap H locs) (hl : lv_has ls 9 [(5, .int (nI 0)), (4, .ref (ad 82)), (3, .ref (ad 81)), (2, .ref (ad 74)), (1, .ref (ad 0)), (0, .ref b)]) (kt : ∀ (H : Heap) (locs : List Loc) (ls : Array Slot), va_S (aA s) s.heap H locs → lv_has ls 9 [(5, .int (nI 0)), (0, .ref b)] → W p l e room_1 s m #[Value.ref b] below meth c H locs 300 6500 Q (F0 m 1906 ls [])) (t1 : Nat) (ht : 0 < t1 ∧ t1 < 65) (g1 : Int32) (h : g1 < nI 1 ∨ nI 8 < g1) (hx1 : xs 1 = nI t1) (hx2 : xs 2 = g1) : W p l e room_1 s m #[Value.ref b] below meth c H locs 83 1901 Q (F0 m 516 ls []) := by
  have hbA : ¬ aA s b := Nat.not_le.mpr hbl
  have hA : ∀ q : Nat, s.heap.size ≤ q → aA s q := fun _ h => h
  refine lv_aload_n hx hb dL_law_516 rfl (lv_at hl 4 rfl) ?_
  refine lv_aload_n hx hb dL_law_517 rfl (lv_at hl 5 rfl) ?_
  refine lv_iload hx hb dL_law_518 (lv_at hl 0 rfl) ?_
  refine lv_iconst (v := nI 1) hx hb dL_law_520 (by decide) ?_
  refine lv_iadd hx hb dL_law_521 ?_
  refine lv_asI (y := nI 1) (by decide) ?_
  refine va_sld hx hb hX hbl hbA hS (vp_in_nI (by decide) (by decide)) dL_law_522 ?_
  refine lv_asI (y := nI t1) ((congrArg xs (nI_clamp (by decide))).trans hx1) ?_
  refine lv_aload_n hx hb dL_law_523 rfl (lv_at hl 5 rfl) ?_
  refine lv_iload hx hb dL_law_524 (lv_at hl 0 rfl) ?_
  refine lv_iconst (v := nI 2) hx hb dL_law_526 (by decide) ?_
  refine lv_iadd hx hb dL_law_527 ?_
  refine lv_asI (y := nI 2) (by decide) ?_
  refine va_sld hx hb hX hbl hbA hS (vp_in_nI (by decide) (by decide)) dL_law_528 ?_
  refine lv_asI (y := g1) ((congrArg xs (nI_clamp (by decide))).trans hx2) ?_
  refine lv_aload_n hx hb dL_law_529 rfl (lv_at hl 2 rfl) ?_
  refine iwx_i (vx_runSX (hh := [(0, 10, 13, 15), (0, 10, 17, 32)]) (As := [.ref (ad 0), .int (nI t1), .int g1, .ref (ad 81)]) (rest := []) ⟨hx, hb, hml, hown, hts⟩ (wL_take_2 l hst G 83 ad _ 0 S0 hcam 81 t1 ht g1 h _) (vx_cwSW 4 hts gL_law_L_take rfl rfl rfl (by decide +kernel) ⟨Nat.le_of_ble_eq_true rfl, Nat.le_of_ble_eq_true rfl⟩) (iPSX hK hV hZt hS hA hP hD [.ref (ad 0), .int (nI t1), .int g1, .ref (ad 81)]) rfl rfl hl.1 rfl (lv_room (Nat.le_of_ble_eq_true rfl)) dL_law_530 ⟨Nat.le_of_ble_eq_true rfl, Nat.le_of_ble_eq_true rfl⟩) hD hS hA (fun r8 u8 H locs hw8 hP hD hS => ?_)
  obtain ⟨hr8, hu8⟩ := hw8
  rw [hu8] at hP hD
  refine lv_asI hr8 ?_
  refine lv_istore (lv' := [(6, .int (nI 1)), (5, .int (nI 0)), (4, .ref (ad 82)), (3, .ref (ad 81)), (2, .ref (ad 74)), (1, .ref (ad 0)), (0, .ref b)]) hx hb dL_law_533 hl (by decide) rfl (fun ls hl => ?_)
  refine lv_aload_n hx hb dL_law_535 rfl (lv_at hl 4 rfl) ?_
  refine lv_aload_n hx hb dL_law_536 rfl (lv_at hl 6 rfl) ?_
  refine lv_iload hx hb dL_law_537 (lv_at hl 1 rfl) ?_
  refine lv_iconst (v := nI 1) hx hb dL_law_539 (by decide) ?_
  refine lv_iadd hx hb dL_law_540 ?_
  refine lv_asI (y := nI 1) (by decide) ?_
  refine va_sld hx hb hX hbl hbA hS (vp_in_nI (by decide) (by decide)) dL_law_541 ?_
  refine lv_asI (y := nI t1) ((congrArg xs (nI_clamp (by decide))).trans hx1) ?_
  refine lv_aload_n hx hb dL_law_542 rfl (lv_at hl 6 rfl) ?_
  refine lv_iload hx hb dL_law_543 (lv_at hl 1 rfl) ?_
  refine lv_iconst (v := nI 2) hx hb dL_law_545 (by decide) ?_
  refine lv_iadd hx hb dL_law_546 ?_
  refine lv_asI (y := nI 2) (by decide) ?_
  refine va_sld hx hb hX hbl hbA hS (vp_in_nI (by decide) (by decide)) dL_law_547 ?_
  refine lv_asI (y := g1) ((congrArg xs (nI_clamp (by decide))).trans hx2) ?_
  refine iw_i (va_runV (As := [.int (nI t1), .int g1]) (rest := []) ⟨hx, hb, hml, hown, hts⟩ (kX9_take_2 l G 83 ad _ 74 dz (nI 0) hmod t1 ht g1 h _) (cwV 2 hts gL_law_X9_take rfl rfl rfl (by decide +kernel) ⟨Nat.le_of_ble_eq_true rfl, Nat.le_of_ble_eq_true rfl⟩) (iPV hK hP hD (by decide) (hmod.2.1) rfl [.int (nI t1), .int g1]) rfl rfl hl.1 rfl (lv_room (Nat.le_of_ble_eq_true rfl)) dL_law_548 ⟨Nat.le_of_ble_eq_true rfl, Nat.le_of_ble_eq_true rfl⟩) hD hS hA (fun r9 u9 H locs hw9 hP hD hS => ?_)
  obtain ⟨hr9, ⟨d9, ht9⟩, hm9⟩ := hw9
  refine lv_asI (y := nI 0) hr9 ?_
  refine lv_istore (lv' := [(7, .int (nI 0)), (6, .int (nI 1)), (5, .int (nI 0)), (4, .ref (ad 82)), (3, .ref (ad 81)), (2, .ref (ad 74)), (1, .ref (ad 0)), (0, .ref b)]) hx hb dL_law_551 hl (by decide) rfl (fun ls hl => ?_)
  refine lv_aload_n hx hb dL_law_553 rfl (lv_at hl 5 rfl) ?_
  refine iw_i (va_runV (As := []) (rest := []) ⟨hx, hb, hml, hown, hts⟩ (kX9_thrown l G 83 ad _ 74 (by decide) (nI 1) d9 ht9 _) (cwV 0 hts gL_law_X9_thrown rfl rfl rfl (by decide +kernel) ⟨Nat.le_of_ble_eq_true rfl, Nat.le_of_ble_eq_true rfl⟩) (iPV hK hP hD (by decide) (ht9) rfl []) rfl rfl hl.1 rfl (lv_room (Nat.le_of_ble_eq_true rfl)) dL_law_554 ⟨Nat.le_of_ble_eq_true rfl, Nat.le_of_ble_eq_true rfl⟩) hD hS hA (fun r7 u7 H locs hw7 hP hD hS => ?_)
  obtain ⟨hr7, hu7⟩ := hw7
  rw [hu7] at hP hD
  refine lv_asI hr7 ?_
  refine lv_iload hx hb dL_law_557 (lv_at hl 1 rfl) ?_
  refine lv_icmp_eq (tgt := 564) hx hb dL_law_559 (by decide) (fun _ => ?_) (fun c9 => absurd (by decide) c9)
  refine lv_iload hx hb dL_law_564 (lv_at hl 1 rfl) ?_
  refine lv_if_ne (tgt := 581) hx hb dL_law_566 (by decide) (fun _ => ?_) (fun c9 => absurd c9 (by decide))
  refine lv_goto (tgt := 1906) hx hb dL_law_581 (by decide) ?_
  refine W.widen (k := 300) (n := 6500) (Nat.le_of_ble_eq_true rfl) (Nat.le_of_ble_eq_true rfl) ?_
  exact kt H locs ls hS (lv_sub hl [2, 7] rfl)
set_option maxHeartbeats 4000000 in
set_option maxRecDepth 100000 in
theorem lc_wouldClip_1 {p : Program} {l : Launch} {e : Env} {s : State} {m : MethodId} {below : List Frame} {meth : Method} {c : Code} {b dz : Nat} {xs : Nat → Int32} {G : iG} {Q : State → Prop} (hst : l.stackTraces = false) (hx : p.tables.exec = Jvm.exec) (hb : c.code = cL_law) (hml : c.maxLocals = 9) (hts : ∀ w ∈ wsL_law, w.before #[Value.ref b] s = true) (hown : s.vm.findClass RL = some m.cls) (hX : va_X b 6 xs s s.heap) (hbl : b < s.heap.size) (hK : KB G s) (hV : VX s) (hZt : ZT (aA s) s s.heap) (hZ : ZD dz (aA s) s s.heap) {ad : Nat → Nat} {C : Nat → va_E} {H : Heap} {locs : List Loc} {ls : Array Slot} (hcam : Cam G 83 ad C 0 S0) (hmod : Mod G 83 ad C 74 dz (nI 0)) (glo : C 81 = la G 1 (fun _ => 0)) (hP : va_P G.1 vwB (wl 83 ad C) H) (hD : va_D (aA s) (wl 83 ad C)) (hS : va_S (aA s) s.heap H locs) (hl : lv_has ls 9 [(5, .int (nI 0)), (4, .ref (ad 82)), (3, .ref (ad 81)), (2, .ref (ad 74)), (1, .ref (ad 0)), (0, .ref b)]) (kt : ∀ (H : Heap) (locs : List Loc) (ls : Array Slot), va_S (aA s) s.heap H locs → lv_has ls 9 [(5, .int (nI 0)), (0, .ref b)] → W p l e room_1 s m #[Value.ref b] below meth c H locs 300 6500 Q (F0 m 1906 ls [])) (t1 g1 : Int32) (h : t1 < nI 1 ∨ nI 64 < t1) (hx1 : xs 1 = t1) (hx2 : xs 2 = g1) : W p l e room_1 s m #[Value.ref b] below meth c H locs 83 1901 Q (F0 m 1700 ls []) := by
  have hbA : ¬ aA s b := Nat.not_le.mpr hbl
  have hA : ∀ q : Nat, s.heap.size ≤ q → aA s q := fun _ h => h
  refine lv_aload_n hx hb dL_law_1700 rfl (lv_at hl 4 rfl) ?_
  refine lv_aload_n hx hb dL_law_1701 rfl (lv_at hl 5 rfl) ?_
  refine lv_iload hx hb dL_law_1702 (lv_at hl 0 rfl) ?_
  refine lv_iconst (v := nI 1) hx hb dL_law_1704 (by decide) ?_
  refine lv_iadd hx hb dL_law_1705 ?_
  refine lv_asI (y := nI 1) (by decide) ?_
  refine va_sld hx hb hX hbl hbA hS (vp_in_nI (by decide) (by decide)) dL_law_1706 ?_
  refine lv_asI (y := t1) ((congrArg xs (nI_clamp (by decide))).trans hx1) ?_
  refine lv_aload_n hx hb dL_law_1707 rfl (lv_at hl 5 rfl) ?_
  refine lv_iload hx hb dL_law_1708 (lv_at hl 0 rfl) ?_
  refine lv_iconst (v := nI 2) hx hb dL_law_1710 (by decide) ?_
  refine lv_iadd hx hb dL_law_1711 ?_
  refine lv_asI (y := nI 2) (by decide) ?_
  refine va_sld hx hb hX hbl hbA hS (vp_in_nI (by decide) (by decide)) dL_law_1712 ?_
  refine lv_asI (y := g1) ((congrArg xs (nI_clamp (by decide))).trans hx2) ?_
  refine lv_aload_n hx hb dL_law_1713 rfl (lv_at hl 2 rfl) ?_
  refine iwx_i (vx_runSX (hh := [(0, 10, 13, 15)]) (As := [.ref (ad 0), .int t1, .int g1, .ref (ad 81)]) (rest := []) ⟨hx, hb, hml, hown, hts⟩ (wL_wouldClip_1 l hst G 83 ad _ 0 S0 hcam 81 t1 g1 h _) (vx_cwSW 4 hts gL_law_L_wouldClip rfl rfl rfl (by decide +kernel) ⟨Nat.le_of_ble_eq_true rfl, Nat.le_of_ble_eq_true rfl⟩) (iPSX hK hV hZt hS hA hP hD [.ref (ad 0), .int t1, .int g1, .ref (ad 81)]) rfl rfl hl.1 rfl (lv_room (Nat.le_of_ble_eq_true rfl)) dL_law_1714 ⟨Nat.le_of_ble_eq_true rfl, Nat.le_of_ble_eq_true rfl⟩) hD hS hA (fun r8 u8 H locs hw8 hP hD hS => ?_)
  obtain ⟨hr8, hu8⟩ := hw8
  rw [hu8] at hP hD
  refine lv_asI hr8 ?_
  refine lv_istore (lv' := [(6, .int (nI 1)), (5, .int (nI 0)), (4, .ref (ad 82)), (3, .ref (ad 81)), (2, .ref (ad 74)), (1, .ref (ad 0)), (0, .ref b)]) hx hb dL_law_1717 hl (by decide) rfl (fun ls hl => ?_)
  refine lv_aload_n hx hb dL_law_1719 rfl (lv_at hl 4 rfl) ?_
  refine lv_aload_n hx hb dL_law_1720 rfl (lv_at hl 6 rfl) ?_
  refine lv_iload hx hb dL_law_1721 (lv_at hl 1 rfl) ?_
  refine lv_iconst (v := nI 1) hx hb dL_law_1723 (by decide) ?_
  refine lv_iadd hx hb dL_law_1724 ?_
  refine lv_asI (y := nI 1) (by decide) ?_
  refine va_sld hx hb hX hbl hbA hS (vp_in_nI (by decide) (by decide)) dL_law_1725 ?_
  refine lv_asI (y := t1) ((congrArg xs (nI_clamp (by decide))).trans hx1) ?_
  refine lv_aload_n hx hb dL_law_1726 rfl (lv_at hl 6 rfl) ?_
  refine lv_iload hx hb dL_law_1727 (lv_at hl 1 rfl) ?_
  refine lv_iconst (v := nI 2) hx hb dL_law_1729 (by decide) ?_
  refine lv_iadd hx hb dL_law_1730 ?_
  refine lv_asI (y := nI 2) (by decide) ?_
  refine va_sld hx hb hX hbl hbA hS (vp_in_nI (by decide) (by decide)) dL_law_1731 ?_
  refine lv_asI (y := g1) ((congrArg xs (nI_clamp (by decide))).trans hx2) ?_
  refine iw_i (va_runV (As := [.int t1, .int g1]) (rest := []) ⟨hx, hb, hml, hown, hts⟩ (kX9_wouldClip_1 l G 83 ad _ 74 dz (nI 0) hmod t1 g1 h _) (cwV 2 hts gL_law_X9_wouldClip rfl rfl rfl (by decide +kernel) ⟨Nat.le_of_ble_eq_true rfl, Nat.le_of_ble_eq_true rfl⟩) (iPV hK hP hD (by decide) (hmod.2.1) rfl [.int t1, .int g1]) rfl rfl hl.1 rfl (lv_room (Nat.le_of_ble_eq_true rfl)) dL_law_1732 ⟨Nat.le_of_ble_eq_true rfl, Nat.le_of_ble_eq_true rfl⟩) hD hS hA (fun r9 u9 H locs hw9 hP hD hS => ?_)
  obtain ⟨hr9, ⟨d9, ht9⟩, hm9⟩ := hw9
  refine lv_asI (y := nI 0) hr9 ?_
  refine lv_istore (lv' := [(7, .int (nI 0)), (6, .int (nI 1)), (5, .int (nI 0)), (4, .ref (ad 82)), (3, .ref (ad 81)), (2, .ref (ad 74)), (1, .ref (ad 0)), (0, .ref b)]) hx hb dL_law_1735 hl (by decide) rfl (fun ls hl => ?_)
  refine lv_aload_n hx hb dL_law_1737 rfl (lv_at hl 5 rfl) ?_
  refine iw_i (va_runV (As := []) (rest := []) ⟨hx, hb, hml, hown, hts⟩ (kX9_thrown l G 83 ad _ 74 (by decide) (nI 1) d9 ht9 _) (cwV 0 hts gL_law_X9_thrown rfl rfl rfl (by decide +kernel) ⟨Nat.le_of_ble_eq_true rfl, Nat.le_of_ble_eq_true rfl⟩) (iPV hK hP hD (by decide) (ht9) rfl []) rfl rfl hl.1 rfl (lv_room (Nat.le_of_ble_eq_true rfl)) dL_law_1738 ⟨Nat.le_of_ble_eq_true rfl, Nat.le_of_ble_eq_true rfl⟩) hD hS hA (fun r7 u7 H locs hw7 hP hD hS => ?_)
  obtain ⟨hr7, hu7⟩ := hw7
  rw [hu7] at hP hD
  refine lv_asI hr7 ?_
  refine lv_iload hx hb dL_law_1741 (lv_at hl 1 rfl) ?_
  refine lv_icmp_eq (tgt := 1748) hx hb dL_law_1743 (by decide) (fun _ => ?_) (fun c9 => absurd (by decide) c9)
  refine lv_iload hx hb dL_law_1748 (lv_at hl 1 rfl) ?_
  refine lv_if_ne (tgt := 1765) hx hb dL_law_1750 (by decide) (fun _ => ?_) (fun c9 => absurd c9 (by decide))
  refine lv_goto (tgt := 1906) hx hb dL_law_1765 (by decide) ?_
  refine W.widen (k := 300) (n := 6500) (Nat.le_of_ble_eq_true rfl) (Nat.le_of_ble_eq_true rfl) ?_
  exact kt H locs ls hS (lv_sub hl [2, 7] rfl)
set_option maxHeartbeats 4000000 in
set_option maxRecDepth 100000 in
theorem lc_wouldClip_2 {p : Program} {l : Launch} {e : Env} {s : State} {m : MethodId} {below : List Frame} {meth : Method} {c : Code} {b dz : Nat} {xs : Nat → Int32} {G : iG} {Q : State → Prop} (hst : l.stackTraces = false) (hx : p.tables.exec = Jvm.exec) (hb : c.code = cL_law) (hml : c.maxLocals = 9) (hts : ∀ w ∈ wsL_law, w.before #[Value.ref b] s = true) (hown : s.vm.findClass RL = some m.cls) (hX : va_X b 6 xs s s.heap) (hbl : b < s.heap.size) (hK : KB G s) (hV : VX s) (hZt : ZT (aA s) s s.heap) (hZ : ZD dz (aA s) s s.heap) {ad : Nat → Nat} {C : Nat → va_E} {H : Heap} {locs : List Loc} {ls : Array Slot} (hcam : Cam G 83 ad C 0 S0) (hmod : Mod G 83 ad C 74 dz (nI 0)) (glo : C 81 = la G 1 (fun _ => 0)) (hP : va_P G.1 vwB (wl 83 ad C) H) (hD : va_D (aA s) (wl 83 ad C)) (hS : va_S (aA s) s.heap H locs) (hl : lv_has ls 9 [(5, .int (nI 0)), (4, .ref (ad 82)), (3, .ref (ad 81)), (2, .ref (ad 74)), (1, .ref (ad 0)), (0, .ref b)]) (kt : ∀ (H : Heap) (locs : List Loc) (ls : Array Slot), va_S (aA s) s.heap H locs → lv_has ls 9 [(5, .int (nI 0)), (0, .ref b)] → W p l e room_1 s m #[Value.ref b] below meth c H locs 300 6500 Q (F0 m 1906 ls [])) (t1 : Nat) (ht : 0 < t1 ∧ t1 < 65) (g1 : Int32) (h : g1 < nI 1 ∨ nI 8 < g1) (hx1 : xs 1 = nI t1) (hx2 : xs 2 = g1) : W p l e room_1 s m #[Value.ref b] below meth c H locs 83 1901 Q (F0 m 1700 ls []) := by
  have hbA : ¬ aA s b := Nat.not_le.mpr hbl
  have hA : ∀ q : Nat, s.heap.size ≤ q → aA s q := fun _ h => h
  refine lv_aload_n hx hb dL_law_1700 rfl (lv_at hl 4 rfl) ?_
  refine lv_aload_n hx hb dL_law_1701 rfl (lv_at hl 5 rfl) ?_
  refine lv_iload hx hb dL_law_1702 (lv_at hl 0 rfl) ?_
  refine lv_iconst (v := nI 1) hx hb dL_law_1704 (by decide) ?_
  refine lv_iadd hx hb dL_law_1705 ?_
  refine lv_asI (y := nI 1) (by decide) ?_
  refine va_sld hx hb hX hbl hbA hS (vp_in_nI (by decide) (by decide)) dL_law_1706 ?_
  refine lv_asI (y := nI t1) ((congrArg xs (nI_clamp (by decide))).trans hx1) ?_
  refine lv_aload_n hx hb dL_law_1707 rfl (lv_at hl 5 rfl) ?_
  refine lv_iload hx hb dL_law_1708 (lv_at hl 0 rfl) ?_
  refine lv_iconst (v := nI 2) hx hb dL_law_1710 (by decide) ?_
  refine lv_iadd hx hb dL_law_1711 ?_
  refine lv_asI (y := nI 2) (by decide) ?_
  refine va_sld hx hb hX hbl hbA hS (vp_in_nI (by decide) (by decide)) dL_law_1712 ?_
  refine lv_asI (y := g1) ((congrArg xs (nI_clamp (by decide))).trans hx2) ?_
  refine lv_aload_n hx hb dL_law_1713 rfl (lv_at hl 2 rfl) ?_
  refine iwx_i (vx_runSX (hh := [(0, 10, 13, 15)]) (As := [.ref (ad 0), .int (nI t1), .int g1, .ref (ad 81)]) (rest := []) ⟨hx, hb, hml, hown, hts⟩ (wL_wouldClip_2 l hst G 83 ad _ 0 S0 hcam 81 t1 ht g1 h _) (vx_cwSW 4 hts gL_law_L_wouldClip rfl rfl rfl (by decide +kernel) ⟨Nat.le_of_ble_eq_true rfl, Nat.le_of_ble_eq_true rfl⟩) (iPSX hK hV hZt hS hA hP hD [.ref (ad 0), .int (nI t1), .int g1, .ref (ad 81)]) rfl rfl hl.1 rfl (lv_room (Nat.le_of_ble_eq_true rfl)) dL_law_1714 ⟨Nat.le_of_ble_eq_true rfl, Nat.le_of_ble_eq_true rfl⟩) hD hS hA (fun r8 u8 H locs hw8 hP hD hS => ?_)
  obtain ⟨hr8, hu8⟩ := hw8
  rw [hu8] at hP hD
  refine lv_asI hr8 ?_
  refine lv_istore (lv' := [(6, .int (nI 1)), (5, .int (nI 0)), (4, .ref (ad 82)), (3, .ref (ad 81)), (2, .ref (ad 74)), (1, .ref (ad 0)), (0, .ref b)]) hx hb dL_law_1717 hl (by decide) rfl (fun ls hl => ?_)
  refine lv_aload_n hx hb dL_law_1719 rfl (lv_at hl 4 rfl) ?_
  refine lv_aload_n hx hb dL_law_1720 rfl (lv_at hl 6 rfl) ?_
  refine lv_iload hx hb dL_law_1721 (lv_at hl 1 rfl) ?_
  refine lv_iconst (v := nI 1) hx hb dL_law_1723 (by decide) ?_
  refine lv_iadd hx hb dL_law_1724 ?_
  refine lv_asI (y := nI 1) (by decide) ?_
  refine va_sld hx hb hX hbl hbA hS (vp_in_nI (by decide) (by decide)) dL_law_1725 ?_
  refine lv_asI (y := nI t1) ((congrArg xs (nI_clamp (by decide))).trans hx1) ?_
  refine lv_aload_n hx hb dL_law_1726 rfl (lv_at hl 6 rfl) ?_
  refine lv_iload hx hb dL_law_1727 (lv_at hl 1 rfl) ?_
  refine lv_iconst (v := nI 2) hx hb dL_law_1729 (by decide) ?_
  refine lv_iadd hx hb dL_law_1730 ?_
  refine lv_asI (y := nI 2) (by decide) ?_
  refine va_sld hx hb hX hbl hbA hS (vp_in_nI (by decide) (by decide)) dL_law_1731 ?_
  refine lv_asI (y := g1) ((congrArg xs (nI_clamp (by decide))).trans hx2) ?_
  refine iw_i (va_runV (As := [.int (nI t1), .int g1]) (rest := []) ⟨hx, hb, hml, hown, hts⟩ (kX9_wouldClip_2 l G 83 ad _ 74 dz (nI 0) hmod t1 ht g1 h _) (cwV 2 hts gL_law_X9_wouldClip rfl rfl rfl (by decide +kernel) ⟨Nat.le_of_ble_eq_true rfl, Nat.le_of_ble_eq_true rfl⟩) (iPV hK hP hD (by decide) (hmod.2.1) rfl [.int (nI t1), .int g1]) rfl rfl hl.1 rfl (lv_room (Nat.le_of_ble_eq_true rfl)) dL_law_1732 ⟨Nat.le_of_ble_eq_true rfl, Nat.le_of_ble_eq_true rfl⟩) hD hS hA (fun r9 u9 H locs hw9 hP hD hS => ?_)
  obtain ⟨hr9, ⟨d9, ht9⟩, hm9⟩ := hw9
  refine lv_asI (y := nI 0) hr9 ?_
  refine lv_istore (lv' := [(7, .int (nI 0)), (6, .int (nI 1)), (5, .int (nI 0)), (4, .ref (ad 82)), (3, .ref (ad 81)), (2, .ref (ad 74)), (1, .ref (ad 0)), (0, .ref b)]) hx hb dL_law_1735 hl (by decide) rfl (fun ls hl => ?_)
  refine lv_aload_n hx hb dL_law_1737 rfl (lv_at hl 5 rfl) ?_
  refine iw_i (va_runV (As := []) (rest := []) ⟨hx, hb, hml, hown, hts⟩ (kX9_thrown l G 83 ad _ 74 (by decide) (nI 1) d9 ht9 _) (cwV 0 hts gL_law_X9_thrown rfl rfl rfl (by decide +kernel) ⟨Nat.le_of_ble_eq_true rfl, Nat.le_of_ble_eq_true rfl⟩) (iPV hK hP hD (by decide) (ht9) rfl []) rfl rfl hl.1 rfl (lv_room (Nat.le_of_ble_eq_true rfl)) dL_law_1738 ⟨Nat.le_of_ble_eq_true rfl, Nat.le_of_ble_eq_true rfl⟩) hD hS hA (fun r7 u7 H locs hw7 hP hD hS => ?_)
  obtain ⟨hr7, hu7⟩ := hw7
  rw [hu7] at hP hD
  refine lv_asI hr7 ?_
  refine lv_iload hx hb dL_law_1741 (lv_at hl 1 rfl) ?_
  refine lv_icmp_eq (tgt := 1748) hx hb dL_law_1743 (by decide) (fun _ => ?_) (fun c9 => absurd (by decide) c9)
  refine lv_iload hx hb dL_law_1748 (lv_at hl 1 rfl) ?_
  refine lv_if_ne (tgt := 1765) hx hb dL_law_1750 (by decide) (fun _ => ?_) (fun c9 => absurd c9 (by decide))
  refine lv_goto (tgt := 1906) hx hb dL_law_1765 (by decide) ?_
  refine W.widen (k := 300) (n := 6500) (Nat.le_of_ble_eq_true rfl) (Nat.le_of_ble_eq_true rfl) ?_
  exact kt H locs ls hS (lv_sub hl [2, 7] rfl)
set_option maxHeartbeats 4000000 in
set_option maxRecDepth 100000 in
theorem lc_wouldClip_v {p : Program} {l : Launch} {e : Env} {s : State} {m : MethodId} {below : List Frame} {meth : Method} {c : Code} {b dz : Nat} {xs : Nat → Int32} {G : iG} {Q : State → Prop} (hst : l.stackTraces = false) (hx : p.tables.exec = Jvm.exec) (hb : c.code = cL_law) (hml : c.maxLocals = 9) (hts : ∀ w ∈ wsL_law, w.before #[Value.ref b] s = true) (hown : s.vm.findClass RL = some m.cls) (hX : va_X b 6 xs s s.heap) (hbl : b < s.heap.size) (hK : KB G s) (hV : VX s) (hZt : ZT (aA s) s s.heap) (hZ : ZD dz (aA s) s s.heap) {ad : Nat → Nat} {C : Nat → va_E} {H : Heap} {locs : List Loc} {ls : Array Slot} (hcam : Cam G 83 ad C 0 S0) (hmod : Mod G 83 ad C 74 dz (nI 0)) (glo : C 81 = la G 1 (fun _ => 0)) (hP : va_P G.1 vwB (wl 83 ad C) H) (hD : va_D (aA s) (wl 83 ad C)) (hS : va_S (aA s) s.heap H locs) (hl : lv_has ls 9 [(5, .int (nI 0)), (4, .ref (ad 82)), (3, .ref (ad 81)), (2, .ref (ad 74)), (1, .ref (ad 0)), (0, .ref b)]) (kt : ∀ (H : Heap) (locs : List Loc) (ls : Array Slot), va_S (aA s) s.heap H locs → lv_has ls 9 [(5, .int (nI 0)), (0, .ref b)] → W p l e room_1 s m #[Value.ref b] below meth c H locs 300 6500 Q (F0 m 1906 ls [])) (t1 g1 : Nat) (ht : 0 < t1 ∧ t1 < 65) (hg : 0 < g1 ∧ g1 < 9) (hx1 : xs 1 = nI t1) (hx2 : xs 2 = nI g1) : W p l e room_1 s m #[Value.ref b] below meth c H locs 83 1901 Q (F0 m 1700 ls []) := by
  have hbA : ¬ aA s b := Nat.not_le.mpr hbl
  have hA : ∀ q : Nat, s.heap.size ≤ q → aA s q := fun _ h => h
  refine lv_aload_n hx hb dL_law_1700 rfl (lv_at hl 4 rfl) ?_
  refine lv_aload_n hx hb dL_law_1701 rfl (lv_at hl 5 rfl) ?_
  refine lv_iload hx hb dL_law_1702 (lv_at hl 0 rfl) ?_
  refine lv_iconst (v := nI 1) hx hb dL_law_1704 (by decide) ?_
  refine lv_iadd hx hb dL_law_1705 ?_
  refine lv_asI (y := nI 1) (by decide) ?_
  refine va_sld hx hb hX hbl hbA hS (vp_in_nI (by decide) (by decide)) dL_law_1706 ?_
  refine lv_asI (y := nI t1) ((congrArg xs (nI_clamp (by decide))).trans hx1) ?_
  refine lv_aload_n hx hb dL_law_1707 rfl (lv_at hl 5 rfl) ?_
  refine lv_iload hx hb dL_law_1708 (lv_at hl 0 rfl) ?_
  refine lv_iconst (v := nI 2) hx hb dL_law_1710 (by decide) ?_
  refine lv_iadd hx hb dL_law_1711 ?_
  refine lv_asI (y := nI 2) (by decide) ?_
  refine va_sld hx hb hX hbl hbA hS (vp_in_nI (by decide) (by decide)) dL_law_1712 ?_
  refine lv_asI (y := nI g1) ((congrArg xs (nI_clamp (by decide))).trans hx2) ?_
  refine lv_aload_n hx hb dL_law_1713 rfl (lv_at hl 2 rfl) ?_
  refine iwx_i (vx_runSX (hh := [(0, 10, 13, 15)]) (As := [.ref (ad 0), .int (nI t1), .int (nI g1), .ref (ad 81)]) (rest := []) ⟨hx, hb, hml, hown, hts⟩ (wL_wouldClip l G 83 ad _ 0 S0 hcam 81 (by decide) (Or.inr (by decide)) _ glo t1 g1 ht hg _) (vx_cwSW 4 hts gL_law_L_wouldClip rfl rfl rfl (by decide +kernel) ⟨Nat.le_of_ble_eq_true rfl, Nat.le_of_ble_eq_true rfl⟩) (iPSX hK hV hZt hS hA hP hD [.ref (ad 0), .int (nI t1), .int (nI g1), .ref (ad 81)]) rfl rfl hl.1 rfl (lv_room (Nat.le_of_ble_eq_true rfl)) dL_law_1714 ⟨Nat.le_of_ble_eq_true rfl, Nat.le_of_ble_eq_true rfl⟩) hD hS hA (fun r8 u8 H locs hw8 hP hD hS => ?_)
  obtain ⟨hr8, ⟨f8, hf8, hv8⟩, hs8⟩ := hw8
  refine lv_asI hr8 ?_
  have hmod := Mod_same hmod (fun i h1 h2 => hs8 i (Or.inr (by omega)) (by omega))
  refine lv_istore (lv' := [(6, .int (nI 0)), (5, .int (nI 0)), (4, .ref (ad 82)), (3, .ref (ad 81)), (2, .ref (ad 74)), (1, .ref (ad 0)), (0, .ref b)]) hx hb dL_law_1717 hl (by decide) rfl (fun ls hl => ?_)
  refine lv_aload_n hx hb dL_law_1719 rfl (lv_at hl 4 rfl) ?_
  refine lv_aload_n hx hb dL_law_1720 rfl (lv_at hl 6 rfl) ?_
  refine lv_iload hx hb dL_law_1721 (lv_at hl 1 rfl) ?_
  refine lv_iconst (v := nI 1) hx hb dL_law_1723 (by decide) ?_
  refine lv_iadd hx hb dL_law_1724 ?_
  refine lv_asI (y := nI 1) (by decide) ?_
  refine va_sld hx hb hX hbl hbA hS (vp_in_nI (by decide) (by decide)) dL_law_1725 ?_
  refine lv_asI (y := nI t1) ((congrArg xs (nI_clamp (by decide))).trans hx1) ?_
  refine lv_aload_n hx hb dL_law_1726 rfl (lv_at hl 6 rfl) ?_
  refine lv_iload hx hb dL_law_1727 (lv_at hl 1 rfl) ?_
  refine lv_iconst (v := nI 2) hx hb dL_law_1729 (by decide) ?_
  refine lv_iadd hx hb dL_law_1730 ?_
  refine lv_asI (y := nI 2) (by decide) ?_
  refine va_sld hx hb hX hbl hbA hS (vp_in_nI (by decide) (by decide)) dL_law_1731 ?_
  refine lv_asI (y := nI g1) ((congrArg xs (nI_clamp (by decide))).trans hx2) ?_
  refine iwq_i (va_runV (As := [.int (nI t1), .int (nI g1)]) (rest := []) ⟨hx, hb, hml, hown, hts⟩ (kX9_wouldClip l G 83 ad _ 74 dz (nI 0) hmod t1 g1 ht hg _) (cwV 2 hts gL_law_X9_wouldClip rfl rfl rfl (by decide +kernel) ⟨Nat.le_of_ble_eq_true rfl, Nat.le_of_ble_eq_true rfl⟩) (iPVZ hK hV hZ hS hA hP hD (by decide) (hmod.2.1) rfl [.int (nI t1), .int (nI g1)]) rfl rfl hl.1 rfl (lv_room (Nat.le_of_ble_eq_true rfl)) dL_law_1732 ⟨Nat.le_of_ble_eq_true rfl, Nat.le_of_ble_eq_true rfl⟩) (by decide) (by decide) hD hS hA (fun r9 u9 H locs hw9 hP hD hS => ?_)
  obtain ⟨hr9, ⟨d9, ht9⟩, hm9⟩ := hw9
  refine lv_asI (y := nI (clN (exN (sHw S0) (sSh S0) (sFac S0) (sDr S0) t1 g1) 64)) (hr9.trans ((by rw [hd0 t1 g1 ht.2, cl0] : nI 0 = nI (clN (exN (sHw S0) (sSh S0) (sFac S0) (sDr S0) t1 g1) 64)))) ?_
  refine lv_istore (lv' := [(7, .int (nI (clN (exN (sHw S0) (sSh S0) (sFac S0) (sDr S0) t1 g1) 64))), (6, .int (nI 0)), (5, .int (nI 0)), (4, .ref (ad 82)), (3, .ref (ad 81)), (2, .ref (ad 74)), (1, .ref (ad 0)), (0, .ref b)]) hx hb dL_law_1735 hl (by decide) rfl (fun ls hl => ?_)
  refine lv_aload_n hx hb dL_law_1737 rfl (lv_at hl 5 rfl) ?_
  refine iw_i (va_runV (As := []) (rest := []) ⟨hx, hb, hml, hown, hts⟩ (kX9_thrown l G 83 ad _ 74 (by decide) (nI 0) d9 ht9 _) (cwV 0 hts gL_law_X9_thrown rfl rfl rfl (by decide +kernel) ⟨Nat.le_of_ble_eq_true rfl, Nat.le_of_ble_eq_true rfl⟩) (iPV hK hP hD (by decide) (ht9) rfl []) rfl rfl hl.1 rfl (lv_room (Nat.le_of_ble_eq_true rfl)) dL_law_1738 ⟨Nat.le_of_ble_eq_true rfl, Nat.le_of_ble_eq_true rfl⟩) hD hS hA (fun r7 u7 H locs hw7 hP hD hS => ?_)
  obtain ⟨hr7, hu7⟩ := hw7
  rw [hu7] at hP hD
  refine lv_asI hr7 ?_
  refine lv_iload hx hb dL_law_1741 (lv_at hl 1 rfl) ?_
  refine lv_icmp_eq (tgt := 1748) hx hb dL_law_1743 (by decide) (fun _ => ?_) (fun c9 => absurd (by decide) c9)
  refine lv_iload hx hb dL_law_1748 (lv_at hl 1 rfl) ?_
  refine lv_if_ne (tgt := 1765) hx hb dL_law_1750 (by decide) (fun c9 => absurd (by decide) c9) (fun _ => ?_)
  refine lv_aload_n hx hb dL_law_1753 rfl (lv_at hl 4 rfl) ?_
  refine lv_iconst (v := nI 0) hx hb dL_law_1754 (by decide) ?_
  refine iw_lald (v := ((nI (clN (exN (sHw S0) (sSh S0) (sFac S0) (sDr S0) t1 g1) 64))).toInt64) hx hb hK hP (by decide) (((hm9 81 (by decide) (Or.inr (by decide))).trans hf8)) (vp_in_nI (show 0 < 1 by omega) (by omega)) ((congrArg f8 (nI_clamp (by decide))).trans hv8) dL_law_1755 ?_
  refine lv_iload hx hb dL_law_1756 (lv_at hl 0 rfl) ?_
  refine lv_i2l (v := (nI (clN (exN (sHw S0) (sSh S0) (sFac S0) (sDr S0) t1 g1) 64)).toInt64) hx hb dL_law_1758 rfl ?_
  refine lv_lcmpE hx hb dL_law_1759 ?_
  refine lv_if_eq (tgt := 1765) hx hb dL_law_1760 (by decide) (fun _ => ?_) (fun c9 => absurd (by decide) c9)
  refine lv_goto (tgt := 1906) hx hb dL_law_1765 (by decide) ?_
  refine W.widen (k := 300) (n := 6500) (Nat.le_of_ble_eq_true rfl) (Nat.le_of_ble_eq_true rfl) ?_
  exact kt H locs ls hS (lv_sub hl [2, 7] rfl)
set_option maxHeartbeats 4000000 in
set_option maxRecDepth 100000 in
theorem lc_paint_1 {p : Program} {l : Launch} {e : Env} {s : State} {m : MethodId} {below : List Frame} {meth : Method} {c : Code} {b dz : Nat} {xs : Nat → Int32} {G : iG} {Q : State → Prop} (hst : l.stackTraces = false) (hx : p.tables.exec = Jvm.exec) (hb : c.code = cL_law) (hml : c.maxLocals = 9) (hts : ∀ w ∈ wsL_law, w.before #[Value.ref b] s = true) (hown : s.vm.findClass RL = some m.cls) (hX : va_X b 6 xs s s.heap) (hbl : b < s.heap.size) (hK : KB G s) (hV : VX s) (hZt : ZT (aA s) s s.heap) (hZ : ZD dz (aA s) s s.heap) {ad : Nat → Nat} {C : Nat → va_E} {H : Heap} {locs : List Loc} {ls : Array Slot} (hcam : Cam G 83 ad C 0 S0) (hmod : Mod G 83 ad C 74 dz (nI 0)) (glo : C 81 = la G 1 (fun _ => 0)) (hP : va_P G.1 vwB (wl 83 ad C) H) (hD : va_D (aA s) (wl 83 ad C)) (hS : va_S (aA s) s.heap H locs) (hl : lv_has ls 9 [(5, .int (nI 0)), (4, .ref (ad 82)), (3, .ref (ad 81)), (2, .ref (ad 74)), (1, .ref (ad 0)), (0, .ref b)]) (kt : ∀ (H : Heap) (locs : List Loc) (ls : Array Slot), va_S (aA s) s.heap H locs → lv_has ls 9 [(5, .int (nI 0)), (0, .ref b)] → W p l e room_1 s m #[Value.ref b] below meth c H locs 300 6500 Q (F0 m 1906 ls [])) (x y tx ty co : Int32) (h : isPl x y = false) (hx1 : xs 1 = x) (hx2 : xs 2 = y) (hx3 : xs 3 = tx) (hx4 : xs 4 = ty) (hx5 : xs 5 = co) : W p l e room_1 s m #[Value.ref b] below meth c H locs 83 1901 Q (F0 m 156 ls []) := by
  have hbA : ¬ aA s b := Nat.not_le.mpr hbl
  have hA : ∀ q : Nat, s.heap.size ≤ q → aA s q := fun _ h => h
  refine lv_aload_n hx hb dL_law_156 rfl (lv_at hl 4 rfl) ?_
  refine lv_aload_n hx hb dL_law_157 rfl (lv_at hl 5 rfl) ?_
  refine lv_iload hx hb dL_law_158 (lv_at hl 0 rfl) ?_
  refine lv_iconst (v := nI 1) hx hb dL_law_160 (by decide) ?_
  refine lv_iadd hx hb dL_law_161 ?_
  refine lv_asI (y := nI 1) (by decide) ?_
  refine va_sld hx hb hX hbl hbA hS (vp_in_nI (by decide) (by decide)) dL_law_162 ?_
  refine lv_asI (y := x) ((congrArg xs (nI_clamp (by decide))).trans hx1) ?_
  refine lv_aload_n hx hb dL_law_163 rfl (lv_at hl 5 rfl) ?_
  refine lv_iload hx hb dL_law_164 (lv_at hl 0 rfl) ?_
  refine lv_iconst (v := nI 2) hx hb dL_law_166 (by decide) ?_
  refine lv_iadd hx hb dL_law_167 ?_
  refine lv_asI (y := nI 2) (by decide) ?_
  refine va_sld hx hb hX hbl hbA hS (vp_in_nI (by decide) (by decide)) dL_law_168 ?_
  refine lv_asI (y := y) ((congrArg xs (nI_clamp (by decide))).trans hx2) ?_
  refine lv_aload_n hx hb dL_law_169 rfl (lv_at hl 5 rfl) ?_
  refine lv_iload hx hb dL_law_170 (lv_at hl 0 rfl) ?_
  refine lv_iconst (v := nI 3) hx hb dL_law_172 (by decide) ?_
  refine lv_iadd hx hb dL_law_173 ?_
  refine lv_asI (y := nI 3) (by decide) ?_
  refine va_sld hx hb hX hbl hbA hS (vp_in_nI (by decide) (by decide)) dL_law_174 ?_
  refine lv_asI (y := tx) ((congrArg xs (nI_clamp (by decide))).trans hx3) ?_
  refine lv_aload_n hx hb dL_law_175 rfl (lv_at hl 5 rfl) ?_
  refine lv_iload hx hb dL_law_176 (lv_at hl 0 rfl) ?_
  refine lv_iconst (v := nI 4) hx hb dL_law_178 (by decide) ?_
  refine lv_iadd hx hb dL_law_179 ?_
  refine lv_asI (y := nI 4) (by decide) ?_
  refine va_sld hx hb hX hbl hbA hS (vp_in_nI (by decide) (by decide)) dL_law_180 ?_
  refine lv_asI (y := ty) ((congrArg xs (nI_clamp (by decide))).trans hx4) ?_
  refine lv_aload_n hx hb dL_law_181 rfl (lv_at hl 5 rfl) ?_
  refine lv_iload hx hb dL_law_182 (lv_at hl 0 rfl) ?_
  refine lv_iconst (v := nI 5) hx hb dL_law_184 (by decide) ?_
  refine lv_iadd hx hb dL_law_185 ?_
  refine lv_asI (y := nI 5) (by decide) ?_
  refine va_sld hx hb hX hbl hbA hS (vp_in_nI (by decide) (by decide)) dL_law_186 ?_
  refine lv_asI (y := co) ((congrArg xs (nI_clamp (by decide))).trans hx5) ?_
  refine lv_aload_n hx hb dL_law_187 rfl (lv_at hl 2 rfl) ?_
  refine iwx_i (vx_runSX (hh := [(0, 16, 19, 13), (0, 16, 23, 15)]) (As := [.ref (ad 0), .int x, .int y, .int tx, .int ty, .int co, .ref (ad 81)]) (rest := []) ⟨hx, hb, hml, hown, hts⟩ (wL_paint_1 l hst G 83 ad _ 0 S0 hcam 81 x y tx ty co h _) (vx_cwSW 7 hts gL_law_L_paint rfl rfl rfl (by decide +kernel) ⟨Nat.le_of_ble_eq_true rfl, Nat.le_of_ble_eq_true rfl⟩) (iPSX hK hV hZt hS hA hP hD [.ref (ad 0), .int x, .int y, .int tx, .int ty, .int co, .ref (ad 81)]) rfl rfl hl.1 rfl (lv_room (Nat.le_of_ble_eq_true rfl)) dL_law_188 ⟨Nat.le_of_ble_eq_true rfl, Nat.le_of_ble_eq_true rfl⟩) hD hS hA (fun r8 u8 H locs hw8 hP hD hS => ?_)
  obtain ⟨hr8, hu8⟩ := hw8
  rw [hu8] at hP hD
  refine lv_asI hr8 ?_
  refine lv_istore (lv' := [(6, .int (nI 1)), (5, .int (nI 0)), (4, .ref (ad 82)), (3, .ref (ad 81)), (2, .ref (ad 74)), (1, .ref (ad 0)), (0, .ref b)]) hx hb dL_law_191 hl (by decide) rfl (fun ls hl => ?_)
  refine lv_aload_n hx hb dL_law_193 rfl (lv_at hl 4 rfl) ?_
  refine lv_aload_n hx hb dL_law_194 rfl (lv_at hl 6 rfl) ?_
  refine lv_iload hx hb dL_law_195 (lv_at hl 1 rfl) ?_
  refine lv_iconst (v := nI 1) hx hb dL_law_197 (by decide) ?_
  refine lv_iadd hx hb dL_law_198 ?_
  refine lv_asI (y := nI 1) (by decide) ?_
  refine va_sld hx hb hX hbl hbA hS (vp_in_nI (by decide) (by decide)) dL_law_199 ?_
  refine lv_asI (y := x) ((congrArg xs (nI_clamp (by decide))).trans hx1) ?_
  refine lv_aload_n hx hb dL_law_200 rfl (lv_at hl 6 rfl) ?_
  refine lv_iload hx hb dL_law_201 (lv_at hl 1 rfl) ?_
  refine lv_iconst (v := nI 2) hx hb dL_law_203 (by decide) ?_
  refine lv_iadd hx hb dL_law_204 ?_
  refine lv_asI (y := nI 2) (by decide) ?_
  refine va_sld hx hb hX hbl hbA hS (vp_in_nI (by decide) (by decide)) dL_law_205 ?_
  refine lv_asI (y := y) ((congrArg xs (nI_clamp (by decide))).trans hx2) ?_
  refine lv_aload_n hx hb dL_law_206 rfl (lv_at hl 6 rfl) ?_
  refine lv_iload hx hb dL_law_207 (lv_at hl 1 rfl) ?_
  refine lv_iconst (v := nI 3) hx hb dL_law_209 (by decide) ?_
  refine lv_iadd hx hb dL_law_210 ?_
  refine lv_asI (y := nI 3) (by decide) ?_
  refine va_sld hx hb hX hbl hbA hS (vp_in_nI (by decide) (by decide)) dL_law_211 ?_
  refine lv_asI (y := tx) ((congrArg xs (nI_clamp (by decide))).trans hx3) ?_
  refine lv_aload_n hx hb dL_law_212 rfl (lv_at hl 6 rfl) ?_
  refine lv_iload hx hb dL_law_213 (lv_at hl 1 rfl) ?_
  refine lv_iconst (v := nI 4) hx hb dL_law_215 (by decide) ?_
  refine lv_iadd hx hb dL_law_216 ?_
  refine lv_asI (y := nI 4) (by decide) ?_
  refine va_sld hx hb hX hbl hbA hS (vp_in_nI (by decide) (by decide)) dL_law_217 ?_
  refine lv_asI (y := ty) ((congrArg xs (nI_clamp (by decide))).trans hx4) ?_
  refine lv_aload_n hx hb dL_law_218 rfl (lv_at hl 6 rfl) ?_
  refine lv_iload hx hb dL_law_219 (lv_at hl 1 rfl) ?_
  refine lv_iconst (v := nI 5) hx hb dL_law_221 (by decide) ?_
  refine lv_iadd hx hb dL_law_222 ?_
  refine lv_asI (y := nI 5) (by decide) ?_
  refine va_sld hx hb hX hbl hbA hS (vp_in_nI (by decide) (by decide)) dL_law_223 ?_
  refine lv_asI (y := co) ((congrArg xs (nI_clamp (by decide))).trans hx5) ?_
  refine iw_i (va_runV (As := [.int x, .int y, .int tx, .int ty, .int co]) (rest := []) ⟨hx, hb, hml, hown, hts⟩ (kX9_paint_1 l G 83 ad _ 74 dz (nI 0) hmod x y tx ty co h _) (cwV 5 hts gL_law_X9_paint rfl rfl rfl (by decide +kernel) ⟨Nat.le_of_ble_eq_true rfl, Nat.le_of_ble_eq_true rfl⟩) (iPV hK hP hD (by decide) (hmod.2.1) rfl [.int x, .int y, .int tx, .int ty, .int co]) rfl rfl hl.1 rfl (lv_room (Nat.le_of_ble_eq_true rfl)) dL_law_224 ⟨Nat.le_of_ble_eq_true rfl, Nat.le_of_ble_eq_true rfl⟩) hD hS hA (fun r9 u9 H locs hw9 hP hD hS => ?_)
  obtain ⟨hr9, ⟨d9, ht9⟩, hm9⟩ := hw9
  refine lv_asI (y := nI 0) hr9 ?_
  refine lv_istore (lv' := [(7, .int (nI 0)), (6, .int (nI 1)), (5, .int (nI 0)), (4, .ref (ad 82)), (3, .ref (ad 81)), (2, .ref (ad 74)), (1, .ref (ad 0)), (0, .ref b)]) hx hb dL_law_227 hl (by decide) rfl (fun ls hl => ?_)
  refine lv_aload_n hx hb dL_law_229 rfl (lv_at hl 5 rfl) ?_
  refine iw_i (va_runV (As := []) (rest := []) ⟨hx, hb, hml, hown, hts⟩ (kX9_thrown l G 83 ad _ 74 (by decide) (nI 1) d9 ht9 _) (cwV 0 hts gL_law_X9_thrown rfl rfl rfl (by decide +kernel) ⟨Nat.le_of_ble_eq_true rfl, Nat.le_of_ble_eq_true rfl⟩) (iPV hK hP hD (by decide) (ht9) rfl []) rfl rfl hl.1 rfl (lv_room (Nat.le_of_ble_eq_true rfl)) dL_law_230 ⟨Nat.le_of_ble_eq_true rfl, Nat.le_of_ble_eq_true rfl⟩) hD hS hA (fun r7 u7 H locs hw7 hP hD hS => ?_)
  obtain ⟨hr7, hu7⟩ := hw7
  rw [hu7] at hP hD
  refine lv_asI hr7 ?_
  refine lv_iload hx hb dL_law_233 (lv_at hl 1 rfl) ?_
  refine lv_icmp_eq (tgt := 240) hx hb dL_law_235 (by decide) (fun _ => ?_) (fun c9 => absurd (by decide) c9)
  refine lv_iload hx hb dL_law_240 (lv_at hl 1 rfl) ?_
  refine lv_if_ne (tgt := 257) hx hb dL_law_242 (by decide) (fun _ => ?_) (fun c9 => absurd c9 (by decide))
  refine lv_goto (tgt := 1906) hx hb dL_law_257 (by decide) ?_
  refine W.widen (k := 300) (n := 6500) (Nat.le_of_ble_eq_true rfl) (Nat.le_of_ble_eq_true rfl) ?_
  exact kt H locs ls hS (lv_sub hl [2, 7] rfl)
set_option maxHeartbeats 4000000 in
set_option maxRecDepth 100000 in
theorem lc_paint_2 {p : Program} {l : Launch} {e : Env} {s : State} {m : MethodId} {below : List Frame} {meth : Method} {c : Code} {b dz : Nat} {xs : Nat → Int32} {G : iG} {Q : State → Prop} (hst : l.stackTraces = false) (hx : p.tables.exec = Jvm.exec) (hb : c.code = cL_law) (hml : c.maxLocals = 9) (hts : ∀ w ∈ wsL_law, w.before #[Value.ref b] s = true) (hown : s.vm.findClass RL = some m.cls) (hX : va_X b 6 xs s s.heap) (hbl : b < s.heap.size) (hK : KB G s) (hV : VX s) (hZt : ZT (aA s) s s.heap) (hZ : ZD dz (aA s) s s.heap) {ad : Nat → Nat} {C : Nat → va_E} {H : Heap} {locs : List Loc} {ls : Array Slot} (hcam : Cam G 83 ad C 0 S0) (hmod : Mod G 83 ad C 74 dz (nI 0)) (glo : C 81 = la G 1 (fun _ => 0)) (hP : va_P G.1 vwB (wl 83 ad C) H) (hD : va_D (aA s) (wl 83 ad C)) (hS : va_S (aA s) s.heap H locs) (hl : lv_has ls 9 [(5, .int (nI 0)), (4, .ref (ad 82)), (3, .ref (ad 81)), (2, .ref (ad 74)), (1, .ref (ad 0)), (0, .ref b)]) (kt : ∀ (H : Heap) (locs : List Loc) (ls : Array Slot), va_S (aA s) s.heap H locs → lv_has ls 9 [(5, .int (nI 0)), (0, .ref b)] → W p l e room_1 s m #[Value.ref b] below meth c H locs 300 6500 Q (F0 m 1906 ls [])) (x y : Nat) (hx8 : x < 8) (hy8 : y < 8) (tx ty co : Int32) (h : isPl tx ty = false) (hx1 : xs 1 = nI x) (hx2 : xs 2 = nI y) (hx3 : xs 3 = tx) (hx4 : xs 4 = ty) (hx5 : xs 5 = co) : W p l e room_1 s m #[Value.ref b] below meth c H locs 83 1901 Q (F0 m 156 ls []) := by
  have hbA : ¬ aA s b := Nat.not_le.mpr hbl
  have hA : ∀ q : Nat, s.heap.size ≤ q → aA s q := fun _ h => h
  refine lv_aload_n hx hb dL_law_156 rfl (lv_at hl 4 rfl) ?_
  refine lv_aload_n hx hb dL_law_157 rfl (lv_at hl 5 rfl) ?_
  refine lv_iload hx hb dL_law_158 (lv_at hl 0 rfl) ?_
  refine lv_iconst (v := nI 1) hx hb dL_law_160 (by decide) ?_
  refine lv_iadd hx hb dL_law_161 ?_
  refine lv_asI (y := nI 1) (by decide) ?_
  refine va_sld hx hb hX hbl hbA hS (vp_in_nI (by decide) (by decide)) dL_law_162 ?_
  refine lv_asI (y := nI x) ((congrArg xs (nI_clamp (by decide))).trans hx1) ?_
  refine lv_aload_n hx hb dL_law_163 rfl (lv_at hl 5 rfl) ?_
  refine lv_iload hx hb dL_law_164 (lv_at hl 0 rfl) ?_
  refine lv_iconst (v := nI 2) hx hb dL_law_166 (by decide) ?_
  refine lv_iadd hx hb dL_law_167 ?_
  refine lv_asI (y := nI 2) (by decide) ?_
  refine va_sld hx hb hX hbl hbA hS (vp_in_nI (by decide) (by decide)) dL_law_168 ?_
  refine lv_asI (y := nI y) ((congrArg xs (nI_clamp (by decide))).trans hx2) ?_
  refine lv_aload_n hx hb dL_law_169 rfl (lv_at hl 5 rfl) ?_
  refine lv_iload hx hb dL_law_170 (lv_at hl 0 rfl) ?_
  refine lv_iconst (v := nI 3) hx hb dL_law_172 (by decide) ?_
  refine lv_iadd hx hb dL_law_173 ?_
  refine lv_asI (y := nI 3) (by decide) ?_
  refine va_sld hx hb hX hbl hbA hS (vp_in_nI (by decide) (by decide)) dL_law_174 ?_
  refine lv_asI (y := tx) ((congrArg xs (nI_clamp (by decide))).trans hx3) ?_
  refine lv_aload_n hx hb dL_law_175 rfl (lv_at hl 5 rfl) ?_
  refine lv_iload hx hb dL_law_176 (lv_at hl 0 rfl) ?_
  refine lv_iconst (v := nI 4) hx hb dL_law_178 (by decide) ?_
  refine lv_iadd hx hb dL_law_179 ?_
  refine lv_asI (y := nI 4) (by decide) ?_
  refine va_sld hx hb hX hbl hbA hS (vp_in_nI (by decide) (by decide)) dL_law_180 ?_
  refine lv_asI (y := ty) ((congrArg xs (nI_clamp (by decide))).trans hx4) ?_
  refine lv_aload_n hx hb dL_law_181 rfl (lv_at hl 5 rfl) ?_
  refine lv_iload hx hb dL_law_182 (lv_at hl 0 rfl) ?_
  refine lv_iconst (v := nI 5) hx hb dL_law_184 (by decide) ?_
  refine lv_iadd hx hb dL_law_185 ?_
  refine lv_asI (y := nI 5) (by decide) ?_
  refine va_sld hx hb hX hbl hbA hS (vp_in_nI (by decide) (by decide)) dL_law_186 ?_
  refine lv_asI (y := co) ((congrArg xs (nI_clamp (by decide))).trans hx5) ?_
  refine lv_aload_n hx hb dL_law_187 rfl (lv_at hl 2 rfl) ?_
  refine iwx_i (vx_runSX (hh := [(0, 16, 19, 13), (0, 16, 23, 15)]) (As := [.ref (ad 0), .int (nI x), .int (nI y), .int tx, .int ty, .int co, .ref (ad 81)]) (rest := []) ⟨hx, hb, hml, hown, hts⟩ (wL_paint_2 l hst G 83 ad _ 0 S0 hcam 81 x y hx8 hy8 tx ty co h _) (vx_cwSW 7 hts gL_law_L_paint rfl rfl rfl (by decide +kernel) ⟨Nat.le_of_ble_eq_true rfl, Nat.le_of_ble_eq_true rfl⟩) (iPSX hK hV hZt hS hA hP hD [.ref (ad 0), .int (nI x), .int (nI y), .int tx, .int ty, .int co, .ref (ad 81)]) rfl rfl hl.1 rfl (lv_room (Nat.le_of_ble_eq_true rfl)) dL_law_188 ⟨Nat.le_of_ble_eq_true rfl, Nat.le_of_ble_eq_true rfl⟩) hD hS hA (fun r8 u8 H locs hw8 hP hD hS => ?_)
  obtain ⟨hr8, hu8⟩ := hw8
  rw [hu8] at hP hD
  refine lv_asI hr8 ?_
  refine lv_istore (lv' := [(6, .int (nI 1)), (5, .int (nI 0)), (4, .ref (ad 82)), (3, .ref (ad 81)), (2, .ref (ad 74)), (1, .ref (ad 0)), (0, .ref b)]) hx hb dL_law_191 hl (by decide) rfl (fun ls hl => ?_)
  refine lv_aload_n hx hb dL_law_193 rfl (lv_at hl 4 rfl) ?_
  refine lv_aload_n hx hb dL_law_194 rfl (lv_at hl 6 rfl) ?_
  refine lv_iload hx hb dL_law_195 (lv_at hl 1 rfl) ?_
  refine lv_iconst (v := nI 1) hx hb dL_law_197 (by decide) ?_
  refine lv_iadd hx hb dL_law_198 ?_
  refine lv_asI (y := nI 1) (by decide) ?_
  refine va_sld hx hb hX hbl hbA hS (vp_in_nI (by decide) (by decide)) dL_law_199 ?_
  refine lv_asI (y := nI x) ((congrArg xs (nI_clamp (by decide))).trans hx1) ?_
  refine lv_aload_n hx hb dL_law_200 rfl (lv_at hl 6 rfl) ?_
  refine lv_iload hx hb dL_law_201 (lv_at hl 1 rfl) ?_
  refine lv_iconst (v := nI 2) hx hb dL_law_203 (by decide) ?_
  refine lv_iadd hx hb dL_law_204 ?_
  refine lv_asI (y := nI 2) (by decide) ?_
  refine va_sld hx hb hX hbl hbA hS (vp_in_nI (by decide) (by decide)) dL_law_205 ?_
  refine lv_asI (y := nI y) ((congrArg xs (nI_clamp (by decide))).trans hx2) ?_
  refine lv_aload_n hx hb dL_law_206 rfl (lv_at hl 6 rfl) ?_
  refine lv_iload hx hb dL_law_207 (lv_at hl 1 rfl) ?_
  refine lv_iconst (v := nI 3) hx hb dL_law_209 (by decide) ?_
  refine lv_iadd hx hb dL_law_210 ?_
  refine lv_asI (y := nI 3) (by decide) ?_
  refine va_sld hx hb hX hbl hbA hS (vp_in_nI (by decide) (by decide)) dL_law_211 ?_
  refine lv_asI (y := tx) ((congrArg xs (nI_clamp (by decide))).trans hx3) ?_
  refine lv_aload_n hx hb dL_law_212 rfl (lv_at hl 6 rfl) ?_
  refine lv_iload hx hb dL_law_213 (lv_at hl 1 rfl) ?_
  refine lv_iconst (v := nI 4) hx hb dL_law_215 (by decide) ?_
  refine lv_iadd hx hb dL_law_216 ?_
  refine lv_asI (y := nI 4) (by decide) ?_
  refine va_sld hx hb hX hbl hbA hS (vp_in_nI (by decide) (by decide)) dL_law_217 ?_
  refine lv_asI (y := ty) ((congrArg xs (nI_clamp (by decide))).trans hx4) ?_
  refine lv_aload_n hx hb dL_law_218 rfl (lv_at hl 6 rfl) ?_
  refine lv_iload hx hb dL_law_219 (lv_at hl 1 rfl) ?_
  refine lv_iconst (v := nI 5) hx hb dL_law_221 (by decide) ?_
  refine lv_iadd hx hb dL_law_222 ?_
  refine lv_asI (y := nI 5) (by decide) ?_
  refine va_sld hx hb hX hbl hbA hS (vp_in_nI (by decide) (by decide)) dL_law_223 ?_
  refine lv_asI (y := co) ((congrArg xs (nI_clamp (by decide))).trans hx5) ?_
  refine iw_i (va_runV (As := [.int (nI x), .int (nI y), .int tx, .int ty, .int co]) (rest := []) ⟨hx, hb, hml, hown, hts⟩ (kX9_paint_2 l G 83 ad _ 74 dz (nI 0) hmod x y hx8 hy8 tx ty co h _) (cwV 5 hts gL_law_X9_paint rfl rfl rfl (by decide +kernel) ⟨Nat.le_of_ble_eq_true rfl, Nat.le_of_ble_eq_true rfl⟩) (iPV hK hP hD (by decide) (hmod.2.1) rfl [.int (nI x), .int (nI y), .int tx, .int ty, .int co]) rfl rfl hl.1 rfl (lv_room (Nat.le_of_ble_eq_true rfl)) dL_law_224 ⟨Nat.le_of_ble_eq_true rfl, Nat.le_of_ble_eq_true rfl⟩) hD hS hA (fun r9 u9 H locs hw9 hP hD hS => ?_)
  obtain ⟨hr9, ⟨d9, ht9⟩, hm9⟩ := hw9
  refine lv_asI (y := nI 0) hr9 ?_
  refine lv_istore (lv' := [(7, .int (nI 0)), (6, .int (nI 1)), (5, .int (nI 0)), (4, .ref (ad 82)), (3, .ref (ad 81)), (2, .ref (ad 74)), (1, .ref (ad 0)), (0, .ref b)]) hx hb dL_law_227 hl (by decide) rfl (fun ls hl => ?_)
  refine lv_aload_n hx hb dL_law_229 rfl (lv_at hl 5 rfl) ?_
  refine iw_i (va_runV (As := []) (rest := []) ⟨hx, hb, hml, hown, hts⟩ (kX9_thrown l G 83 ad _ 74 (by decide) (nI 1) d9 ht9 _) (cwV 0 hts gL_law_X9_thrown rfl rfl rfl (by decide +kernel) ⟨Nat.le_of_ble_eq_true rfl, Nat.le_of_ble_eq_true rfl⟩) (iPV hK hP hD (by decide) (ht9) rfl []) rfl rfl hl.1 rfl (lv_room (Nat.le_of_ble_eq_true rfl)) dL_law_230 ⟨Nat.le_of_ble_eq_true rfl, Nat.le_of_ble_eq_true rfl⟩) hD hS hA (fun r7 u7 H locs hw7 hP hD hS => ?_)
  obtain ⟨hr7, hu7⟩ := hw7
  rw [hu7] at hP hD
  refine lv_asI hr7 ?_
  refine lv_iload hx hb dL_law_233 (lv_at hl 1 rfl) ?_
  refine lv_icmp_eq (tgt := 240) hx hb dL_law_235 (by decide) (fun _ => ?_) (fun c9 => absurd (by decide) c9)
  refine lv_iload hx hb dL_law_240 (lv_at hl 1 rfl) ?_
  refine lv_if_ne (tgt := 257) hx hb dL_law_242 (by decide) (fun _ => ?_) (fun c9 => absurd c9 (by decide))
  refine lv_goto (tgt := 1906) hx hb dL_law_257 (by decide) ?_
  refine W.widen (k := 300) (n := 6500) (Nat.le_of_ble_eq_true rfl) (Nat.le_of_ble_eq_true rfl) ?_
  exact kt H locs ls hS (lv_sub hl [2, 7] rfl)
set_option maxHeartbeats 4000000 in
set_option maxRecDepth 100000 in
theorem lc_paint_3 {p : Program} {l : Launch} {e : Env} {s : State} {m : MethodId} {below : List Frame} {meth : Method} {c : Code} {b dz : Nat} {xs : Nat → Int32} {G : iG} {Q : State → Prop} (hst : l.stackTraces = false) (hx : p.tables.exec = Jvm.exec) (hb : c.code = cL_law) (hml : c.maxLocals = 9) (hts : ∀ w ∈ wsL_law, w.before #[Value.ref b] s = true) (hown : s.vm.findClass RL = some m.cls) (hX : va_X b 6 xs s s.heap) (hbl : b < s.heap.size) (hK : KB G s) (hV : VX s) (hZt : ZT (aA s) s s.heap) (hZ : ZD dz (aA s) s s.heap) {ad : Nat → Nat} {C : Nat → va_E} {H : Heap} {locs : List Loc} {ls : Array Slot} (hcam : Cam G 83 ad C 0 S0) (hmod : Mod G 83 ad C 74 dz (nI 0)) (glo : C 81 = la G 1 (fun _ => 0)) (hP : va_P G.1 vwB (wl 83 ad C) H) (hD : va_D (aA s) (wl 83 ad C)) (hS : va_S (aA s) s.heap H locs) (hl : lv_has ls 9 [(5, .int (nI 0)), (4, .ref (ad 82)), (3, .ref (ad 81)), (2, .ref (ad 74)), (1, .ref (ad 0)), (0, .ref b)]) (kt : ∀ (H : Heap) (locs : List Loc) (ls : Array Slot), va_S (aA s) s.heap H locs → lv_has ls 9 [(5, .int (nI 0)), (0, .ref b)] → W p l e room_1 s m #[Value.ref b] below meth c H locs 300 6500 Q (F0 m 1906 ls [])) (x y tx ty : Nat) (hx8 : x < 8) (hy8 : y < 8) (htx : tx < 8) (hty : ty < 8) (co : Int32) (h : tx < x) (hx1 : xs 1 = nI x) (hx2 : xs 2 = nI y) (hx3 : xs 3 = nI tx) (hx4 : xs 4 = nI ty) (hx5 : xs 5 = co) : W p l e room_1 s m #[Value.ref b] below meth c H locs 83 1901 Q (F0 m 156 ls []) := by
  have hbA : ¬ aA s b := Nat.not_le.mpr hbl
  have hA : ∀ q : Nat, s.heap.size ≤ q → aA s q := fun _ h => h
  refine lv_aload_n hx hb dL_law_156 rfl (lv_at hl 4 rfl) ?_
  refine lv_aload_n hx hb dL_law_157 rfl (lv_at hl 5 rfl) ?_
  refine lv_iload hx hb dL_law_158 (lv_at hl 0 rfl) ?_
  refine lv_iconst (v := nI 1) hx hb dL_law_160 (by decide) ?_
  refine lv_iadd hx hb dL_law_161 ?_
  refine lv_asI (y := nI 1) (by decide) ?_
  refine va_sld hx hb hX hbl hbA hS (vp_in_nI (by decide) (by decide)) dL_law_162 ?_
  refine lv_asI (y := nI x) ((congrArg xs (nI_clamp (by decide))).trans hx1) ?_
  refine lv_aload_n hx hb dL_law_163 rfl (lv_at hl 5 rfl) ?_
  refine lv_iload hx hb dL_law_164 (lv_at hl 0 rfl) ?_
  refine lv_iconst (v := nI 2) hx hb dL_law_166 (by decide) ?_
  refine lv_iadd hx hb dL_law_167 ?_
  refine lv_asI (y := nI 2) (by decide) ?_
  refine va_sld hx hb hX hbl hbA hS (vp_in_nI (by decide) (by decide)) dL_law_168 ?_
  refine lv_asI (y := nI y) ((congrArg xs (nI_clamp (by decide))).trans hx2) ?_
  refine lv_aload_n hx hb dL_law_169 rfl (lv_at hl 5 rfl) ?_
  refine lv_iload hx hb dL_law_170 (lv_at hl 0 rfl) ?_
  refine lv_iconst (v := nI 3) hx hb dL_law_172 (by decide) ?_
  refine lv_iadd hx hb dL_law_173 ?_
  refine lv_asI (y := nI 3) (by decide) ?_
  refine va_sld hx hb hX hbl hbA hS (vp_in_nI (by decide) (by decide)) dL_law_174 ?_
  refine lv_asI (y := nI tx) ((congrArg xs (nI_clamp (by decide))).trans hx3) ?_
  refine lv_aload_n hx hb dL_law_175 rfl (lv_at hl 5 rfl) ?_
  refine lv_iload hx hb dL_law_176 (lv_at hl 0 rfl) ?_
  refine lv_iconst (v := nI 4) hx hb dL_law_178 (by decide) ?_
  refine lv_iadd hx hb dL_law_179 ?_
  refine lv_asI (y := nI 4) (by decide) ?_
  refine va_sld hx hb hX hbl hbA hS (vp_in_nI (by decide) (by decide)) dL_law_180 ?_
  refine lv_asI (y := nI ty) ((congrArg xs (nI_clamp (by decide))).trans hx4) ?_
  refine lv_aload_n hx hb dL_law_181 rfl (lv_at hl 5 rfl) ?_
  refine lv_iload hx hb dL_law_182 (lv_at hl 0 rfl) ?_
  refine lv_iconst (v := nI 5) hx hb dL_law_184 (by decide) ?_
  refine lv_iadd hx hb dL_law_185 ?_
  refine lv_asI (y := nI 5) (by decide) ?_
  refine va_sld hx hb hX hbl hbA hS (vp_in_nI (by decide) (by decide)) dL_law_186 ?_
  refine lv_asI (y := co) ((congrArg xs (nI_clamp (by decide))).trans hx5) ?_
  refine lv_aload_n hx hb dL_law_187 rfl (lv_at hl 2 rfl) ?_
  refine iwx_i (vx_runSX (hh := [(0, 16, 19, 13), (0, 16, 23, 15)]) (As := [.ref (ad 0), .int (nI x), .int (nI y), .int (nI tx), .int (nI ty), .int co, .ref (ad 81)]) (rest := []) ⟨hx, hb, hml, hown, hts⟩ (wL_paint_3 l hst G 83 ad _ 0 S0 hcam 81 x y tx ty hx8 hy8 htx hty co h _) (vx_cwSW 7 hts gL_law_L_paint rfl rfl rfl (by decide +kernel) ⟨Nat.le_of_ble_eq_true rfl, Nat.le_of_ble_eq_true rfl⟩) (iPSX hK hV hZt hS hA hP hD [.ref (ad 0), .int (nI x), .int (nI y), .int (nI tx), .int (nI ty), .int co, .ref (ad 81)]) rfl rfl hl.1 rfl (lv_room (Nat.le_of_ble_eq_true rfl)) dL_law_188 ⟨Nat.le_of_ble_eq_true rfl, Nat.le_of_ble_eq_true rfl⟩) hD hS hA (fun r8 u8 H locs hw8 hP hD hS => ?_)
  obtain ⟨hr8, hu8⟩ := hw8
  rw [hu8] at hP hD
  refine lv_asI hr8 ?_
  refine lv_istore (lv' := [(6, .int (nI 2)), (5, .int (nI 0)), (4, .ref (ad 82)), (3, .ref (ad 81)), (2, .ref (ad 74)), (1, .ref (ad 0)), (0, .ref b)]) hx hb dL_law_191 hl (by decide) rfl (fun ls hl => ?_)
  refine lv_aload_n hx hb dL_law_193 rfl (lv_at hl 4 rfl) ?_
  refine lv_aload_n hx hb dL_law_194 rfl (lv_at hl 6 rfl) ?_
  refine lv_iload hx hb dL_law_195 (lv_at hl 1 rfl) ?_
  refine lv_iconst (v := nI 1) hx hb dL_law_197 (by decide) ?_
  refine lv_iadd hx hb dL_law_198 ?_
  refine lv_asI (y := nI 1) (by decide) ?_
  refine va_sld hx hb hX hbl hbA hS (vp_in_nI (by decide) (by decide)) dL_law_199 ?_
  refine lv_asI (y := nI x) ((congrArg xs (nI_clamp (by decide))).trans hx1) ?_
  refine lv_aload_n hx hb dL_law_200 rfl (lv_at hl 6 rfl) ?_
  refine lv_iload hx hb dL_law_201 (lv_at hl 1 rfl) ?_
  refine lv_iconst (v := nI 2) hx hb dL_law_203 (by decide) ?_
  refine lv_iadd hx hb dL_law_204 ?_
  refine lv_asI (y := nI 2) (by decide) ?_
  refine va_sld hx hb hX hbl hbA hS (vp_in_nI (by decide) (by decide)) dL_law_205 ?_
  refine lv_asI (y := nI y) ((congrArg xs (nI_clamp (by decide))).trans hx2) ?_
  refine lv_aload_n hx hb dL_law_206 rfl (lv_at hl 6 rfl) ?_
  refine lv_iload hx hb dL_law_207 (lv_at hl 1 rfl) ?_
  refine lv_iconst (v := nI 3) hx hb dL_law_209 (by decide) ?_
  refine lv_iadd hx hb dL_law_210 ?_
  refine lv_asI (y := nI 3) (by decide) ?_
  refine va_sld hx hb hX hbl hbA hS (vp_in_nI (by decide) (by decide)) dL_law_211 ?_
  refine lv_asI (y := nI tx) ((congrArg xs (nI_clamp (by decide))).trans hx3) ?_
  refine lv_aload_n hx hb dL_law_212 rfl (lv_at hl 6 rfl) ?_
  refine lv_iload hx hb dL_law_213 (lv_at hl 1 rfl) ?_
  refine lv_iconst (v := nI 4) hx hb dL_law_215 (by decide) ?_
  refine lv_iadd hx hb dL_law_216 ?_
  refine lv_asI (y := nI 4) (by decide) ?_
  refine va_sld hx hb hX hbl hbA hS (vp_in_nI (by decide) (by decide)) dL_law_217 ?_
  refine lv_asI (y := nI ty) ((congrArg xs (nI_clamp (by decide))).trans hx4) ?_
  refine lv_aload_n hx hb dL_law_218 rfl (lv_at hl 6 rfl) ?_
  refine lv_iload hx hb dL_law_219 (lv_at hl 1 rfl) ?_
  refine lv_iconst (v := nI 5) hx hb dL_law_221 (by decide) ?_
  refine lv_iadd hx hb dL_law_222 ?_
  refine lv_asI (y := nI 5) (by decide) ?_
  refine va_sld hx hb hX hbl hbA hS (vp_in_nI (by decide) (by decide)) dL_law_223 ?_
  refine lv_asI (y := co) ((congrArg xs (nI_clamp (by decide))).trans hx5) ?_
  refine iw_i (va_runV (As := [.int (nI x), .int (nI y), .int (nI tx), .int (nI ty), .int co]) (rest := []) ⟨hx, hb, hml, hown, hts⟩ (kX9_paint_3 l G 83 ad _ 74 dz (nI 0) hmod x y tx ty hx8 hy8 htx hty co h _) (cwV 5 hts gL_law_X9_paint rfl rfl rfl (by decide +kernel) ⟨Nat.le_of_ble_eq_true rfl, Nat.le_of_ble_eq_true rfl⟩) (iPV hK hP hD (by decide) (hmod.2.1) rfl [.int (nI x), .int (nI y), .int (nI tx), .int (nI ty), .int co]) rfl rfl hl.1 rfl (lv_room (Nat.le_of_ble_eq_true rfl)) dL_law_224 ⟨Nat.le_of_ble_eq_true rfl, Nat.le_of_ble_eq_true rfl⟩) hD hS hA (fun r9 u9 H locs hw9 hP hD hS => ?_)
  obtain ⟨hr9, ⟨d9, ht9⟩, hm9⟩ := hw9
  refine lv_asI (y := nI 0) hr9 ?_
  refine lv_istore (lv' := [(7, .int (nI 0)), (6, .int (nI 2)), (5, .int (nI 0)), (4, .ref (ad 82)), (3, .ref (ad 81)), (2, .ref (ad 74)), (1, .ref (ad 0)), (0, .ref b)]) hx hb dL_law_227 hl (by decide) rfl (fun ls hl => ?_)
  refine lv_aload_n hx hb dL_law_229 rfl (lv_at hl 5 rfl) ?_
  refine iw_i (va_runV (As := []) (rest := []) ⟨hx, hb, hml, hown, hts⟩ (kX9_thrown l G 83 ad _ 74 (by decide) (nI 2) d9 ht9 _) (cwV 0 hts gL_law_X9_thrown rfl rfl rfl (by decide +kernel) ⟨Nat.le_of_ble_eq_true rfl, Nat.le_of_ble_eq_true rfl⟩) (iPV hK hP hD (by decide) (ht9) rfl []) rfl rfl hl.1 rfl (lv_room (Nat.le_of_ble_eq_true rfl)) dL_law_230 ⟨Nat.le_of_ble_eq_true rfl, Nat.le_of_ble_eq_true rfl⟩) hD hS hA (fun r7 u7 H locs hw7 hP hD hS => ?_)
  obtain ⟨hr7, hu7⟩ := hw7
  rw [hu7] at hP hD
  refine lv_asI hr7 ?_
  refine lv_iload hx hb dL_law_233 (lv_at hl 1 rfl) ?_
  refine lv_icmp_eq (tgt := 240) hx hb dL_law_235 (by decide) (fun _ => ?_) (fun c9 => absurd (by decide) c9)
  refine lv_iload hx hb dL_law_240 (lv_at hl 1 rfl) ?_
  refine lv_if_ne (tgt := 257) hx hb dL_law_242 (by decide) (fun _ => ?_) (fun c9 => absurd c9 (by decide))
  refine lv_goto (tgt := 1906) hx hb dL_law_257 (by decide) ?_
  refine W.widen (k := 300) (n := 6500) (Nat.le_of_ble_eq_true rfl) (Nat.le_of_ble_eq_true rfl) ?_
  exact kt H locs ls hS (lv_sub hl [2, 7] rfl)
set_option maxHeartbeats 4000000 in
set_option maxRecDepth 100000 in
theorem lc_paint_4 {p : Program} {l : Launch} {e : Env} {s : State} {m : MethodId} {below : List Frame} {meth : Method} {c : Code} {b dz : Nat} {xs : Nat → Int32} {G : iG} {Q : State → Prop} (hst : l.stackTraces = false) (hx : p.tables.exec = Jvm.exec) (hb : c.code = cL_law) (hml : c.maxLocals = 9) (hts : ∀ w ∈ wsL_law, w.before #[Value.ref b] s = true) (hown : s.vm.findClass RL = some m.cls) (hX : va_X b 6 xs s s.heap) (hbl : b < s.heap.size) (hK : KB G s) (hV : VX s) (hZt : ZT (aA s) s s.heap) (hZ : ZD dz (aA s) s s.heap) {ad : Nat → Nat} {C : Nat → va_E} {H : Heap} {locs : List Loc} {ls : Array Slot} (hcam : Cam G 83 ad C 0 S0) (hmod : Mod G 83 ad C 74 dz (nI 0)) (glo : C 81 = la G 1 (fun _ => 0)) (hP : va_P G.1 vwB (wl 83 ad C) H) (hD : va_D (aA s) (wl 83 ad C)) (hS : va_S (aA s) s.heap H locs) (hl : lv_has ls 9 [(5, .int (nI 0)), (4, .ref (ad 82)), (3, .ref (ad 81)), (2, .ref (ad 74)), (1, .ref (ad 0)), (0, .ref b)]) (kt : ∀ (H : Heap) (locs : List Loc) (ls : Array Slot), va_S (aA s) s.heap H locs → lv_has ls 9 [(5, .int (nI 0)), (0, .ref b)] → W p l e room_1 s m #[Value.ref b] below meth c H locs 300 6500 Q (F0 m 1906 ls [])) (x y tx ty : Nat) (hx8 : x < 8) (hy8 : y < 8) (htx : tx < 8) (hty : ty < 8) (co : Int32) (h1 : x ≤ tx) (h : ty < y) (hx1 : xs 1 = nI x) (hx2 : xs 2 = nI y) (hx3 : xs 3 = nI tx) (hx4 : xs 4 = nI ty) (hx5 : xs 5 = co) : W p l e room_1 s m #[Value.ref b] below meth c H locs 83 1901 Q (F0 m 156 ls []) := by
  have hbA : ¬ aA s b := Nat.not_le.mpr hbl
  have hA : ∀ q : Nat, s.heap.size ≤ q → aA s q := fun _ h => h
  refine lv_aload_n hx hb dL_law_156 rfl (lv_at hl 4 rfl) ?_
  refine lv_aload_n hx hb dL_law_157 rfl (lv_at hl 5 rfl) ?_
  refine lv_iload hx hb dL_law_158 (lv_at hl 0 rfl) ?_
  refine lv_iconst (v := nI 1) hx hb dL_law_160 (by decide) ?_
  refine lv_iadd hx hb dL_law_161 ?_
  refine lv_asI (y := nI 1) (by decide) ?_
  refine va_sld hx hb hX hbl hbA hS (vp_in_nI (by decide) (by decide)) dL_law_162 ?_
  refine lv_asI (y := nI x) ((congrArg xs (nI_clamp (by decide))).trans hx1) ?_
  refine lv_aload_n hx hb dL_law_163 rfl (lv_at hl 5 rfl) ?_
  refine lv_iload hx hb dL_law_164 (lv_at hl 0 rfl) ?_
  refine lv_iconst (v := nI 2) hx hb dL_law_166 (by decide) ?_
  refine lv_iadd hx hb dL_law_167 ?_
  refine lv_asI (y := nI 2) (by decide) ?_
  refine va_sld hx hb hX hbl hbA hS (vp_in_nI (by decide) (by decide)) dL_law_168 ?_
  refine lv_asI (y := nI y) ((congrArg xs (nI_clamp (by decide))).trans hx2) ?_
  refine lv_aload_n hx hb dL_law_169 rfl (lv_at hl 5 rfl) ?_
  refine lv_iload hx hb dL_law_170 (lv_at hl 0 rfl) ?_
  refine lv_iconst (v := nI 3) hx hb dL_law_172 (by decide) ?_
  refine lv_iadd hx hb dL_law_173 ?_
  refine lv_asI (y := nI 3) (by decide) ?_
  refine va_sld hx hb hX hbl hbA hS (vp_in_nI (by decide) (by decide)) dL_law_174 ?_
  refine lv_asI (y := nI tx) ((congrArg xs (nI_clamp (by decide))).trans hx3) ?_
  refine lv_aload_n hx hb dL_law_175 rfl (lv_at hl 5 rfl) ?_
  refine lv_iload hx hb dL_law_176 (lv_at hl 0 rfl) ?_
  refine lv_iconst (v := nI 4) hx hb dL_law_178 (by decide) ?_
  refine lv_iadd hx hb dL_law_179 ?_
  refine lv_asI (y := nI 4) (by decide) ?_
  refine va_sld hx hb hX hbl hbA hS (vp_in_nI (by decide) (by decide)) dL_law_180 ?_
  refine lv_asI (y := nI ty) ((congrArg xs (nI_clamp (by decide))).trans hx4) ?_
  refine lv_aload_n hx hb dL_law_181 rfl (lv_at hl 5 rfl) ?_
  refine lv_iload hx hb dL_law_182 (lv_at hl 0 rfl) ?_
  refine lv_iconst (v := nI 5) hx hb dL_law_184 (by decide) ?_
  refine lv_iadd hx hb dL_law_185 ?_
  refine lv_asI (y := nI 5) (by decide) ?_
  refine va_sld hx hb hX hbl hbA hS (vp_in_nI (by decide) (by decide)) dL_law_186 ?_
  refine lv_asI (y := co) ((congrArg xs (nI_clamp (by decide))).trans hx5) ?_
  refine lv_aload_n hx hb dL_law_187 rfl (lv_at hl 2 rfl) ?_
  refine iwx_i (vx_runSX (hh := [(0, 16, 19, 13), (0, 16, 23, 15)]) (As := [.ref (ad 0), .int (nI x), .int (nI y), .int (nI tx), .int (nI ty), .int co, .ref (ad 81)]) (rest := []) ⟨hx, hb, hml, hown, hts⟩ (wL_paint_4 l hst G 83 ad _ 0 S0 hcam 81 x y tx ty hx8 hy8 htx hty co h1 h _) (vx_cwSW 7 hts gL_law_L_paint rfl rfl rfl (by decide +kernel) ⟨Nat.le_of_ble_eq_true rfl, Nat.le_of_ble_eq_true rfl⟩) (iPSX hK hV hZt hS hA hP hD [.ref (ad 0), .int (nI x), .int (nI y), .int (nI tx), .int (nI ty), .int co, .ref (ad 81)]) rfl rfl hl.1 rfl (lv_room (Nat.le_of_ble_eq_true rfl)) dL_law_188 ⟨Nat.le_of_ble_eq_true rfl, Nat.le_of_ble_eq_true rfl⟩) hD hS hA (fun r8 u8 H locs hw8 hP hD hS => ?_)
  obtain ⟨hr8, hu8⟩ := hw8
  rw [hu8] at hP hD
  refine lv_asI hr8 ?_
  refine lv_istore (lv' := [(6, .int (nI 2)), (5, .int (nI 0)), (4, .ref (ad 82)), (3, .ref (ad 81)), (2, .ref (ad 74)), (1, .ref (ad 0)), (0, .ref b)]) hx hb dL_law_191 hl (by decide) rfl (fun ls hl => ?_)
  refine lv_aload_n hx hb dL_law_193 rfl (lv_at hl 4 rfl) ?_
  refine lv_aload_n hx hb dL_law_194 rfl (lv_at hl 6 rfl) ?_
  refine lv_iload hx hb dL_law_195 (lv_at hl 1 rfl) ?_
  refine lv_iconst (v := nI 1) hx hb dL_law_197 (by decide) ?_
  refine lv_iadd hx hb dL_law_198 ?_
  refine lv_asI (y := nI 1) (by decide) ?_
  refine va_sld hx hb hX hbl hbA hS (vp_in_nI (by decide) (by decide)) dL_law_199 ?_
  refine lv_asI (y := nI x) ((congrArg xs (nI_clamp (by decide))).trans hx1) ?_
  refine lv_aload_n hx hb dL_law_200 rfl (lv_at hl 6 rfl) ?_
  refine lv_iload hx hb dL_law_201 (lv_at hl 1 rfl) ?_
  refine lv_iconst (v := nI 2) hx hb dL_law_203 (by decide) ?_
  refine lv_iadd hx hb dL_law_204 ?_
  refine lv_asI (y := nI 2) (by decide) ?_
  refine va_sld hx hb hX hbl hbA hS (vp_in_nI (by decide) (by decide)) dL_law_205 ?_
  refine lv_asI (y := nI y) ((congrArg xs (nI_clamp (by decide))).trans hx2) ?_
  refine lv_aload_n hx hb dL_law_206 rfl (lv_at hl 6 rfl) ?_
  refine lv_iload hx hb dL_law_207 (lv_at hl 1 rfl) ?_
  refine lv_iconst (v := nI 3) hx hb dL_law_209 (by decide) ?_
  refine lv_iadd hx hb dL_law_210 ?_
  refine lv_asI (y := nI 3) (by decide) ?_
  refine va_sld hx hb hX hbl hbA hS (vp_in_nI (by decide) (by decide)) dL_law_211 ?_
  refine lv_asI (y := nI tx) ((congrArg xs (nI_clamp (by decide))).trans hx3) ?_
  refine lv_aload_n hx hb dL_law_212 rfl (lv_at hl 6 rfl) ?_
  refine lv_iload hx hb dL_law_213 (lv_at hl 1 rfl) ?_
  refine lv_iconst (v := nI 4) hx hb dL_law_215 (by decide) ?_
  refine lv_iadd hx hb dL_law_216 ?_
  refine lv_asI (y := nI 4) (by decide) ?_
  refine va_sld hx hb hX hbl hbA hS (vp_in_nI (by decide) (by decide)) dL_law_217 ?_
  refine lv_asI (y := nI ty) ((congrArg xs (nI_clamp (by decide))).trans hx4) ?_
  refine lv_aload_n hx hb dL_law_218 rfl (lv_at hl 6 rfl) ?_
  refine lv_iload hx hb dL_law_219 (lv_at hl 1 rfl) ?_
  refine lv_iconst (v := nI 5) hx hb dL_law_221 (by decide) ?_
  refine lv_iadd hx hb dL_law_222 ?_
  refine lv_asI (y := nI 5) (by decide) ?_
  refine va_sld hx hb hX hbl hbA hS (vp_in_nI (by decide) (by decide)) dL_law_223 ?_
  refine lv_asI (y := co) ((congrArg xs (nI_clamp (by decide))).trans hx5) ?_
  refine iw_i (va_runV (As := [.int (nI x), .int (nI y), .int (nI tx), .int (nI ty), .int co]) (rest := []) ⟨hx, hb, hml, hown, hts⟩ (kX9_paint_4 l G 83 ad _ 74 dz (nI 0) hmod x y tx ty hx8 hy8 htx hty co h1 h _) (cwV 5 hts gL_law_X9_paint rfl rfl rfl (by decide +kernel) ⟨Nat.le_of_ble_eq_true rfl, Nat.le_of_ble_eq_true rfl⟩) (iPV hK hP hD (by decide) (hmod.2.1) rfl [.int (nI x), .int (nI y), .int (nI tx), .int (nI ty), .int co]) rfl rfl hl.1 rfl (lv_room (Nat.le_of_ble_eq_true rfl)) dL_law_224 ⟨Nat.le_of_ble_eq_true rfl, Nat.le_of_ble_eq_true rfl⟩) hD hS hA (fun r9 u9 H locs hw9 hP hD hS => ?_)
  obtain ⟨hr9, ⟨d9, ht9⟩, hm9⟩ := hw9
  refine lv_asI (y := nI 0) hr9 ?_
  refine lv_istore (lv' := [(7, .int (nI 0)), (6, .int (nI 2)), (5, .int (nI 0)), (4, .ref (ad 82)), (3, .ref (ad 81)), (2, .ref (ad 74)), (1, .ref (ad 0)), (0, .ref b)]) hx hb dL_law_227 hl (by decide) rfl (fun ls hl => ?_)
  refine lv_aload_n hx hb dL_law_229 rfl (lv_at hl 5 rfl) ?_
  refine iw_i (va_runV (As := []) (rest := []) ⟨hx, hb, hml, hown, hts⟩ (kX9_thrown l G 83 ad _ 74 (by decide) (nI 2) d9 ht9 _) (cwV 0 hts gL_law_X9_thrown rfl rfl rfl (by decide +kernel) ⟨Nat.le_of_ble_eq_true rfl, Nat.le_of_ble_eq_true rfl⟩) (iPV hK hP hD (by decide) (ht9) rfl []) rfl rfl hl.1 rfl (lv_room (Nat.le_of_ble_eq_true rfl)) dL_law_230 ⟨Nat.le_of_ble_eq_true rfl, Nat.le_of_ble_eq_true rfl⟩) hD hS hA (fun r7 u7 H locs hw7 hP hD hS => ?_)
  obtain ⟨hr7, hu7⟩ := hw7
  rw [hu7] at hP hD
  refine lv_asI hr7 ?_
  refine lv_iload hx hb dL_law_233 (lv_at hl 1 rfl) ?_
  refine lv_icmp_eq (tgt := 240) hx hb dL_law_235 (by decide) (fun _ => ?_) (fun c9 => absurd (by decide) c9)
  refine lv_iload hx hb dL_law_240 (lv_at hl 1 rfl) ?_
  refine lv_if_ne (tgt := 257) hx hb dL_law_242 (by decide) (fun _ => ?_) (fun c9 => absurd c9 (by decide))
  refine lv_goto (tgt := 1906) hx hb dL_law_257 (by decide) ?_
  refine W.widen (k := 300) (n := 6500) (Nat.le_of_ble_eq_true rfl) (Nat.le_of_ble_eq_true rfl) ?_
  exact kt H locs ls hS (lv_sub hl [2, 7] rfl)
