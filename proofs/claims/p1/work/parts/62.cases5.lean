set_option maxRecDepth 20000 in
theorem ggL_law_L_many : GoodIn wsL_law wsL_many := goodIn_ca (goodIn_r _ [800, 116, 801, 802, 803, 2, 804, 26, 27, 21, 132, 133, 134, 121, 122, 216, 217, 218, 20, 219, 52, 805, 806, 807, 808, 23, 425, 426, 427, 60, 428, 70, 809, 810, 811, 812, 50, 912, 913, 914, 915, 916, 917, 918, 919, 920, 932, 933, 934, 935, 936, 937, 938, 939, 945, 946, 947] (by decide +kernel) (by decide +kernel)) (goodIn_sub (fun _ h => List.mem_append_left _ (List.mem_append_left _ (List.mem_append_right _ h))) (by decide +kernel))
set_option maxRecDepth 20000 in
theorem gL_law_L_many : GoodIn wsL_law (va_wsS RL 164 yL_many wsL_many) := goodIn_app (goodIn_of _ (by decide +kernel)) ggL_law_L_many
set_option maxRecDepth 20000 in
theorem ggL_law_X9_many : GoodIn wsL_law wsX9_many := goodIn_r _ [816, 146, 152, 153, 5, 154, 155, 156, 157, 158, 817, 818, 819, 820, 94, 386, 437, 89, 90, 42, 95, 286, 277, 278, 279, 93, 280, 281, 392, 393, 394, 395, 396, 397, 398, 399, 400, 401, 402, 403, 404, 405, 406, 407, 100, 224, 225, 226, 227, 921, 922, 923, 924, 925, 926, 927, 928, 951, 952, 953, 954, 955, 948, 949, 950] (by decide +kernel) (by decide +kernel)
set_option maxRecDepth 20000 in
theorem gL_law_X9_many : GoodIn wsL_law (wsV RL 166 RX9 yX9_many wsX9_many) := goodIn_app (goodIn_of _ (by decide +kernel)) ggL_law_X9_many
set_option maxRecDepth 20000 in
theorem ggL_law_L_bestTake : GoodIn wsL_law wsL_bestTake := goodIn_ca (goodIn_r _ [856, 116, 857, 858, 859, 2, 860, 21, 17, 30, 132, 133, 134, 121, 122, 244, 245, 246, 20, 247, 53, 50, 136, 137, 248, 249, 250, 251, 252, 16, 253, 45, 254, 255, 256, 257, 258, 43, 259, 260, 261, 262, 263, 264, 265, 266, 267, 268, 749, 750, 751, 29, 752, 753, 754, 729, 730, 731, 57, 732, 912, 913, 914, 915, 916, 917, 918, 919, 920, 932, 933, 934, 935, 936, 937, 938, 939, 929, 930, 931] (by decide +kernel) (by decide +kernel)) (goodIn_sub (fun _ h => List.mem_append_left _ (List.mem_append_left _ (List.mem_append_right _ h))) (by decide +kernel))
set_option maxRecDepth 20000 in
theorem gL_law_L_bestTake : GoodIn wsL_law (va_wsS RL 173 yL_bestTake wsL_bestTake) := goodIn_app (goodIn_of _ (by decide +kernel)) ggL_law_L_bestTake
set_option maxRecDepth 20000 in
theorem ggL_law_X9_bestTake : GoodIn wsL_law wsX9_bestTake := goodIn_r _ [864, 146, 152, 153, 5, 154, 155, 156, 157, 158, 282, 283, 284, 285, 42, 286, 87, 88, 287, 288, 289, 263, 264, 265, 89, 290, 267, 268, 291, 292, 293, 294, 295, 296, 297, 298, 299, 300, 12, 13, 301, 92, 93, 302, 303, 304, 305, 306, 97, 98, 99, 100, 101, 102, 103, 104, 105, 106, 107, 108, 109, 110, 759, 760, 761, 762, 763, 764, 738, 739, 740, 741, 865, 866, 622, 867, 868, 869, 870, 871, 872, 873, 874, 875, 921, 922, 923, 924, 925, 926, 927, 928, 951, 952, 953, 954, 955, 948, 949, 950] (by decide +kernel) (by decide +kernel)
set_option maxRecDepth 20000 in
theorem gL_law_X9_bestTake : GoodIn wsL_law (wsV RL 175 RX9 yX9_bestTake wsX9_bestTake) := goodIn_app (goodIn_of _ (by decide +kernel)) ggL_law_X9_bestTake
set_option maxHeartbeats 4000000 in
set_option maxRecDepth 100000 in
theorem lc_ofPlace_v {p : Program} {l : Launch} {e : Env} {s : State} {m : MethodId} {below : List Frame} {meth : Method} {c : Code} {b dz : Nat} {xs : Nat → Int32} {G : iG} {Q : State → Prop} (hst : l.stackTraces = false) (hx : p.tables.exec = Jvm.exec) (hb : c.code = cL_law) (hml : c.maxLocals = 9) (hts : ∀ w ∈ wsL_law, w.before #[Value.ref b] s = true) (hown : s.vm.findClass RL = some m.cls) (hX : va_X b 6 xs s s.heap) (hbl : b < s.heap.size) (hK : KB G s) (hV : VX s) (hZt : ZT (aA s) s s.heap) (hZ : ZD dz (aA s) s s.heap) {ad : Nat → Nat} {C : Nat → va_E} {H : Heap} {locs : List Loc} {ls : Array Slot} (hcam : Cam G 83 ad C 0 S0) (hmod : Mod G 83 ad C 74 dz (nI 0)) (glo : C 81 = la G 1 (fun _ => 0)) (hP : va_P G.1 vwB (wl 83 ad C) H) (hD : va_D (aA s) (wl 83 ad C)) (hS : va_S (aA s) s.heap H locs) (hl : lv_has ls 9 [(5, .int (nI 0)), (4, .ref (ad 82)), (3, .ref (ad 81)), (2, .ref (ad 74)), (1, .ref (ad 0)), (0, .ref b)]) (kt : ∀ (H : Heap) (locs : List Loc) (ls : Array Slot), va_S (aA s) s.heap H locs → lv_has ls 9 [(5, .int (nI 0)), (0, .ref b)] → W p l e room_1 s m #[Value.ref b] below meth c H locs 300 6500 Q (F0 m 1906 ls [])) (x y : Nat) (hx8 : x < 8) (hy8 : y < 8) (w : Nat) (hw6 : w < 6) (hx1 : xs 1 = nI x) (hx2 : xs 2 = nI y) (hx3 : xs 3 = nI w) : W p l e room_1 s m #[Value.ref b] below meth c H locs 83 1901 Q (F0 m 1475 ls []) := by
  have hbA : ¬ aA s b := Nat.not_le.mpr hbl
  have hA : ∀ q : Nat, s.heap.size ≤ q → aA s q := fun _ h => h
  refine lv_aload_n hx hb dL_law_1475 rfl (lv_at hl 4 rfl) ?_
  refine lv_aload_n hx hb dL_law_1476 rfl (lv_at hl 5 rfl) ?_
  refine lv_iload hx hb dL_law_1477 (lv_at hl 0 rfl) ?_
  refine lv_iconst (v := nI 1) hx hb dL_law_1479 (by decide) ?_
  refine lv_iadd hx hb dL_law_1480 ?_
  refine lv_asI (y := nI 1) (by decide) ?_
  refine va_sld hx hb hX hbl hbA hS (vp_in_nI (by decide) (by decide)) dL_law_1481 ?_
  refine lv_asI (y := nI x) ((congrArg xs (nI_clamp (by decide))).trans hx1) ?_
  refine lv_aload_n hx hb dL_law_1482 rfl (lv_at hl 5 rfl) ?_
  refine lv_iload hx hb dL_law_1483 (lv_at hl 0 rfl) ?_
  refine lv_iconst (v := nI 2) hx hb dL_law_1485 (by decide) ?_
  refine lv_iadd hx hb dL_law_1486 ?_
  refine lv_asI (y := nI 2) (by decide) ?_
  refine va_sld hx hb hX hbl hbA hS (vp_in_nI (by decide) (by decide)) dL_law_1487 ?_
  refine lv_asI (y := nI y) ((congrArg xs (nI_clamp (by decide))).trans hx2) ?_
  refine lv_aload_n hx hb dL_law_1488 rfl (lv_at hl 5 rfl) ?_
  refine lv_iload hx hb dL_law_1489 (lv_at hl 0 rfl) ?_
  refine lv_iconst (v := nI 3) hx hb dL_law_1491 (by decide) ?_
  refine lv_iadd hx hb dL_law_1492 ?_
  refine lv_asI (y := nI 3) (by decide) ?_
  refine va_sld hx hb hX hbl hbA hS (vp_in_nI (by decide) (by decide)) dL_law_1493 ?_
  refine lv_asI (y := nI w) ((congrArg xs (nI_clamp (by decide))).trans hx3) ?_
  refine lv_aload_n hx hb dL_law_1494 rfl (lv_at hl 2 rfl) ?_
  refine iwx_i (vx_runSX (hh := [(0, 12, 15, 13), (0, 12, 19, 15)]) (As := [.ref (ad 0), .int (nI x), .int (nI y), .int (nI w), .ref (ad 81)]) (rest := []) ⟨hx, hb, hml, hown, hts⟩ (wL_ofPlace l G 83 ad _ 0 S0 hcam 81 (by decide) (Or.inr (by decide)) _ glo x y hx8 hy8 w hw6 _) (vx_cwSW 5 hts gL_law_L_ofPlace rfl rfl rfl (by decide +kernel) ⟨Nat.le_of_ble_eq_true rfl, Nat.le_of_ble_eq_true rfl⟩) (iPSX hK hV hZt hS hA hP hD [.ref (ad 0), .int (nI x), .int (nI y), .int (nI w), .ref (ad 81)]) rfl rfl hl.1 rfl (lv_room (Nat.le_of_ble_eq_true rfl)) dL_law_1495 ⟨Nat.le_of_ble_eq_true rfl, Nat.le_of_ble_eq_true rfl⟩) hD hS hA (fun r8 u8 H locs hw8 hP hD hS => ?_)
  obtain ⟨hr8, ⟨f8, hf8, hv8⟩, hs8⟩ := hw8
  refine lv_asI hr8 ?_
  have hmod := Mod_same hmod (fun i h1 h2 => hs8 i (Or.inr (by omega)) (by omega))
  refine lv_istore (lv' := [(6, .int (nI 0)), (5, .int (nI 0)), (4, .ref (ad 82)), (3, .ref (ad 81)), (2, .ref (ad 74)), (1, .ref (ad 0)), (0, .ref b)]) hx hb dL_law_1498 hl (by decide) rfl (fun ls hl => ?_)
  refine lv_aload_n hx hb dL_law_1500 rfl (lv_at hl 4 rfl) ?_
  refine lv_aload_n hx hb dL_law_1501 rfl (lv_at hl 6 rfl) ?_
  refine lv_iload hx hb dL_law_1502 (lv_at hl 1 rfl) ?_
  refine lv_iconst (v := nI 1) hx hb dL_law_1504 (by decide) ?_
  refine lv_iadd hx hb dL_law_1505 ?_
  refine lv_asI (y := nI 1) (by decide) ?_
  refine va_sld hx hb hX hbl hbA hS (vp_in_nI (by decide) (by decide)) dL_law_1506 ?_
  refine lv_asI (y := nI x) ((congrArg xs (nI_clamp (by decide))).trans hx1) ?_
  refine lv_aload_n hx hb dL_law_1507 rfl (lv_at hl 6 rfl) ?_
  refine lv_iload hx hb dL_law_1508 (lv_at hl 1 rfl) ?_
  refine lv_iconst (v := nI 2) hx hb dL_law_1510 (by decide) ?_
  refine lv_iadd hx hb dL_law_1511 ?_
  refine lv_asI (y := nI 2) (by decide) ?_
  refine va_sld hx hb hX hbl hbA hS (vp_in_nI (by decide) (by decide)) dL_law_1512 ?_
  refine lv_asI (y := nI y) ((congrArg xs (nI_clamp (by decide))).trans hx2) ?_
  refine lv_aload_n hx hb dL_law_1513 rfl (lv_at hl 6 rfl) ?_
  refine lv_iload hx hb dL_law_1514 (lv_at hl 1 rfl) ?_
  refine lv_iconst (v := nI 3) hx hb dL_law_1516 (by decide) ?_
  refine lv_iadd hx hb dL_law_1517 ?_
  refine lv_asI (y := nI 3) (by decide) ?_
  refine va_sld hx hb hX hbl hbA hS (vp_in_nI (by decide) (by decide)) dL_law_1518 ?_
  refine lv_asI (y := nI w) ((congrArg xs (nI_clamp (by decide))).trans hx3) ?_
  refine iwq_i (va_runV (As := [.int (nI x), .int (nI y), .int (nI w)]) (rest := []) ⟨hx, hb, hml, hown, hts⟩ (kX9_ofPlace l G 83 ad _ 74 dz (nI 0) hmod x y hx8 hy8 w hw6 _) (cwV 3 hts gL_law_X9_ofPlace rfl rfl rfl (by decide +kernel) ⟨Nat.le_of_ble_eq_true rfl, Nat.le_of_ble_eq_true rfl⟩) (iPVZ hK hV hZ hS hA hP hD (by decide) (hmod.2.1) rfl [.int (nI x), .int (nI y), .int (nI w)]) rfl rfl hl.1 rfl (lv_room (Nat.le_of_ble_eq_true rfl)) dL_law_1519 ⟨Nat.le_of_ble_eq_true rfl, Nat.le_of_ble_eq_true rfl⟩) (by decide) (by decide) hD hS hA (fun r9 u9 H locs hw9 hP hD hS => ?_)
  obtain ⟨hr9, ⟨d9, ht9⟩, hm9⟩ := hw9
  refine lv_asI (y := ofP S0 x y w) hr9 ?_
  refine lv_istore (lv' := [(7, .int (ofP S0 x y w)), (6, .int (nI 0)), (5, .int (nI 0)), (4, .ref (ad 82)), (3, .ref (ad 81)), (2, .ref (ad 74)), (1, .ref (ad 0)), (0, .ref b)]) hx hb dL_law_1522 hl (by decide) rfl (fun ls hl => ?_)
  refine lv_aload_n hx hb dL_law_1524 rfl (lv_at hl 5 rfl) ?_
  refine iw_i (va_runV (As := []) (rest := []) ⟨hx, hb, hml, hown, hts⟩ (kX9_thrown l G 83 ad _ 74 (by decide) (nI 0) d9 ht9 _) (cwV 0 hts gL_law_X9_thrown rfl rfl rfl (by decide +kernel) ⟨Nat.le_of_ble_eq_true rfl, Nat.le_of_ble_eq_true rfl⟩) (iPV hK hP hD (by decide) (ht9) rfl []) rfl rfl hl.1 rfl (lv_room (Nat.le_of_ble_eq_true rfl)) dL_law_1525 ⟨Nat.le_of_ble_eq_true rfl, Nat.le_of_ble_eq_true rfl⟩) hD hS hA (fun r7 u7 H locs hw7 hP hD hS => ?_)
  obtain ⟨hr7, hu7⟩ := hw7
  rw [hu7] at hP hD
  refine lv_asI hr7 ?_
  refine lv_iload hx hb dL_law_1528 (lv_at hl 1 rfl) ?_
  refine lv_icmp_eq (tgt := 1535) hx hb dL_law_1530 (by decide) (fun _ => ?_) (fun c9 => absurd (by decide) c9)
  refine lv_iload hx hb dL_law_1535 (lv_at hl 1 rfl) ?_
  refine lv_if_ne (tgt := 1552) hx hb dL_law_1537 (by decide) (fun c9 => absurd (by decide) c9) (fun _ => ?_)
  refine lv_aload_n hx hb dL_law_1540 rfl (lv_at hl 4 rfl) ?_
  refine lv_iconst (v := nI 0) hx hb dL_law_1541 (by decide) ?_
  refine iw_lald (v := ((ofP S0 x y w)).toInt64) hx hb hK hP (by decide) (((hm9 81 (by decide) (Or.inr (by decide))).trans hf8)) (vp_in_nI (show 0 < 1 by omega) (by omega)) ((congrArg f8 (nI_clamp (by decide))).trans hv8) dL_law_1542 ?_
  refine lv_iload hx hb dL_law_1543 (lv_at hl 0 rfl) ?_
  refine lv_i2l (v := (ofP S0 x y w).toInt64) hx hb dL_law_1545 rfl ?_
  refine lv_lcmpE hx hb dL_law_1546 ?_
  refine lv_if_eq (tgt := 1552) hx hb dL_law_1547 (by decide) (fun _ => ?_) (fun c9 => absurd (by decide) c9)
  refine lv_goto (tgt := 1906) hx hb dL_law_1552 (by decide) ?_
  refine W.widen (k := 300) (n := 6500) (Nat.le_of_ble_eq_true rfl) (Nat.le_of_ble_eq_true rfl) ?_
  exact kt H locs ls hS (lv_sub hl [2, 7] rfl)
set_option maxHeartbeats 4000000 in
set_option maxRecDepth 100000 in
theorem lc_many_1 {p : Program} {l : Launch} {e : Env} {s : State} {m : MethodId} {below : List Frame} {meth : Method} {c : Code} {b dz : Nat} {xs : Nat → Int32} {G : iG} {Q : State → Prop} (hst : l.stackTraces = false) (hx : p.tables.exec = Jvm.exec) (hb : c.code = cL_law) (hml : c.maxLocals = 9) (hts : ∀ w ∈ wsL_law, w.before #[Value.ref b] s = true) (hown : s.vm.findClass RL = some m.cls) (hX : va_X b 6 xs s s.heap) (hbl : b < s.heap.size) (hK : KB G s) (hV : VX s) (hZt : ZT (aA s) s s.heap) (hZ : ZD dz (aA s) s s.heap) {ad : Nat → Nat} {C : Nat → va_E} {H : Heap} {locs : List Loc} {ls : Array Slot} (hcam : Cam G 83 ad C 0 S0) (hmod : Mod G 83 ad C 74 dz (nI 0)) (glo : C 81 = la G 1 (fun _ => 0)) (hP : va_P G.1 vwB (wl 83 ad C) H) (hD : va_D (aA s) (wl 83 ad C)) (hS : va_S (aA s) s.heap H locs) (hl : lv_has ls 9 [(5, .int (nI 0)), (4, .ref (ad 82)), (3, .ref (ad 81)), (2, .ref (ad 74)), (1, .ref (ad 0)), (0, .ref b)]) (kt : ∀ (H : Heap) (locs : List Loc) (ls : Array Slot), va_S (aA s) s.heap H locs → lv_has ls 9 [(5, .int (nI 0)), (0, .ref b)] → W p l e room_1 s m #[Value.ref b] below meth c H locs 300 6500 Q (F0 m 1906 ls [])) (v : Int32) (h : v < nI 0 ∨ nI 6 < v) (hx1 : xs 1 = v) : W p l e room_1 s m #[Value.ref b] below meth c H locs 83 1901 Q (F0 m 1555 ls []) := by
  have hbA : ¬ aA s b := Nat.not_le.mpr hbl
  have hA : ∀ q : Nat, s.heap.size ≤ q → aA s q := fun _ h => h
  refine lv_aload_n hx hb dL_law_1555 rfl (lv_at hl 4 rfl) ?_
  refine lv_aload_n hx hb dL_law_1556 rfl (lv_at hl 5 rfl) ?_
  refine lv_iload hx hb dL_law_1557 (lv_at hl 0 rfl) ?_
  refine lv_iconst (v := nI 1) hx hb dL_law_1559 (by decide) ?_
  refine lv_iadd hx hb dL_law_1560 ?_
  refine lv_asI (y := nI 1) (by decide) ?_
  refine va_sld hx hb hX hbl hbA hS (vp_in_nI (by decide) (by decide)) dL_law_1561 ?_
  refine lv_asI (y := v) ((congrArg xs (nI_clamp (by decide))).trans hx1) ?_
  refine lv_aload_n hx hb dL_law_1562 rfl (lv_at hl 2 rfl) ?_
  refine iwx_i (vx_runSX (hh := [(0, 9, 12, 15)]) (As := [.ref (ad 0), .int v, .ref (ad 81)]) (rest := []) ⟨hx, hb, hml, hown, hts⟩ (wL_many_1 l hst G 83 ad _ 0 S0 hcam 81 v h _) (vx_cwSW 3 hts gL_law_L_many rfl rfl rfl (by decide +kernel) ⟨Nat.le_of_ble_eq_true rfl, Nat.le_of_ble_eq_true rfl⟩) (iPSX hK hV hZt hS hA hP hD [.ref (ad 0), .int v, .ref (ad 81)]) rfl rfl hl.1 rfl (lv_room (Nat.le_of_ble_eq_true rfl)) dL_law_1563 ⟨Nat.le_of_ble_eq_true rfl, Nat.le_of_ble_eq_true rfl⟩) hD hS hA (fun r8 u8 H locs hw8 hP hD hS => ?_)
  obtain ⟨hr8, hu8⟩ := hw8
  rw [hu8] at hP hD
  refine lv_asI hr8 ?_
  refine lv_istore (lv' := [(6, .int (nI 1)), (5, .int (nI 0)), (4, .ref (ad 82)), (3, .ref (ad 81)), (2, .ref (ad 74)), (1, .ref (ad 0)), (0, .ref b)]) hx hb dL_law_1566 hl (by decide) rfl (fun ls hl => ?_)
  refine lv_aload_n hx hb dL_law_1568 rfl (lv_at hl 4 rfl) ?_
  refine lv_aload_n hx hb dL_law_1569 rfl (lv_at hl 6 rfl) ?_
  refine lv_iload hx hb dL_law_1570 (lv_at hl 1 rfl) ?_
  refine lv_iconst (v := nI 1) hx hb dL_law_1572 (by decide) ?_
  refine lv_iadd hx hb dL_law_1573 ?_
  refine lv_asI (y := nI 1) (by decide) ?_
  refine va_sld hx hb hX hbl hbA hS (vp_in_nI (by decide) (by decide)) dL_law_1574 ?_
  refine lv_asI (y := v) ((congrArg xs (nI_clamp (by decide))).trans hx1) ?_
  refine iw_i (va_runV (As := [.int v]) (rest := []) ⟨hx, hb, hml, hown, hts⟩ (kX9_many_1 l G 83 ad _ 74 dz (nI 0) hmod v h _) (cwV 1 hts gL_law_X9_many rfl rfl rfl (by decide +kernel) ⟨Nat.le_of_ble_eq_true rfl, Nat.le_of_ble_eq_true rfl⟩) (iPV hK hP hD (by decide) (hmod.2.1) rfl [.int v]) rfl rfl hl.1 rfl (lv_room (Nat.le_of_ble_eq_true rfl)) dL_law_1575 ⟨Nat.le_of_ble_eq_true rfl, Nat.le_of_ble_eq_true rfl⟩) hD hS hA (fun r9 u9 H locs hw9 hP hD hS => ?_)
  obtain ⟨hr9, ⟨d9, ht9⟩, hm9⟩ := hw9
  refine lv_asI (y := nI 0) hr9 ?_
  refine lv_istore (lv' := [(7, .int (nI 0)), (6, .int (nI 1)), (5, .int (nI 0)), (4, .ref (ad 82)), (3, .ref (ad 81)), (2, .ref (ad 74)), (1, .ref (ad 0)), (0, .ref b)]) hx hb dL_law_1578 hl (by decide) rfl (fun ls hl => ?_)
  refine lv_aload_n hx hb dL_law_1580 rfl (lv_at hl 5 rfl) ?_
  refine iw_i (va_runV (As := []) (rest := []) ⟨hx, hb, hml, hown, hts⟩ (kX9_thrown l G 83 ad _ 74 (by decide) (nI 1) d9 ht9 _) (cwV 0 hts gL_law_X9_thrown rfl rfl rfl (by decide +kernel) ⟨Nat.le_of_ble_eq_true rfl, Nat.le_of_ble_eq_true rfl⟩) (iPV hK hP hD (by decide) (ht9) rfl []) rfl rfl hl.1 rfl (lv_room (Nat.le_of_ble_eq_true rfl)) dL_law_1581 ⟨Nat.le_of_ble_eq_true rfl, Nat.le_of_ble_eq_true rfl⟩) hD hS hA (fun r7 u7 H locs hw7 hP hD hS => ?_)
  obtain ⟨hr7, hu7⟩ := hw7
  rw [hu7] at hP hD
  refine lv_asI hr7 ?_
  refine lv_iload hx hb dL_law_1584 (lv_at hl 1 rfl) ?_
  refine lv_icmp_eq (tgt := 1591) hx hb dL_law_1586 (by decide) (fun _ => ?_) (fun c9 => absurd (by decide) c9)
  refine lv_iload hx hb dL_law_1591 (lv_at hl 1 rfl) ?_
  refine lv_if_ne (tgt := 1608) hx hb dL_law_1593 (by decide) (fun _ => ?_) (fun c9 => absurd c9 (by decide))
  refine lv_goto (tgt := 1906) hx hb dL_law_1608 (by decide) ?_
  refine W.widen (k := 300) (n := 6500) (Nat.le_of_ble_eq_true rfl) (Nat.le_of_ble_eq_true rfl) ?_
  exact kt H locs ls hS (lv_sub hl [2, 7] rfl)
set_option maxHeartbeats 4000000 in
set_option maxRecDepth 100000 in
theorem lc_many_v {p : Program} {l : Launch} {e : Env} {s : State} {m : MethodId} {below : List Frame} {meth : Method} {c : Code} {b dz : Nat} {xs : Nat → Int32} {G : iG} {Q : State → Prop} (hst : l.stackTraces = false) (hx : p.tables.exec = Jvm.exec) (hb : c.code = cL_law) (hml : c.maxLocals = 9) (hts : ∀ w ∈ wsL_law, w.before #[Value.ref b] s = true) (hown : s.vm.findClass RL = some m.cls) (hX : va_X b 6 xs s s.heap) (hbl : b < s.heap.size) (hK : KB G s) (hV : VX s) (hZt : ZT (aA s) s s.heap) (hZ : ZD dz (aA s) s s.heap) {ad : Nat → Nat} {C : Nat → va_E} {H : Heap} {locs : List Loc} {ls : Array Slot} (hcam : Cam G 83 ad C 0 S0) (hmod : Mod G 83 ad C 74 dz (nI 0)) (glo : C 81 = la G 1 (fun _ => 0)) (hP : va_P G.1 vwB (wl 83 ad C) H) (hD : va_D (aA s) (wl 83 ad C)) (hS : va_S (aA s) s.heap H locs) (hl : lv_has ls 9 [(5, .int (nI 0)), (4, .ref (ad 82)), (3, .ref (ad 81)), (2, .ref (ad 74)), (1, .ref (ad 0)), (0, .ref b)]) (kt : ∀ (H : Heap) (locs : List Loc) (ls : Array Slot), va_S (aA s) s.heap H locs → lv_has ls 9 [(5, .int (nI 0)), (0, .ref b)] → W p l e room_1 s m #[Value.ref b] below meth c H locs 300 6500 Q (F0 m 1906 ls [])) (w : Nat) (hw7 : w < 7) (hx1 : xs 1 = nI w) : W p l e room_1 s m #[Value.ref b] below meth c H locs 83 1901 Q (F0 m 1555 ls []) := by
  have hbA : ¬ aA s b := Nat.not_le.mpr hbl
  have hA : ∀ q : Nat, s.heap.size ≤ q → aA s q := fun _ h => h
  refine lv_aload_n hx hb dL_law_1555 rfl (lv_at hl 4 rfl) ?_
  refine lv_aload_n hx hb dL_law_1556 rfl (lv_at hl 5 rfl) ?_
  refine lv_iload hx hb dL_law_1557 (lv_at hl 0 rfl) ?_
  refine lv_iconst (v := nI 1) hx hb dL_law_1559 (by decide) ?_
  refine lv_iadd hx hb dL_law_1560 ?_
  refine lv_asI (y := nI 1) (by decide) ?_
  refine va_sld hx hb hX hbl hbA hS (vp_in_nI (by decide) (by decide)) dL_law_1561 ?_
  refine lv_asI (y := nI w) ((congrArg xs (nI_clamp (by decide))).trans hx1) ?_
  refine lv_aload_n hx hb dL_law_1562 rfl (lv_at hl 2 rfl) ?_
  refine iwx_i (vx_runSX (hh := [(0, 9, 12, 15)]) (As := [.ref (ad 0), .int (nI w), .ref (ad 81)]) (rest := []) ⟨hx, hb, hml, hown, hts⟩ (wL_many l G 83 ad _ 0 S0 hcam 81 (by decide) (Or.inr (by decide)) _ glo rfl w hw7 _) (vx_cwSW 3 hts gL_law_L_many rfl rfl rfl (by decide +kernel) ⟨Nat.le_of_ble_eq_true rfl, Nat.le_of_ble_eq_true rfl⟩) (iPSX hK hV hZt hS hA hP hD [.ref (ad 0), .int (nI w), .ref (ad 81)]) rfl rfl hl.1 rfl (lv_room (Nat.le_of_ble_eq_true rfl)) dL_law_1563 ⟨Nat.le_of_ble_eq_true rfl, Nat.le_of_ble_eq_true rfl⟩) hD hS hA (fun r8 u8 H locs hw8 hP hD hS => ?_)
  obtain ⟨hr8, ⟨f8, hf8, hv8⟩, hs8⟩ := hw8
  refine lv_asI hr8 ?_
  have hmod := Mod_same hmod (fun i h1 h2 => hs8 i (Or.inr (by omega)) (by omega))
  refine lv_istore (lv' := [(6, .int (nI 0)), (5, .int (nI 0)), (4, .ref (ad 82)), (3, .ref (ad 81)), (2, .ref (ad 74)), (1, .ref (ad 0)), (0, .ref b)]) hx hb dL_law_1566 hl (by decide) rfl (fun ls hl => ?_)
  refine lv_aload_n hx hb dL_law_1568 rfl (lv_at hl 4 rfl) ?_
  refine lv_aload_n hx hb dL_law_1569 rfl (lv_at hl 6 rfl) ?_
  refine lv_iload hx hb dL_law_1570 (lv_at hl 1 rfl) ?_
  refine lv_iconst (v := nI 1) hx hb dL_law_1572 (by decide) ?_
  refine lv_iadd hx hb dL_law_1573 ?_
  refine lv_asI (y := nI 1) (by decide) ?_
  refine va_sld hx hb hX hbl hbA hS (vp_in_nI (by decide) (by decide)) dL_law_1574 ?_
  refine lv_asI (y := nI w) ((congrArg xs (nI_clamp (by decide))).trans hx1) ?_
  refine iwq_i (va_runV (As := [.int (nI w)]) (rest := []) ⟨hx, hb, hml, hown, hts⟩ (kX9_many l G 83 ad _ 74 dz (nI 0) hmod w hw7 _) (cwV 1 hts gL_law_X9_many rfl rfl rfl (by decide +kernel) ⟨Nat.le_of_ble_eq_true rfl, Nat.le_of_ble_eq_true rfl⟩) (iPVZ hK hV hZ hS hA hP hD (by decide) (hmod.2.1) rfl [.int (nI w)]) rfl rfl hl.1 rfl (lv_room (Nat.le_of_ble_eq_true rfl)) dL_law_1575 ⟨Nat.le_of_ble_eq_true rfl, Nat.le_of_ble_eq_true rfl⟩) (by decide) (by decide) hD hS hA (fun r9 u9 H locs hw9 hP hD hS => ?_)
  obtain ⟨hr9, ⟨d9, ht9⟩, hm9⟩ := hw9
  refine lv_asI (y := maI S0 w) (hr9.trans ((maI0 w hw7).symm)) ?_
  refine lv_istore (lv' := [(7, .int (maI S0 w)), (6, .int (nI 0)), (5, .int (nI 0)), (4, .ref (ad 82)), (3, .ref (ad 81)), (2, .ref (ad 74)), (1, .ref (ad 0)), (0, .ref b)]) hx hb dL_law_1578 hl (by decide) rfl (fun ls hl => ?_)
  refine lv_aload_n hx hb dL_law_1580 rfl (lv_at hl 5 rfl) ?_
  refine iw_i (va_runV (As := []) (rest := []) ⟨hx, hb, hml, hown, hts⟩ (kX9_thrown l G 83 ad _ 74 (by decide) (nI 0) d9 ht9 _) (cwV 0 hts gL_law_X9_thrown rfl rfl rfl (by decide +kernel) ⟨Nat.le_of_ble_eq_true rfl, Nat.le_of_ble_eq_true rfl⟩) (iPV hK hP hD (by decide) (ht9) rfl []) rfl rfl hl.1 rfl (lv_room (Nat.le_of_ble_eq_true rfl)) dL_law_1581 ⟨Nat.le_of_ble_eq_true rfl, Nat.le_of_ble_eq_true rfl⟩) hD hS hA (fun r7 u7 H locs hw7 hP hD hS => ?_)
  obtain ⟨hr7, hu7⟩ := hw7
  rw [hu7] at hP hD
  refine lv_asI hr7 ?_
  refine lv_iload hx hb dL_law_1584 (lv_at hl 1 rfl) ?_
  refine lv_icmp_eq (tgt := 1591) hx hb dL_law_1586 (by decide) (fun _ => ?_) (fun c9 => absurd (by decide) c9)
  refine lv_iload hx hb dL_law_1591 (lv_at hl 1 rfl) ?_
  refine lv_if_ne (tgt := 1608) hx hb dL_law_1593 (by decide) (fun c9 => absurd (by decide) c9) (fun _ => ?_)
  refine lv_aload_n hx hb dL_law_1596 rfl (lv_at hl 4 rfl) ?_
  refine lv_iconst (v := nI 0) hx hb dL_law_1597 (by decide) ?_
  refine iw_lald (v := ((maI S0 w)).toInt64) hx hb hK hP (by decide) (((hm9 81 (by decide) (Or.inr (by decide))).trans hf8)) (vp_in_nI (show 0 < 1 by omega) (by omega)) ((congrArg f8 (nI_clamp (by decide))).trans hv8) dL_law_1598 ?_
  refine lv_iload hx hb dL_law_1599 (lv_at hl 0 rfl) ?_
  refine lv_i2l (v := (maI S0 w).toInt64) hx hb dL_law_1601 rfl ?_
  refine lv_lcmpE hx hb dL_law_1602 ?_
  refine lv_if_eq (tgt := 1608) hx hb dL_law_1603 (by decide) (fun _ => ?_) (fun c9 => absurd (by decide) c9)
  refine lv_goto (tgt := 1906) hx hb dL_law_1608 (by decide) ?_
  refine W.widen (k := 300) (n := 6500) (Nat.le_of_ble_eq_true rfl) (Nat.le_of_ble_eq_true rfl) ?_
  exact kt H locs ls hS (lv_sub hl [2, 7] rfl)
set_option maxHeartbeats 4000000 in
set_option maxRecDepth 100000 in
theorem lc_bestTake_1 {p : Program} {l : Launch} {e : Env} {s : State} {m : MethodId} {below : List Frame} {meth : Method} {c : Code} {b dz : Nat} {xs : Nat → Int32} {G : iG} {Q : State → Prop} (hst : l.stackTraces = false) (hx : p.tables.exec = Jvm.exec) (hb : c.code = cL_law) (hml : c.maxLocals = 9) (hts : ∀ w ∈ wsL_law, w.before #[Value.ref b] s = true) (hown : s.vm.findClass RL = some m.cls) (hX : va_X b 6 xs s s.heap) (hbl : b < s.heap.size) (hK : KB G s) (hV : VX s) (hZt : ZT (aA s) s s.heap) (hZ : ZD dz (aA s) s s.heap) {ad : Nat → Nat} {C : Nat → va_E} {H : Heap} {locs : List Loc} {ls : Array Slot} (hcam : Cam G 83 ad C 0 S0) (hmod : Mod G 83 ad C 74 dz (nI 0)) (glo : C 81 = la G 1 (fun _ => 0)) (hP : va_P G.1 vwB (wl 83 ad C) H) (hD : va_D (aA s) (wl 83 ad C)) (hS : va_S (aA s) s.heap H locs) (hl : lv_has ls 9 [(5, .int (nI 0)), (4, .ref (ad 82)), (3, .ref (ad 81)), (2, .ref (ad 74)), (1, .ref (ad 0)), (0, .ref b)]) (kt : ∀ (H : Heap) (locs : List Loc) (ls : Array Slot), va_S (aA s) s.heap H locs → lv_has ls 9 [(5, .int (nI 0)), (0, .ref b)] → W p l e room_1 s m #[Value.ref b] below meth c H locs 300 6500 Q (F0 m 1906 ls [])) (v : Int32) (h : v < nI 0 ∨ nI 255 < v) (hx1 : xs 1 = v) : W p l e room_1 s m #[Value.ref b] below meth c H locs 83 1901 Q (F0 m 1768 ls []) := by
  have hbA : ¬ aA s b := Nat.not_le.mpr hbl
  have hA : ∀ q : Nat, s.heap.size ≤ q → aA s q := fun _ h => h
  refine lv_aload_n hx hb dL_law_1768 rfl (lv_at hl 4 rfl) ?_
  refine lv_aload_n hx hb dL_law_1769 rfl (lv_at hl 5 rfl) ?_
  refine lv_iload hx hb dL_law_1770 (lv_at hl 0 rfl) ?_
  refine lv_iconst (v := nI 1) hx hb dL_law_1772 (by decide) ?_
  refine lv_iadd hx hb dL_law_1773 ?_
  refine lv_asI (y := nI 1) (by decide) ?_
  refine va_sld hx hb hX hbl hbA hS (vp_in_nI (by decide) (by decide)) dL_law_1774 ?_
  refine lv_asI (y := v) ((congrArg xs (nI_clamp (by decide))).trans hx1) ?_
  refine lv_aload_n hx hb dL_law_1775 rfl (lv_at hl 2 rfl) ?_
  refine iwx_i (vx_runSX (hh := [(0, 9, 12, 15)]) (As := [.ref (ad 0), .int v, .ref (ad 81)]) (rest := []) ⟨hx, hb, hml, hown, hts⟩ (wL_bestTake_1 l hst G 83 ad _ 0 S0 hcam 81 v h _) (vx_cwSW 3 hts gL_law_L_bestTake rfl rfl rfl (by decide +kernel) ⟨Nat.le_of_ble_eq_true rfl, Nat.le_of_ble_eq_true rfl⟩) (iPSX hK hV hZt hS hA hP hD [.ref (ad 0), .int v, .ref (ad 81)]) rfl rfl hl.1 rfl (lv_room (Nat.le_of_ble_eq_true rfl)) dL_law_1776 ⟨Nat.le_of_ble_eq_true rfl, Nat.le_of_ble_eq_true rfl⟩) hD hS hA (fun r8 u8 H locs hw8 hP hD hS => ?_)
  obtain ⟨hr8, hu8⟩ := hw8
  rw [hu8] at hP hD
  refine lv_asI hr8 ?_
  refine lv_istore (lv' := [(6, .int (nI 1)), (5, .int (nI 0)), (4, .ref (ad 82)), (3, .ref (ad 81)), (2, .ref (ad 74)), (1, .ref (ad 0)), (0, .ref b)]) hx hb dL_law_1779 hl (by decide) rfl (fun ls hl => ?_)
  refine lv_aload_n hx hb dL_law_1781 rfl (lv_at hl 4 rfl) ?_
  refine lv_aload_n hx hb dL_law_1782 rfl (lv_at hl 6 rfl) ?_
  refine lv_iload hx hb dL_law_1783 (lv_at hl 1 rfl) ?_
  refine lv_iconst (v := nI 1) hx hb dL_law_1785 (by decide) ?_
  refine lv_iadd hx hb dL_law_1786 ?_
  refine lv_asI (y := nI 1) (by decide) ?_
  refine va_sld hx hb hX hbl hbA hS (vp_in_nI (by decide) (by decide)) dL_law_1787 ?_
  refine lv_asI (y := v) ((congrArg xs (nI_clamp (by decide))).trans hx1) ?_
  refine iw_i (va_runV (As := [.int v]) (rest := []) ⟨hx, hb, hml, hown, hts⟩ (kX9_bestTake_1 l G 83 ad _ 74 dz (nI 0) hmod v h _) (cwV 1 hts gL_law_X9_bestTake rfl rfl rfl (by decide +kernel) ⟨Nat.le_of_ble_eq_true rfl, Nat.le_of_ble_eq_true rfl⟩) (iPV hK hP hD (by decide) (hmod.2.1) rfl [.int v]) rfl rfl hl.1 rfl (lv_room (Nat.le_of_ble_eq_true rfl)) dL_law_1788 ⟨Nat.le_of_ble_eq_true rfl, Nat.le_of_ble_eq_true rfl⟩) hD hS hA (fun r9 u9 H locs hw9 hP hD hS => ?_)
  obtain ⟨hr9, ⟨d9, ht9⟩, hm9⟩ := hw9
  refine lv_asI (y := nI 0) hr9 ?_
  refine lv_istore (lv' := [(7, .int (nI 0)), (6, .int (nI 1)), (5, .int (nI 0)), (4, .ref (ad 82)), (3, .ref (ad 81)), (2, .ref (ad 74)), (1, .ref (ad 0)), (0, .ref b)]) hx hb dL_law_1791 hl (by decide) rfl (fun ls hl => ?_)
  refine lv_aload_n hx hb dL_law_1793 rfl (lv_at hl 5 rfl) ?_
  refine iw_i (va_runV (As := []) (rest := []) ⟨hx, hb, hml, hown, hts⟩ (kX9_thrown l G 83 ad _ 74 (by decide) (nI 1) d9 ht9 _) (cwV 0 hts gL_law_X9_thrown rfl rfl rfl (by decide +kernel) ⟨Nat.le_of_ble_eq_true rfl, Nat.le_of_ble_eq_true rfl⟩) (iPV hK hP hD (by decide) (ht9) rfl []) rfl rfl hl.1 rfl (lv_room (Nat.le_of_ble_eq_true rfl)) dL_law_1794 ⟨Nat.le_of_ble_eq_true rfl, Nat.le_of_ble_eq_true rfl⟩) hD hS hA (fun r7 u7 H locs hw7 hP hD hS => ?_)
  obtain ⟨hr7, hu7⟩ := hw7
  rw [hu7] at hP hD
  refine lv_asI hr7 ?_
  refine lv_iload hx hb dL_law_1797 (lv_at hl 1 rfl) ?_
  refine lv_icmp_eq (tgt := 1804) hx hb dL_law_1799 (by decide) (fun _ => ?_) (fun c9 => absurd (by decide) c9)
  refine lv_iload hx hb dL_law_1804 (lv_at hl 1 rfl) ?_
  refine lv_if_ne (tgt := 1821) hx hb dL_law_1806 (by decide) (fun _ => ?_) (fun c9 => absurd c9 (by decide))
  refine lv_goto (tgt := 1906) hx hb dL_law_1821 (by decide) ?_
  refine W.widen (k := 300) (n := 6500) (Nat.le_of_ble_eq_true rfl) (Nat.le_of_ble_eq_true rfl) ?_
  exact kt H locs ls hS (lv_sub hl [2, 7] rfl)
set_option maxHeartbeats 4000000 in
set_option maxRecDepth 100000 in
theorem lc_bestTake_v {p : Program} {l : Launch} {e : Env} {s : State} {m : MethodId} {below : List Frame} {meth : Method} {c : Code} {b dz : Nat} {xs : Nat → Int32} {G : iG} {Q : State → Prop} (hst : l.stackTraces = false) (hx : p.tables.exec = Jvm.exec) (hb : c.code = cL_law) (hml : c.maxLocals = 9) (hts : ∀ w ∈ wsL_law, w.before #[Value.ref b] s = true) (hown : s.vm.findClass RL = some m.cls) (hX : va_X b 6 xs s s.heap) (hbl : b < s.heap.size) (hK : KB G s) (hV : VX s) (hZt : ZT (aA s) s s.heap) (hZ : ZD dz (aA s) s s.heap) {ad : Nat → Nat} {C : Nat → va_E} {H : Heap} {locs : List Loc} {ls : Array Slot} (hcam : Cam G 83 ad C 0 S0) (hmod : Mod G 83 ad C 74 dz (nI 0)) (glo : C 81 = la G 1 (fun _ => 0)) (hP : va_P G.1 vwB (wl 83 ad C) H) (hD : va_D (aA s) (wl 83 ad C)) (hS : va_S (aA s) s.heap H locs) (hl : lv_has ls 9 [(5, .int (nI 0)), (4, .ref (ad 82)), (3, .ref (ad 81)), (2, .ref (ad 74)), (1, .ref (ad 0)), (0, .ref b)]) (kt : ∀ (H : Heap) (locs : List Loc) (ls : Array Slot), va_S (aA s) s.heap H locs → lv_has ls 9 [(5, .int (nI 0)), (0, .ref b)] → W p l e room_1 s m #[Value.ref b] below meth c H locs 300 6500 Q (F0 m 1906 ls [])) (v : Nat) (hv : v < 256) (hx1 : xs 1 = nI v) : W p l e room_1 s m #[Value.ref b] below meth c H locs 83 1901 Q (F0 m 1768 ls []) := by
  have hbA : ¬ aA s b := Nat.not_le.mpr hbl
  have hA : ∀ q : Nat, s.heap.size ≤ q → aA s q := fun _ h => h
  refine lv_aload_n hx hb dL_law_1768 rfl (lv_at hl 4 rfl) ?_
  refine lv_aload_n hx hb dL_law_1769 rfl (lv_at hl 5 rfl) ?_
  refine lv_iload hx hb dL_law_1770 (lv_at hl 0 rfl) ?_
  refine lv_iconst (v := nI 1) hx hb dL_law_1772 (by decide) ?_
  refine lv_iadd hx hb dL_law_1773 ?_
  refine lv_asI (y := nI 1) (by decide) ?_
  refine va_sld hx hb hX hbl hbA hS (vp_in_nI (by decide) (by decide)) dL_law_1774 ?_
  refine lv_asI (y := nI v) ((congrArg xs (nI_clamp (by decide))).trans hx1) ?_
  refine lv_aload_n hx hb dL_law_1775 rfl (lv_at hl 2 rfl) ?_
  refine iwx_i (vx_runSX (hh := [(0, 9, 12, 15)]) (As := [.ref (ad 0), .int (nI v), .ref (ad 81)]) (rest := []) ⟨hx, hb, hml, hown, hts⟩ (wL_bestTake l G 83 ad _ 0 S0 hcam 81 (by decide) (Or.inr (by decide)) _ glo hd0 v hv _) (vx_cwSW 3 hts gL_law_L_bestTake rfl rfl rfl (by decide +kernel) ⟨Nat.le_of_ble_eq_true rfl, Nat.le_of_ble_eq_true rfl⟩) (iPSX hK hV hZt hS hA hP hD [.ref (ad 0), .int (nI v), .ref (ad 81)]) rfl rfl hl.1 rfl (lv_room (Nat.le_of_ble_eq_true rfl)) dL_law_1776 ⟨Nat.le_of_ble_eq_true rfl, Nat.le_of_ble_eq_true rfl⟩) hD hS hA (fun r8 u8 H locs hw8 hP hD hS => ?_)
  obtain ⟨hr8, ⟨f8, hf8, hv8⟩, hs8⟩ := hw8
  refine lv_asI hr8 ?_
  have hmod := Mod_same hmod (fun i h1 h2 => hs8 i (Or.inr (by omega)) (by omega))
  refine lv_istore (lv' := [(6, .int (nI 0)), (5, .int (nI 0)), (4, .ref (ad 82)), (3, .ref (ad 81)), (2, .ref (ad 74)), (1, .ref (ad 0)), (0, .ref b)]) hx hb dL_law_1779 hl (by decide) rfl (fun ls hl => ?_)
  refine lv_aload_n hx hb dL_law_1781 rfl (lv_at hl 4 rfl) ?_
  refine lv_aload_n hx hb dL_law_1782 rfl (lv_at hl 6 rfl) ?_
  refine lv_iload hx hb dL_law_1783 (lv_at hl 1 rfl) ?_
  refine lv_iconst (v := nI 1) hx hb dL_law_1785 (by decide) ?_
  refine lv_iadd hx hb dL_law_1786 ?_
  refine lv_asI (y := nI 1) (by decide) ?_
  refine va_sld hx hb hX hbl hbA hS (vp_in_nI (by decide) (by decide)) dL_law_1787 ?_
  refine lv_asI (y := nI v) ((congrArg xs (nI_clamp (by decide))).trans hx1) ?_
  refine iwq_i (va_runV (As := [.int (nI v)]) (rest := []) ⟨hx, hb, hml, hown, hts⟩ (kX9_bestTake l G 83 ad _ 74 dz (nI 0) hmod v hv _) (cwV 1 hts gL_law_X9_bestTake rfl rfl rfl (by decide +kernel) ⟨Nat.le_of_ble_eq_true rfl, Nat.le_of_ble_eq_true rfl⟩) (iPVZ hK hV hZ hS hA hP hD (by decide) (hmod.2.1) rfl [.int (nI v)]) rfl rfl hl.1 rfl (lv_room (Nat.le_of_ble_eq_true rfl)) dL_law_1788 ⟨Nat.le_of_ble_eq_true rfl, Nat.le_of_ble_eq_true rfl⟩) (by decide) (by decide) hD hS hA (fun r9 u9 H locs hw9 hP hD hS => ?_)
  obtain ⟨hr9, ⟨d9, ht9⟩, hm9⟩ := hw9
  refine lv_asI (y := nI 17) hr9 ?_
  refine lv_istore (lv' := [(7, .int (nI 17)), (6, .int (nI 0)), (5, .int (nI 0)), (4, .ref (ad 82)), (3, .ref (ad 81)), (2, .ref (ad 74)), (1, .ref (ad 0)), (0, .ref b)]) hx hb dL_law_1791 hl (by decide) rfl (fun ls hl => ?_)
  refine lv_aload_n hx hb dL_law_1793 rfl (lv_at hl 5 rfl) ?_
  refine iw_i (va_runV (As := []) (rest := []) ⟨hx, hb, hml, hown, hts⟩ (kX9_thrown l G 83 ad _ 74 (by decide) (nI 0) d9 ht9 _) (cwV 0 hts gL_law_X9_thrown rfl rfl rfl (by decide +kernel) ⟨Nat.le_of_ble_eq_true rfl, Nat.le_of_ble_eq_true rfl⟩) (iPV hK hP hD (by decide) (ht9) rfl []) rfl rfl hl.1 rfl (lv_room (Nat.le_of_ble_eq_true rfl)) dL_law_1794 ⟨Nat.le_of_ble_eq_true rfl, Nat.le_of_ble_eq_true rfl⟩) hD hS hA (fun r7 u7 H locs hw7 hP hD hS => ?_)
  obtain ⟨hr7, hu7⟩ := hw7
  rw [hu7] at hP hD
  refine lv_asI hr7 ?_
  refine lv_iload hx hb dL_law_1797 (lv_at hl 1 rfl) ?_
  refine lv_icmp_eq (tgt := 1804) hx hb dL_law_1799 (by decide) (fun _ => ?_) (fun c9 => absurd (by decide) c9)
  refine lv_iload hx hb dL_law_1804 (lv_at hl 1 rfl) ?_
  refine lv_if_ne (tgt := 1821) hx hb dL_law_1806 (by decide) (fun c9 => absurd (by decide) c9) (fun _ => ?_)
  refine lv_aload_n hx hb dL_law_1809 rfl (lv_at hl 4 rfl) ?_
  refine lv_iconst (v := nI 0) hx hb dL_law_1810 (by decide) ?_
  refine iw_lald (v := ((nI 17)).toInt64) hx hb hK hP (by decide) (((hm9 81 (by decide) (Or.inr (by decide))).trans hf8)) (vp_in_nI (show 0 < 1 by omega) (by omega)) ((congrArg f8 (nI_clamp (by decide))).trans hv8) dL_law_1811 ?_
  refine lv_iload hx hb dL_law_1812 (lv_at hl 0 rfl) ?_
  refine lv_i2l (v := (nI 17).toInt64) hx hb dL_law_1814 rfl ?_
  refine lv_lcmpE hx hb dL_law_1815 ?_
  refine lv_if_eq (tgt := 1821) hx hb dL_law_1816 (by decide) (fun _ => ?_) (fun c9 => absurd (by decide) c9)
  refine lv_goto (tgt := 1906) hx hb dL_law_1821 (by decide) ?_
  refine W.widen (k := 300) (n := 6500) (Nat.le_of_ble_eq_true rfl) (Nat.le_of_ble_eq_true rfl) ?_
  exact kt H locs ls hS (lv_sub hl [2, 7] rfl)
