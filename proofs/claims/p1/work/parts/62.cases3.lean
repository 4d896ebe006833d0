set_option maxRecDepth 20000 in
theorem ggL_law_L_merge : GoodIn wsL_law wsL_merge := goodIn_ca (goodIn_ca (goodIn_r _ [356, 116, 231, 357, 358, 359, 2, 360, 121, 122, 26, 23, 132, 133, 134, 361, 362, 363, 364, 365, 366, 367, 239, 240, 241, 242, 243, 368, 369, 370, 371, 372, 373, 264, 374, 375, 376, 377, 378, 379, 380, 381, 912, 913, 914, 915, 916, 917, 918, 919, 920, 935, 936, 937, 938, 939] (by decide +kernel) (by decide +kernel)) (goodIn_sub (fun _ h => List.mem_append_left _ (List.mem_append_left _ (List.mem_append_right _ h))) (by decide +kernel))) (goodIn_sub (fun _ h => List.mem_append_right _ h) (by decide +kernel))
set_option maxRecDepth 20000 in
theorem gL_law_L_merge : GoodIn wsL_law (va_wsS RL 121 yL_merge wsL_merge) := goodIn_app (goodIn_of _ (by decide +kernel)) ggL_law_L_merge
set_option maxRecDepth 20000 in
theorem ggL_law_X9_merge : GoodIn wsL_law wsX9_merge := goodIn_r _ [385, 146, 94, 386, 291, 292, 293, 387, 388, 42, 389, 390, 373, 264, 374, 391, 277, 278, 279, 93, 280, 281, 152, 153, 5, 154, 155, 156, 157, 158, 392, 393, 394, 395, 396, 397, 398, 399, 400, 401, 402, 403, 404, 405, 406, 407, 100, 297, 298, 299, 300, 12, 13, 301, 92, 302, 303, 304, 305, 306, 97, 98, 99, 101, 102, 103, 104, 105, 106, 107, 108, 109, 110, 307, 308, 309, 310, 311, 312, 313, 314, 315, 316, 317, 318, 319, 320, 321, 322, 323, 324, 325, 267, 268, 326, 327, 328, 329, 330, 331, 332, 333, 334, 335, 336, 337, 338, 339, 340, 341, 342, 343, 344, 345, 346, 347, 348, 349, 263, 265, 350, 351, 352, 353, 921, 922, 923, 924, 925, 926, 927, 928, 951, 952, 953, 954, 955, 948, 949, 950] (by decide +kernel) (by decide +kernel)
set_option maxRecDepth 20000 in
theorem gL_law_X9_merge : GoodIn wsL_law (wsV RL 123 RX9 yX9_merge wsX9_merge) := goodIn_app (goodIn_of _ (by decide +kernel)) ggL_law_X9_merge
set_option maxRecDepth 20000 in
theorem ggL_law_L_edit : GoodIn wsL_law wsL_edit := goodIn_ca (goodIn_ca (goodIn_ca (goodIn_r _ [410, 115, 116, 231, 411, 412, 413, 2, 414, 23, 415, 416, 417, 418, 127, 128, 26, 132, 133, 134, 121, 122, 419, 420, 421, 422, 423, 424, 425, 426, 427, 60, 428, 70, 239, 240, 241, 242, 243, 429, 430, 431, 432, 68, 69, 912, 913, 914, 915, 916, 917, 918, 919, 920, 935, 936, 937, 938, 939, 945, 946, 947] (by decide +kernel) (by decide +kernel)) (goodIn_sub (fun _ h => List.mem_append_left _ (List.mem_append_right _ h)) (by decide +kernel))) (goodIn_sub (fun _ h => List.mem_append_left _ (List.mem_append_left _ (List.mem_append_right _ h))) (by decide +kernel))) (goodIn_sub (fun _ h => List.mem_append_right _ h) (by decide +kernel))
set_option maxRecDepth 20000 in
theorem gL_law_L_edit : GoodIn wsL_law (va_wsS RL 124 yL_edit wsL_edit) := goodIn_app (goodIn_of _ (by decide +kernel)) ggL_law_L_edit
set_option maxRecDepth 20000 in
theorem ggL_law_X9_edit : GoodIn wsL_law wsX9_edit := goodIn_r _ [436, 146, 94, 386, 437, 42, 438, 439, 440, 5, 441, 277, 278, 279, 93, 280, 281, 152, 153, 154, 155, 156, 157, 158, 442, 443, 444, 392, 393, 394, 395, 396, 397, 398, 399, 400, 401, 402, 403, 404, 405, 406, 407, 100, 307, 308, 309, 310, 311, 312, 313, 314, 315, 316, 317, 318, 319, 320, 321, 322, 323, 324, 99, 325, 267, 264, 268, 326, 327, 328, 329, 330, 331, 332, 333, 334, 335, 336, 337, 338, 339, 340, 341, 342, 343, 344, 345, 346, 347, 348, 349, 263, 265, 350, 351, 352, 353, 921, 922, 923, 924, 925, 926, 927, 928, 951, 952, 953, 954, 955, 948, 949, 950] (by decide +kernel) (by decide +kernel)
set_option maxRecDepth 20000 in
theorem gL_law_X9_edit : GoodIn wsL_law (wsV RL 126 RX9 yX9_edit wsX9_edit) := goodIn_app (goodIn_of _ (by decide +kernel)) ggL_law_X9_edit
set_option maxRecDepth 20000 in
theorem ggL_law_L_undo : GoodIn wsL_law wsL_undo := goodIn_ca (goodIn_r _ [447, 115, 448, 449, 450, 2, 451, 23, 415, 416, 417, 418, 127, 128, 26, 452, 453, 454, 60, 455, 70, 68, 912, 913, 914, 915, 916, 917, 918, 919, 920, 935, 936, 937, 938, 939, 945, 946, 947] (by decide +kernel) (by decide +kernel)) (goodIn_sub (fun _ h => List.mem_append_left _ (List.mem_append_right _ h)) (by decide +kernel))
set_option maxRecDepth 20000 in
theorem gL_law_L_undo : GoodIn wsL_law (va_wsS RL 127 yL_undo wsL_undo) := goodIn_app (goodIn_of _ (by decide +kernel)) ggL_law_L_undo
set_option maxRecDepth 20000 in
theorem ggL_law_X9_undo : GoodIn wsL_law wsX9_undo := goodIn_r _ [459, 146, 94, 386, 437, 460, 438, 439, 440, 5, 441, 277, 278, 279, 93, 280, 281, 152, 153, 154, 155, 156, 157, 158, 392, 393, 394, 395, 396, 397, 398, 399, 400, 401, 402, 403, 404, 405, 406, 407, 100, 461, 462, 463, 464, 465, 466, 467, 468, 311, 312, 469, 351, 352, 353, 921, 922, 923, 924, 925, 926, 927, 928, 951, 952, 953, 954, 955, 948, 949, 950] (by decide +kernel) (by decide +kernel)
set_option maxRecDepth 20000 in
theorem gL_law_X9_undo : GoodIn wsL_law (wsV RL 130 RX9 yX9_undo wsX9_undo) := goodIn_app (goodIn_of _ (by decide +kernel)) ggL_law_X9_undo
set_option maxRecDepth 20000 in
theorem ggL_law_L_save : GoodIn wsL_law wsL_save := goodIn_ca (goodIn_ca (goodIn_r _ [472, 115, 231, 473, 474, 475, 2, 476, 27, 25, 23, 415, 416, 417, 418, 127, 128, 26, 239, 240, 241, 242, 243, 477, 478, 479, 480, 481, 482, 483, 37, 484, 81, 82, 80, 485, 486, 487, 60, 488, 68, 69, 70, 912, 913, 914, 915, 916, 917, 918, 919, 920, 935, 936, 937, 938, 939, 942, 943, 944, 945, 946, 947] (by decide +kernel) (by decide +kernel)) (goodIn_sub (fun _ h => List.mem_append_left _ (List.mem_append_right _ h)) (by decide +kernel))) (goodIn_sub (fun _ h => List.mem_append_right _ h) (by decide +kernel))
set_option maxRecDepth 20000 in
theorem gL_law_L_save : GoodIn wsL_law (va_wsS RL 131 yL_save wsL_save) := goodIn_app (goodIn_of _ (by decide +kernel)) ggL_law_L_save
set_option maxRecDepth 20000 in
theorem ggL_law_X9_save : GoodIn wsL_law wsX9_save := goodIn_r _ [492, 146, 95, 493, 494, 495, 94, 386, 437, 496, 460, 438, 439, 440, 5, 441, 277, 278, 279, 93, 280, 281, 152, 153, 154, 155, 156, 157, 158, 497, 498, 499, 500, 501, 502, 392, 393, 394, 395, 396, 397, 398, 399, 400, 401, 402, 403, 404, 405, 406, 407, 100, 503, 504, 505, 506, 12, 13, 507, 92, 508, 509, 510, 511, 97, 98, 99, 101, 102, 103, 104, 105, 106, 107, 108, 109, 110, 307, 308, 309, 310, 311, 312, 313, 314, 315, 316, 317, 318, 319, 320, 321, 322, 323, 324, 325, 267, 264, 268, 326, 327, 328, 329, 330, 331, 332, 333, 334, 335, 336, 337, 338, 339, 340, 341, 342, 343, 344, 345, 346, 347, 348, 349, 263, 265, 350, 351, 352, 353, 921, 922, 923, 924, 925, 926, 927, 928, 956, 957, 958, 951, 952, 953, 954, 955, 948, 949, 950] (by decide +kernel) (by decide +kernel)
set_option maxRecDepth 20000 in
theorem gL_law_X9_save : GoodIn wsL_law (wsV RL 133 RX9 yX9_save wsX9_save) := goodIn_app (goodIn_of _ (by decide +kernel)) ggL_law_X9_save
set_option maxRecDepth 20000 in
theorem ggL_law_L_raw : GoodIn wsL_law wsL_raw := goodIn_ca (goodIn_r _ [514, 115, 515, 516, 517, 2, 518, 23, 415, 416, 417, 418, 127, 128, 26, 124, 125, 126, 129, 130, 131, 135, 136, 137, 912, 913, 914, 915, 916, 917, 918, 919, 920, 935, 936, 937, 938, 939] (by decide +kernel) (by decide +kernel)) (goodIn_sub (fun _ h => List.mem_append_left _ (List.mem_append_right _ h)) (by decide +kernel))
set_option maxRecDepth 20000 in
theorem gL_law_L_raw : GoodIn wsL_law (va_wsS RL 134 yL_raw wsL_raw) := goodIn_app (goodIn_of _ (by decide +kernel)) ggL_law_L_raw
set_option maxRecDepth 20000 in
theorem ggL_law_X9_raw : GoodIn wsL_law wsX9_raw := goodIn_r _ [522, 146, 94, 386, 389, 438, 439, 440, 5, 441, 277, 278, 279, 93, 280, 281, 152, 153, 154, 149, 150, 151, 155, 156, 157, 158, 392, 393, 394, 395, 396, 397, 398, 399, 400, 401, 402, 403, 404, 405, 406, 407, 100, 159, 160, 161, 921, 922, 923, 924, 925, 926, 927, 928, 951, 952, 953, 954, 955, 948, 949, 950] (by decide +kernel) (by decide +kernel)
set_option maxRecDepth 20000 in
theorem gL_law_X9_raw : GoodIn wsL_law (wsV RL 136 RX9 yX9_raw wsX9_raw) := goodIn_app (goodIn_of _ (by decide +kernel)) ggL_law_X9_raw
set_option maxRecDepth 20000 in
theorem ggL_law_L_picture : GoodIn wsL_law wsL_picture := goodIn_ca (goodIn_ca (goodIn_r _ [525, 115, 116, 526, 527, 528, 2, 529, 34, 415, 416, 417, 418, 127, 128, 26, 124, 125, 126, 129, 130, 131, 132, 133, 134, 121, 122, 530, 531, 532, 533, 23, 21, 534, 535, 536, 33, 537, 538, 539, 540, 60, 541, 70, 68, 542, 543, 544, 545, 75, 136, 137, 546, 547, 548, 549, 550, 551, 552, 74, 248, 249, 553, 554, 555, 556, 557, 558, 559, 560, 426, 427, 428, 561, 562, 563, 564, 565, 566, 567, 568, 569, 570, 571, 572, 573, 574, 575, 576, 577, 578, 579, 580, 581, 582, 583, 584, 585, 586, 587, 588, 589, 590, 135, 591, 912, 913, 914, 915, 916, 917, 918, 919, 920, 940, 941, 935, 936, 937, 938, 939, 932, 933, 934, 945, 946, 947] (by decide +kernel) (by decide +kernel)) (goodIn_sub (fun _ h => List.mem_append_left _ (List.mem_append_right _ h)) (by decide +kernel))) (goodIn_sub (fun _ h => List.mem_append_left _ (List.mem_append_left _ (List.mem_append_right _ h))) (by decide +kernel))
set_option maxRecDepth 20000 in
theorem gL_law_L_picture : GoodIn wsL_law (va_wsS RL 137 yL_picture wsL_picture) := goodIn_app (goodIn_of _ (by decide +kernel)) ggL_law_L_picture
set_option maxRecDepth 20000 in
theorem ggL_law_X9_picture__ : GoodIn wsL_law wsX9_picture__ := goodIn_r _ [595, 146, 438, 439, 440, 5, 441, 94, 277, 278, 279, 93, 280, 281, 152, 153, 154, 149, 150, 151, 155, 156, 157, 158, 596, 597, 598, 599, 386, 437, 392, 393, 394, 395, 396, 397, 398, 399, 400, 401, 402, 403, 404, 405, 406, 407, 100, 600, 601, 602, 603, 389, 460, 44, 604, 605, 606, 607, 608, 609, 610, 611, 42, 90, 159, 160, 161, 612, 613, 614, 615, 294, 295, 296, 616, 617, 618, 287, 619, 620, 621, 622, 623, 624, 625, 626, 627, 628, 629, 630, 631, 921, 922, 923, 924, 925, 926, 927, 928, 948, 949, 950, 951, 952, 953, 954, 955] (by decide +kernel) (by decide +kernel)
set_option maxRecDepth 20000 in
theorem gL_law_X9_picture__ : GoodIn wsL_law (wsV RL 140 RX9 yX9_picture__ wsX9_picture__) := goodIn_app (goodIn_of _ (by decide +kernel)) ggL_law_X9_picture__
set_option maxHeartbeats 4000000 in
set_option maxRecDepth 100000 in
theorem lc_map_vt {p : Program} {l : Launch} {e : Env} {s : State} {m : MethodId} {below : List Frame} {meth : Method} {c : Code} {b dz : Nat} {xs : Nat → Int32} {G : iG} {Q : State → Prop} (hst : l.stackTraces = false) (hx : p.tables.exec = Jvm.exec) (hb : c.code = cL_law) (hml : c.maxLocals = 9) (hts : ∀ w ∈ wsL_law, w.before #[Value.ref b] s = true) (hown : s.vm.findClass RL = some m.cls) (hX : va_X b 6 xs s s.heap) (hbl : b < s.heap.size) (hK : KB G s) (hV : VX s) (hZt : ZT (aA s) s s.heap) (hZ : ZD dz (aA s) s s.heap) {ad : Nat → Nat} {C : Nat → va_E} {H : Heap} {locs : List Loc} {ls : Array Slot} (hcam : Cam G 83 ad C 0 S0) (hmod : Mod G 83 ad C 74 dz (nI 0)) (glo : C 81 = la G 1 (fun _ => 0)) (hP : va_P G.1 vwB (wl 83 ad C) H) (hD : va_D (aA s) (wl 83 ad C)) (hS : va_S (aA s) s.heap H locs) (hl : lv_has ls 9 [(5, .int (nI 0)), (4, .ref (ad 82)), (3, .ref (ad 81)), (2, .ref (ad 74)), (1, .ref (ad 0)), (0, .ref b)]) (kt : ∀ (H : Heap) (locs : List Loc) (ls : Array Slot), va_S (aA s) s.heap H locs → lv_has ls 9 [(5, .int (nI 0)), (0, .ref b)] → W p l e room_1 s m #[Value.ref b] below meth c H locs 300 6500 Q (F0 m 1906 ls [])) (x y : Nat) (hx8 : x < 8) (hy8 : y < 8) (b3 : Int32) (hx1 : xs 1 = nI x) (hx2 : xs 2 = nI y) (hx3 : xs 3 = b3) (h3 : b3 ≠ 0) : W p l e room_1 s m #[Value.ref b] below meth c H locs 83 1901 Q (F0 m 420 ls []) := by
  have hbA : ¬ aA s b := Nat.not_le.mpr hbl
  have hA : ∀ q : Nat, s.heap.size ≤ q → aA s q := fun _ h => h
  refine lv_aload_n hx hb dL_law_420 rfl (lv_at hl 4 rfl) ?_
  refine lv_aload_n hx hb dL_law_421 rfl (lv_at hl 5 rfl) ?_
  refine lv_iload hx hb dL_law_422 (lv_at hl 0 rfl) ?_
  refine lv_iconst (v := nI 1) hx hb dL_law_424 (by decide) ?_
  refine lv_iadd hx hb dL_law_425 ?_
  refine lv_asI (y := nI 1) (by decide) ?_
  refine va_sld hx hb hX hbl hbA hS (vp_in_nI (by decide) (by decide)) dL_law_426 ?_
  refine lv_asI (y := nI x) ((congrArg xs (nI_clamp (by decide))).trans hx1) ?_
  refine lv_aload_n hx hb dL_law_427 rfl (lv_at hl 5 rfl) ?_
  refine lv_iload hx hb dL_law_428 (lv_at hl 0 rfl) ?_
  refine lv_iconst (v := nI 2) hx hb dL_law_430 (by decide) ?_
  refine lv_iadd hx hb dL_law_431 ?_
  refine lv_asI (y := nI 2) (by decide) ?_
  refine va_sld hx hb hX hbl hbA hS (vp_in_nI (by decide) (by decide)) dL_law_432 ?_
  refine lv_asI (y := nI y) ((congrArg xs (nI_clamp (by decide))).trans hx2) ?_
  refine lv_aload_n hx hb dL_law_433 rfl (lv_at hl 5 rfl) ?_
  refine lv_iload hx hb dL_law_434 (lv_at hl 0 rfl) ?_
  refine lv_iconst (v := nI 3) hx hb dL_law_436 (by decide) ?_
  refine lv_iadd hx hb dL_law_437 ?_
  refine lv_asI (y := nI 3) (by decide) ?_
  refine va_sld hx hb hX hbl hbA hS (vp_in_nI (by decide) (by decide)) dL_law_438 ?_
  refine lv_asI (y := b3) ((congrArg xs (nI_clamp (by decide))).trans hx3) ?_
  refine lv_if_eq (tgt := 446) hx hb dL_law_439 (by decide) (fun c9 => absurd c9 (h3)) (fun _ => ?_)
  refine lv_iconst (v := nI 1) hx hb dL_law_442 (by decide) ?_
  refine lv_goto (tgt := 447) hx hb dL_law_443 (by decide) ?_
  refine lv_aload_n hx hb dL_law_447 rfl (lv_at hl 2 rfl) ?_
  refine iwx_i (vx_runSX (hh := [(0, 12, 15, 13)]) (As := [.ref (ad 0), .int (nI x), .int (nI y), .int (nI 1), .ref (ad 81)]) (rest := []) ⟨hx, hb, hml, hown, hts⟩ (wL_map l G 83 ad _ 0 S0 hcam 81 (by decide) (Or.inr (by decide)) _ glo x y hx8 hy8 true _) (vx_cwSW 5 hts gL_law_L_map rfl rfl rfl (by decide +kernel) ⟨Nat.le_of_ble_eq_true rfl, Nat.le_of_ble_eq_true rfl⟩) (iPSX hK hV hZt hS hA hP hD [.ref (ad 0), .int (nI x), .int (nI y), .int (nI 1), .ref (ad 81)]) rfl rfl hl.1 rfl (lv_room (Nat.le_of_ble_eq_true rfl)) dL_law_448 ⟨Nat.le_of_ble_eq_true rfl, Nat.le_of_ble_eq_true rfl⟩) hD hS hA (fun r8 u8 H locs hw8 hP hD hS => ?_)
  obtain ⟨hr8, ⟨f8, hf8, hv8⟩, hs8⟩ := hw8
  refine lv_asI hr8 ?_
  have hmod := Mod_same hmod (fun i h1 h2 => hs8 i (Or.inr (by omega)) (by omega))
  refine lv_istore (lv' := [(6, .int (nI 0)), (5, .int (nI 0)), (4, .ref (ad 82)), (3, .ref (ad 81)), (2, .ref (ad 74)), (1, .ref (ad 0)), (0, .ref b)]) hx hb dL_law_451 hl (by decide) rfl (fun ls hl => ?_)
  refine lv_aload_n hx hb dL_law_453 rfl (lv_at hl 4 rfl) ?_
  refine lv_aload_n hx hb dL_law_454 rfl (lv_at hl 6 rfl) ?_
  refine lv_iload hx hb dL_law_455 (lv_at hl 1 rfl) ?_
  refine lv_iconst (v := nI 1) hx hb dL_law_457 (by decide) ?_
  refine lv_iadd hx hb dL_law_458 ?_
  refine lv_asI (y := nI 1) (by decide) ?_
  refine va_sld hx hb hX hbl hbA hS (vp_in_nI (by decide) (by decide)) dL_law_459 ?_
  refine lv_asI (y := nI x) ((congrArg xs (nI_clamp (by decide))).trans hx1) ?_
  refine lv_aload_n hx hb dL_law_460 rfl (lv_at hl 6 rfl) ?_
  refine lv_iload hx hb dL_law_461 (lv_at hl 1 rfl) ?_
  refine lv_iconst (v := nI 2) hx hb dL_law_463 (by decide) ?_
  refine lv_iadd hx hb dL_law_464 ?_
  refine lv_asI (y := nI 2) (by decide) ?_
  refine va_sld hx hb hX hbl hbA hS (vp_in_nI (by decide) (by decide)) dL_law_465 ?_
  refine lv_asI (y := nI y) ((congrArg xs (nI_clamp (by decide))).trans hx2) ?_
  refine lv_aload_n hx hb dL_law_466 rfl (lv_at hl 6 rfl) ?_
  refine lv_iload hx hb dL_law_467 (lv_at hl 1 rfl) ?_
  refine lv_iconst (v := nI 3) hx hb dL_law_469 (by decide) ?_
  refine lv_iadd hx hb dL_law_470 ?_
  refine lv_asI (y := nI 3) (by decide) ?_
  refine va_sld hx hb hX hbl hbA hS (vp_in_nI (by decide) (by decide)) dL_law_471 ?_
  refine lv_asI (y := b3) ((congrArg xs (nI_clamp (by decide))).trans hx3) ?_
  refine lv_if_eq (tgt := 479) hx hb dL_law_472 (by decide) (fun c9 => absurd c9 (h3)) (fun _ => ?_)
  refine lv_iconst (v := nI 1) hx hb dL_law_475 (by decide) ?_
  refine lv_goto (tgt := 480) hx hb dL_law_476 (by decide) ?_
  refine iw_i (va_runV (As := [.int (nI x), .int (nI y), .int (nI 1)]) (rest := []) ⟨hx, hb, hml, hown, hts⟩ (kX9_map l G 83 ad _ 74 dz (nI 0) hmod x y hx8 hy8 true _) (cwV 3 hts gL_law_X9_map rfl rfl rfl (by decide +kernel) ⟨Nat.le_of_ble_eq_true rfl, Nat.le_of_ble_eq_true rfl⟩) (iPV hK hP hD (by decide) (hmod.2.1) rfl [.int (nI x), .int (nI y), .int (nI 1)]) rfl rfl hl.1 rfl (lv_room (Nat.le_of_ble_eq_true rfl)) dL_law_480 ⟨Nat.le_of_ble_eq_true rfl, Nat.le_of_ble_eq_true rfl⟩) hD hS hA (fun r9 u9 H locs hw9 hP hD hS => ?_)
  obtain ⟨hr9, ⟨d9, ht9⟩, hm9⟩ := hw9
  refine lv_asI (y := nI (ctN (va_up (sMp S0) (8 * y + x) true) 64)) (hr9.trans (rfl)) ?_
  refine lv_istore (lv' := [(7, .int (nI (ctN (va_up (sMp S0) (8 * y + x) true) 64))), (6, .int (nI 0)), (5, .int (nI 0)), (4, .ref (ad 82)), (3, .ref (ad 81)), (2, .ref (ad 74)), (1, .ref (ad 0)), (0, .ref b)]) hx hb dL_law_483 hl (by decide) rfl (fun ls hl => ?_)
  refine lv_aload_n hx hb dL_law_485 rfl (lv_at hl 5 rfl) ?_
  refine iw_i (va_runV (As := []) (rest := []) ⟨hx, hb, hml, hown, hts⟩ (kX9_thrown l G 83 ad _ 74 (by decide) (nI 0) d9 ht9 _) (cwV 0 hts gL_law_X9_thrown rfl rfl rfl (by decide +kernel) ⟨Nat.le_of_ble_eq_true rfl, Nat.le_of_ble_eq_true rfl⟩) (iPV hK hP hD (by decide) (ht9) rfl []) rfl rfl hl.1 rfl (lv_room (Nat.le_of_ble_eq_true rfl)) dL_law_486 ⟨Nat.le_of_ble_eq_true rfl, Nat.le_of_ble_eq_true rfl⟩) hD hS hA (fun r7 u7 H locs hw7 hP hD hS => ?_)
  obtain ⟨hr7, hu7⟩ := hw7
  rw [hu7] at hP hD
  refine lv_asI hr7 ?_
  refine lv_iload hx hb dL_law_489 (lv_at hl 1 rfl) ?_
  refine lv_icmp_eq (tgt := 496) hx hb dL_law_491 (by decide) (fun _ => ?_) (fun c9 => absurd (by decide) c9)
  refine lv_iload hx hb dL_law_496 (lv_at hl 1 rfl) ?_
  refine lv_if_ne (tgt := 513) hx hb dL_law_498 (by decide) (fun c9 => absurd (by decide) c9) (fun _ => ?_)
  refine lv_aload_n hx hb dL_law_501 rfl (lv_at hl 4 rfl) ?_
  refine lv_iconst (v := nI 0) hx hb dL_law_502 (by decide) ?_
  refine iw_lald (v := ((nI (ctN (va_up (sMp S0) (8 * y + x) true) 64))).toInt64) hx hb hK hP (by decide) (((hm9 81 (Or.inr (by decide))).trans hf8)) (vp_in_nI (show 0 < 1 by omega) (by omega)) ((congrArg f8 (nI_clamp (by decide))).trans hv8) dL_law_503 ?_
  refine lv_iload hx hb dL_law_504 (lv_at hl 0 rfl) ?_
  refine lv_i2l (v := (nI (ctN (va_up (sMp S0) (8 * y + x) true) 64)).toInt64) hx hb dL_law_506 rfl ?_
  refine lv_lcmpE hx hb dL_law_507 ?_
  refine lv_if_eq (tgt := 513) hx hb dL_law_508 (by decide) (fun _ => ?_) (fun c9 => absurd (by decide) c9)
  refine lv_goto (tgt := 1906) hx hb dL_law_513 (by decide) ?_
  refine W.widen (k := 300) (n := 6500) (Nat.le_of_ble_eq_true rfl) (Nat.le_of_ble_eq_true rfl) ?_
  exact kt H locs ls hS (lv_sub hl [2, 7] rfl)
set_option maxHeartbeats 4000000 in
set_option maxRecDepth 100000 in
theorem lc_map_1f {p : Program} {l : Launch} {e : Env} {s : State} {m : MethodId} {below : List Frame} {meth : Method} {c : Code} {b dz : Nat} {xs : Nat → Int32} {G : iG} {Q : State → Prop} (hst : l.stackTraces = false) (hx : p.tables.exec = Jvm.exec) (hb : c.code = cL_law) (hml : c.maxLocals = 9) (hts : ∀ w ∈ wsL_law, w.before #[Value.ref b] s = true) (hown : s.vm.findClass RL = some m.cls) (hX : va_X b 6 xs s s.heap) (hbl : b < s.heap.size) (hK : KB G s) (hV : VX s) (hZt : ZT (aA s) s s.heap) (hZ : ZD dz (aA s) s s.heap) {ad : Nat → Nat} {C : Nat → va_E} {H : Heap} {locs : List Loc} {ls : Array Slot} (hcam : Cam G 83 ad C 0 S0) (hmod : Mod G 83 ad C 74 dz (nI 0)) (glo : C 81 = la G 1 (fun _ => 0)) (hP : va_P G.1 vwB (wl 83 ad C) H) (hD : va_D (aA s) (wl 83 ad C)) (hS : va_S (aA s) s.heap H locs) (hl : lv_has ls 9 [(5, .int (nI 0)), (4, .ref (ad 82)), (3, .ref (ad 81)), (2, .ref (ad 74)), (1, .ref (ad 0)), (0, .ref b)]) (kt : ∀ (H : Heap) (locs : List Loc) (ls : Array Slot), va_S (aA s) s.heap H locs → lv_has ls 9 [(5, .int (nI 0)), (0, .ref b)] → W p l e room_1 s m #[Value.ref b] below meth c H locs 300 6500 Q (F0 m 1906 ls [])) (x y b3 : Int32) (h : isPl x y = false) (hx1 : xs 1 = x) (hx2 : xs 2 = y) (hx3 : xs 3 = b3) (h3 : b3 = 0) : W p l e room_1 s m #[Value.ref b] below meth c H locs 83 1901 Q (F0 m 420 ls []) := by
  have hbA : ¬ aA s b := Nat.not_le.mpr hbl
  have hA : ∀ q : Nat, s.heap.size ≤ q → aA s q := fun _ h => h
  refine lv_aload_n hx hb dL_law_420 rfl (lv_at hl 4 rfl) ?_
  refine lv_aload_n hx hb dL_law_421 rfl (lv_at hl 5 rfl) ?_
  refine lv_iload hx hb dL_law_422 (lv_at hl 0 rfl) ?_
  refine lv_iconst (v := nI 1) hx hb dL_law_424 (by decide) ?_
  refine lv_iadd hx hb dL_law_425 ?_
  refine lv_asI (y := nI 1) (by decide) ?_
  refine va_sld hx hb hX hbl hbA hS (vp_in_nI (by decide) (by decide)) dL_law_426 ?_
  refine lv_asI (y := x) ((congrArg xs (nI_clamp (by decide))).trans hx1) ?_
  refine lv_aload_n hx hb dL_law_427 rfl (lv_at hl 5 rfl) ?_
  refine lv_iload hx hb dL_law_428 (lv_at hl 0 rfl) ?_
  refine lv_iconst (v := nI 2) hx hb dL_law_430 (by decide) ?_
  refine lv_iadd hx hb dL_law_431 ?_
  refine lv_asI (y := nI 2) (by decide) ?_
  refine va_sld hx hb hX hbl hbA hS (vp_in_nI (by decide) (by decide)) dL_law_432 ?_
  refine lv_asI (y := y) ((congrArg xs (nI_clamp (by decide))).trans hx2) ?_
  refine lv_aload_n hx hb dL_law_433 rfl (lv_at hl 5 rfl) ?_
  refine lv_iload hx hb dL_law_434 (lv_at hl 0 rfl) ?_
  refine lv_iconst (v := nI 3) hx hb dL_law_436 (by decide) ?_
  refine lv_iadd hx hb dL_law_437 ?_
  refine lv_asI (y := nI 3) (by decide) ?_
  refine va_sld hx hb hX hbl hbA hS (vp_in_nI (by decide) (by decide)) dL_law_438 ?_
  refine lv_asI (y := b3) ((congrArg xs (nI_clamp (by decide))).trans hx3) ?_
  refine lv_if_eq (tgt := 446) hx hb dL_law_439 (by decide) (fun _ => ?_) (fun c9 => absurd (h3) c9)
  refine lv_iconst (v := nI 0) hx hb dL_law_446 (by decide) ?_
  refine lv_aload_n hx hb dL_law_447 rfl (lv_at hl 2 rfl) ?_
  refine iwx_i (vx_runSX (hh := [(0, 12, 15, 13)]) (As := [.ref (ad 0), .int x, .int y, .int (nI 0), .ref (ad 81)]) (rest := []) ⟨hx, hb, hml, hown, hts⟩ (wL_map_1 l hst G 83 ad _ 0 S0 hcam 81 x y (nI 0) h _) (vx_cwSW 5 hts gL_law_L_map rfl rfl rfl (by decide +kernel) ⟨Nat.le_of_ble_eq_true rfl, Nat.le_of_ble_eq_true rfl⟩) (iPSX hK hV hZt hS hA hP hD [.ref (ad 0), .int x, .int y, .int (nI 0), .ref (ad 81)]) rfl rfl hl.1 rfl (lv_room (Nat.le_of_ble_eq_true rfl)) dL_law_448 ⟨Nat.le_of_ble_eq_true rfl, Nat.le_of_ble_eq_true rfl⟩) hD hS hA (fun r8 u8 H locs hw8 hP hD hS => ?_)
  obtain ⟨hr8, hu8⟩ := hw8
  rw [hu8] at hP hD
  refine lv_asI hr8 ?_
  refine lv_istore (lv' := [(6, .int (nI 1)), (5, .int (nI 0)), (4, .ref (ad 82)), (3, .ref (ad 81)), (2, .ref (ad 74)), (1, .ref (ad 0)), (0, .ref b)]) hx hb dL_law_451 hl (by decide) rfl (fun ls hl => ?_)
  refine lv_aload_n hx hb dL_law_453 rfl (lv_at hl 4 rfl) ?_
  refine lv_aload_n hx hb dL_law_454 rfl (lv_at hl 6 rfl) ?_
  refine lv_iload hx hb dL_law_455 (lv_at hl 1 rfl) ?_
  refine lv_iconst (v := nI 1) hx hb dL_law_457 (by decide) ?_
  refine lv_iadd hx hb dL_law_458 ?_
  refine lv_asI (y := nI 1) (by decide) ?_
  refine va_sld hx hb hX hbl hbA hS (vp_in_nI (by decide) (by decide)) dL_law_459 ?_
  refine lv_asI (y := x) ((congrArg xs (nI_clamp (by decide))).trans hx1) ?_
  refine lv_aload_n hx hb dL_law_460 rfl (lv_at hl 6 rfl) ?_
  refine lv_iload hx hb dL_law_461 (lv_at hl 1 rfl) ?_
  refine lv_iconst (v := nI 2) hx hb dL_law_463 (by decide) ?_
  refine lv_iadd hx hb dL_law_464 ?_
  refine lv_asI (y := nI 2) (by decide) ?_
  refine va_sld hx hb hX hbl hbA hS (vp_in_nI (by decide) (by decide)) dL_law_465 ?_
  refine lv_asI (y := y) ((congrArg xs (nI_clamp (by decide))).trans hx2) ?_
  refine lv_aload_n hx hb dL_law_466 rfl (lv_at hl 6 rfl) ?_
  refine lv_iload hx hb dL_law_467 (lv_at hl 1 rfl) ?_
  refine lv_iconst (v := nI 3) hx hb dL_law_469 (by decide) ?_
  refine lv_iadd hx hb dL_law_470 ?_
  refine lv_asI (y := nI 3) (by decide) ?_
  refine va_sld hx hb hX hbl hbA hS (vp_in_nI (by decide) (by decide)) dL_law_471 ?_
  refine lv_asI (y := b3) ((congrArg xs (nI_clamp (by decide))).trans hx3) ?_
  refine lv_if_eq (tgt := 479) hx hb dL_law_472 (by decide) (fun _ => ?_) (fun c9 => absurd (h3) c9)
  refine lv_iconst (v := nI 0) hx hb dL_law_479 (by decide) ?_
  refine iw_i (va_runV (As := [.int x, .int y, .int (nI 0)]) (rest := []) ⟨hx, hb, hml, hown, hts⟩ (kX9_map_1 l G 83 ad _ 74 dz (nI 0) hmod x y (nI 0) h _) (cwV 3 hts gL_law_X9_map rfl rfl rfl (by decide +kernel) ⟨Nat.le_of_ble_eq_true rfl, Nat.le_of_ble_eq_true rfl⟩) (iPV hK hP hD (by decide) (hmod.2.1) rfl [.int x, .int y, .int (nI 0)]) rfl rfl hl.1 rfl (lv_room (Nat.le_of_ble_eq_true rfl)) dL_law_480 ⟨Nat.le_of_ble_eq_true rfl, Nat.le_of_ble_eq_true rfl⟩) hD hS hA (fun r9 u9 H locs hw9 hP hD hS => ?_)
  obtain ⟨hr9, ⟨d9, ht9⟩, hm9⟩ := hw9
  refine lv_asI (y := nI 0) hr9 ?_
  refine lv_istore (lv' := [(7, .int (nI 0)), (6, .int (nI 1)), (5, .int (nI 0)), (4, .ref (ad 82)), (3, .ref (ad 81)), (2, .ref (ad 74)), (1, .ref (ad 0)), (0, .ref b)]) hx hb dL_law_483 hl (by decide) rfl (fun ls hl => ?_)
  refine lv_aload_n hx hb dL_law_485 rfl (lv_at hl 5 rfl) ?_
  refine iw_i (va_runV (As := []) (rest := []) ⟨hx, hb, hml, hown, hts⟩ (kX9_thrown l G 83 ad _ 74 (by decide) (nI 1) d9 ht9 _) (cwV 0 hts gL_law_X9_thrown rfl rfl rfl (by decide +kernel) ⟨Nat.le_of_ble_eq_true rfl, Nat.le_of_ble_eq_true rfl⟩) (iPV hK hP hD (by decide) (ht9) rfl []) rfl rfl hl.1 rfl (lv_room (Nat.le_of_ble_eq_true rfl)) dL_law_486 ⟨Nat.le_of_ble_eq_true rfl, Nat.le_of_ble_eq_true rfl⟩) hD hS hA (fun r7 u7 H locs hw7 hP hD hS => ?_)
  obtain ⟨hr7, hu7⟩ := hw7
  rw [hu7] at hP hD
  refine lv_asI hr7 ?_
  refine lv_iload hx hb dL_law_489 (lv_at hl 1 rfl) ?_
  refine lv_icmp_eq (tgt := 496) hx hb dL_law_491 (by decide) (fun _ => ?_) (fun c9 => absurd (by decide) c9)
  refine lv_iload hx hb dL_law_496 (lv_at hl 1 rfl) ?_
  refine lv_if_ne (tgt := 513) hx hb dL_law_498 (by decide) (fun _ => ?_) (fun c9 => absurd c9 (by decide))
  refine lv_goto (tgt := 1906) hx hb dL_law_513 (by decide) ?_
  refine W.widen (k := 300) (n := 6500) (Nat.le_of_ble_eq_true rfl) (Nat.le_of_ble_eq_true rfl) ?_
  exact kt H locs ls hS (lv_sub hl [2, 7] rfl)
set_option maxHeartbeats 4000000 in
set_option maxRecDepth 100000 in
theorem lc_map_vf {p : Program} {l : Launch} {e : Env} {s : State} {m : MethodId} {below : List Frame} {meth : Method} {c : Code} {b dz : Nat} {xs : Nat → Int32} {G : iG} {Q : State → Prop} (hst : l.stackTraces = false) (hx : p.tables.exec = Jvm.exec) (hb : c.code = cL_law) (hml : c.maxLocals = 9) (hts : ∀ w ∈ wsL_law, w.before #[Value.ref b] s = true) (hown : s.vm.findClass RL = some m.cls) (hX : va_X b 6 xs s s.heap) (hbl : b < s.heap.size) (hK : KB G s) (hV : VX s) (hZt : ZT (aA s) s s.heap) (hZ : ZD dz (aA s) s s.heap) {ad : Nat → Nat} {C : Nat → va_E} {H : Heap} {locs : List Loc} {ls : Array Slot} (hcam : Cam G 83 ad C 0 S0) (hmod : Mod G 83 ad C 74 dz (nI 0)) (glo : C 81 = la G 1 (fun _ => 0)) (hP : va_P G.1 vwB (wl 83 ad C) H) (hD : va_D (aA s) (wl 83 ad C)) (hS : va_S (aA s) s.heap H locs) (hl : lv_has ls 9 [(5, .int (nI 0)), (4, .ref (ad 82)), (3, .ref (ad 81)), (2, .ref (ad 74)), (1, .ref (ad 0)), (0, .ref b)]) (kt : ∀ (H : Heap) (locs : List Loc) (ls : Array Slot), va_S (aA s) s.heap H locs → lv_has ls 9 [(5, .int (nI 0)), (0, .ref b)] → W p l e room_1 s m #[Value.ref b] below meth c H locs 300 6500 Q (F0 m 1906 ls [])) (x y : Nat) (hx8 : x < 8) (hy8 : y < 8) (b3 : Int32) (hx1 : xs 1 = nI x) (hx2 : xs 2 = nI y) (hx3 : xs 3 = b3) (h3 : b3 = 0) : W p l e room_1 s m #[Value.ref b] below meth c H locs 83 1901 Q (F0 m 420 ls []) := by
  have hbA : ¬ aA s b := Nat.not_le.mpr hbl
  have hA : ∀ q : Nat, s.heap.size ≤ q → aA s q := fun _ h => h
  refine lv_aload_n hx hb dL_law_420 rfl (lv_at hl 4 rfl) ?_
  refine lv_aload_n hx hb dL_law_421 rfl (lv_at hl 5 rfl) ?_
  refine lv_iload hx hb dL_law_422 (lv_at hl 0 rfl) ?_
  refine lv_iconst (v := nI 1) hx hb dL_law_424 (by decide) ?_
  refine lv_iadd hx hb dL_law_425 ?_
  refine lv_asI (y := nI 1) (by decide) ?_
  refine va_sld hx hb hX hbl hbA hS (vp_in_nI (by decide) (by decide)) dL_law_426 ?_
  refine lv_asI (y := nI x) ((congrArg xs (nI_clamp (by decide))).trans hx1) ?_
  refine lv_aload_n hx hb dL_law_427 rfl (lv_at hl 5 rfl) ?_
  refine lv_iload hx hb dL_law_428 (lv_at hl 0 rfl) ?_
  refine lv_iconst (v := nI 2) hx hb dL_law_430 (by decide) ?_
  refine lv_iadd hx hb dL_law_431 ?_
  refine lv_asI (y := nI 2) (by decide) ?_
  refine va_sld hx hb hX hbl hbA hS (vp_in_nI (by decide) (by decide)) dL_law_432 ?_
  refine lv_asI (y := nI y) ((congrArg xs (nI_clamp (by decide))).trans hx2) ?_
  refine lv_aload_n hx hb dL_law_433 rfl (lv_at hl 5 rfl) ?_
  refine lv_iload hx hb dL_law_434 (lv_at hl 0 rfl) ?_
  refine lv_iconst (v := nI 3) hx hb dL_law_436 (by decide) ?_
  refine lv_iadd hx hb dL_law_437 ?_
  refine lv_asI (y := nI 3) (by decide) ?_
  refine va_sld hx hb hX hbl hbA hS (vp_in_nI (by decide) (by decide)) dL_law_438 ?_
  refine lv_asI (y := b3) ((congrArg xs (nI_clamp (by decide))).trans hx3) ?_
  refine lv_if_eq (tgt := 446) hx hb dL_law_439 (by decide) (fun _ => ?_) (fun c9 => absurd (h3) c9)
  refine lv_iconst (v := nI 0) hx hb dL_law_446 (by decide) ?_
  refine lv_aload_n hx hb dL_law_447 rfl (lv_at hl 2 rfl) ?_
  refine iwx_i (vx_runSX (hh := [(0, 12, 15, 13)]) (As := [.ref (ad 0), .int (nI x), .int (nI y), .int (nI 0), .ref (ad 81)]) (rest := []) ⟨hx, hb, hml, hown, hts⟩ (wL_map l G 83 ad _ 0 S0 hcam 81 (by decide) (Or.inr (by decide)) _ glo x y hx8 hy8 false _) (vx_cwSW 5 hts gL_law_L_map rfl rfl rfl (by decide +kernel) ⟨Nat.le_of_ble_eq_true rfl, Nat.le_of_ble_eq_true rfl⟩) (iPSX hK hV hZt hS hA hP hD [.ref (ad 0), .int (nI x), .int (nI y), .int (nI 0), .ref (ad 81)]) rfl rfl hl.1 rfl (lv_room (Nat.le_of_ble_eq_true rfl)) dL_law_448 ⟨Nat.le_of_ble_eq_true rfl, Nat.le_of_ble_eq_true rfl⟩) hD hS hA (fun r8 u8 H locs hw8 hP hD hS => ?_)
  obtain ⟨hr8, ⟨f8, hf8, hv8⟩, hs8⟩ := hw8
  refine lv_asI hr8 ?_
  have hmod := Mod_same hmod (fun i h1 h2 => hs8 i (Or.inr (by omega)) (by omega))
  refine lv_istore (lv' := [(6, .int (nI 0)), (5, .int (nI 0)), (4, .ref (ad 82)), (3, .ref (ad 81)), (2, .ref (ad 74)), (1, .ref (ad 0)), (0, .ref b)]) hx hb dL_law_451 hl (by decide) rfl (fun ls hl => ?_)
  refine lv_aload_n hx hb dL_law_453 rfl (lv_at hl 4 rfl) ?_
  refine lv_aload_n hx hb dL_law_454 rfl (lv_at hl 6 rfl) ?_
  refine lv_iload hx hb dL_law_455 (lv_at hl 1 rfl) ?_
  refine lv_iconst (v := nI 1) hx hb dL_law_457 (by decide) ?_
  refine lv_iadd hx hb dL_law_458 ?_
  refine lv_asI (y := nI 1) (by decide) ?_
  refine va_sld hx hb hX hbl hbA hS (vp_in_nI (by decide) (by decide)) dL_law_459 ?_
  refine lv_asI (y := nI x) ((congrArg xs (nI_clamp (by decide))).trans hx1) ?_
  refine lv_aload_n hx hb dL_law_460 rfl (lv_at hl 6 rfl) ?_
  refine lv_iload hx hb dL_law_461 (lv_at hl 1 rfl) ?_
  refine lv_iconst (v := nI 2) hx hb dL_law_463 (by decide) ?_
  refine lv_iadd hx hb dL_law_464 ?_
  refine lv_asI (y := nI 2) (by decide) ?_
  refine va_sld hx hb hX hbl hbA hS (vp_in_nI (by decide) (by decide)) dL_law_465 ?_
  refine lv_asI (y := nI y) ((congrArg xs (nI_clamp (by decide))).trans hx2) ?_
  refine lv_aload_n hx hb dL_law_466 rfl (lv_at hl 6 rfl) ?_
  refine lv_iload hx hb dL_law_467 (lv_at hl 1 rfl) ?_
  refine lv_iconst (v := nI 3) hx hb dL_law_469 (by decide) ?_
  refine lv_iadd hx hb dL_law_470 ?_
  refine lv_asI (y := nI 3) (by decide) ?_
  refine va_sld hx hb hX hbl hbA hS (vp_in_nI (by decide) (by decide)) dL_law_471 ?_
  refine lv_asI (y := b3) ((congrArg xs (nI_clamp (by decide))).trans hx3) ?_
  refine lv_if_eq (tgt := 479) hx hb dL_law_472 (by decide) (fun _ => ?_) (fun c9 => absurd (h3) c9)
  refine lv_iconst (v := nI 0) hx hb dL_law_479 (by decide) ?_
  refine iw_i (va_runV (As := [.int (nI x), .int (nI y), .int (nI 0)]) (rest := []) ⟨hx, hb, hml, hown, hts⟩ (kX9_map l G 83 ad _ 74 dz (nI 0) hmod x y hx8 hy8 false _) (cwV 3 hts gL_law_X9_map rfl rfl rfl (by decide +kernel) ⟨Nat.le_of_ble_eq_true rfl, Nat.le_of_ble_eq_true rfl⟩) (iPV hK hP hD (by decide) (hmod.2.1) rfl [.int (nI x), .int (nI y), .int (nI 0)]) rfl rfl hl.1 rfl (lv_room (Nat.le_of_ble_eq_true rfl)) dL_law_480 ⟨Nat.le_of_ble_eq_true rfl, Nat.le_of_ble_eq_true rfl⟩) hD hS hA (fun r9 u9 H locs hw9 hP hD hS => ?_)
  obtain ⟨hr9, ⟨d9, ht9⟩, hm9⟩ := hw9
  refine lv_asI (y := nI (ctN (va_up (sMp S0) (8 * y + x) false) 64)) (hr9.trans (rfl)) ?_
  refine lv_istore (lv' := [(7, .int (nI (ctN (va_up (sMp S0) (8 * y + x) false) 64))), (6, .int (nI 0)), (5, .int (nI 0)), (4, .ref (ad 82)), (3, .ref (ad 81)), (2, .ref (ad 74)), (1, .ref (ad 0)), (0, .ref b)]) hx hb dL_law_483 hl (by decide) rfl (fun ls hl => ?_)
  refine lv_aload_n hx hb dL_law_485 rfl (lv_at hl 5 rfl) ?_
  refine iw_i (va_runV (As := []) (rest := []) ⟨hx, hb, hml, hown, hts⟩ (kX9_thrown l G 83 ad _ 74 (by decide) (nI 0) d9 ht9 _) (cwV 0 hts gL_law_X9_thrown rfl rfl rfl (by decide +kernel) ⟨Nat.le_of_ble_eq_true rfl, Nat.le_of_ble_eq_true rfl⟩) (iPV hK hP hD (by decide) (ht9) rfl []) rfl rfl hl.1 rfl (lv_room (Nat.le_of_ble_eq_true rfl)) dL_law_486 ⟨Nat.le_of_ble_eq_true rfl, Nat.le_of_ble_eq_true rfl⟩) hD hS hA (fun r7 u7 H locs hw7 hP hD hS => ?_)
  obtain ⟨hr7, hu7⟩ := hw7
  rw [hu7] at hP hD
  refine lv_asI hr7 ?_
  refine lv_iload hx hb dL_law_489 (lv_at hl 1 rfl) ?_
  refine lv_icmp_eq (tgt := 496) hx hb dL_law_491 (by decide) (fun _ => ?_) (fun c9 => absurd (by decide) c9)
  refine lv_iload hx hb dL_law_496 (lv_at hl 1 rfl) ?_
  refine lv_if_ne (tgt := 513) hx hb dL_law_498 (by decide) (fun c9 => absurd (by decide) c9) (fun _ => ?_)
  refine lv_aload_n hx hb dL_law_501 rfl (lv_at hl 4 rfl) ?_
  refine lv_iconst (v := nI 0) hx hb dL_law_502 (by decide) ?_
  refine iw_lald (v := ((nI (ctN (va_up (sMp S0) (8 * y + x) false) 64))).toInt64) hx hb hK hP (by decide) (((hm9 81 (Or.inr (by decide))).trans hf8)) (vp_in_nI (show 0 < 1 by omega) (by omega)) ((congrArg f8 (nI_clamp (by decide))).trans hv8) dL_law_503 ?_
  refine lv_iload hx hb dL_law_504 (lv_at hl 0 rfl) ?_
  refine lv_i2l (v := (nI (ctN (va_up (sMp S0) (8 * y + x) false) 64)).toInt64) hx hb dL_law_506 rfl ?_
  refine lv_lcmpE hx hb dL_law_507 ?_
  refine lv_if_eq (tgt := 513) hx hb dL_law_508 (by decide) (fun _ => ?_) (fun c9 => absurd (by decide) c9)
  refine lv_goto (tgt := 1906) hx hb dL_law_513 (by decide) ?_
  refine W.widen (k := 300) (n := 6500) (Nat.le_of_ble_eq_true rfl) (Nat.le_of_ble_eq_true rfl) ?_
  exact kt H locs ls hS (lv_sub hl [2, 7] rfl)
set_option maxHeartbeats 4000000 in
set_option maxRecDepth 100000 in
theorem lc_merge_1 {p : Program} {l : Launch} {e : Env} {s : State} {m : MethodId} {below : List Frame} {meth : Method} {c : Code} {b dz : Nat} {xs : Nat → Int32} {G : iG} {Q : State → Prop} (hst : l.stackTraces = false) (hx : p.tables.exec = Jvm.exec) (hb : c.code = cL_law) (hml : c.maxLocals = 9) (hts : ∀ w ∈ wsL_law, w.before #[Value.ref b] s = true) (hown : s.vm.findClass RL = some m.cls) (hX : va_X b 6 xs s s.heap) (hbl : b < s.heap.size) (hK : KB G s) (hV : VX s) (hZt : ZT (aA s) s s.heap) (hZ : ZD dz (aA s) s s.heap) {ad : Nat → Nat} {C : Nat → va_E} {H : Heap} {locs : List Loc} {ls : Array Slot} (hcam : Cam G 83 ad C 0 S0) (hmod : Mod G 83 ad C 74 dz (nI 0)) (glo : C 81 = la G 1 (fun _ => 0)) (hP : va_P G.1 vwB (wl 83 ad C) H) (hD : va_D (aA s) (wl 83 ad C)) (hS : va_S (aA s) s.heap H locs) (hl : lv_has ls 9 [(5, .int (nI 0)), (4, .ref (ad 82)), (3, .ref (ad 81)), (2, .ref (ad 74)), (1, .ref (ad 0)), (0, .ref b)]) (kt : ∀ (H : Heap) (locs : List Loc) (ls : Array Slot), va_S (aA s) s.heap H locs → lv_has ls 9 [(5, .int (nI 0)), (0, .ref b)] → W p l e room_1 s m #[Value.ref b] below meth c H locs 300 6500 Q (F0 m 1906 ls [])) (k li : Int32) (h : k < nI 0 ∨ nI 0 < k) (hx1 : xs 1 = k) (hx2 : xs 2 = li) : W p l e room_1 s m #[Value.ref b] below meth c H locs 83 1901 Q (F0 m 584 ls []) := by
  have hbA : ¬ aA s b := Nat.not_le.mpr hbl
  have hA : ∀ q : Nat, s.heap.size ≤ q → aA s q := fun _ h => h
  refine lv_aload_n hx hb dL_law_584 rfl (lv_at hl 4 rfl) ?_
  refine lv_aload_n hx hb dL_law_585 rfl (lv_at hl 5 rfl) ?_
  refine lv_iload hx hb dL_law_586 (lv_at hl 0 rfl) ?_
  refine lv_iconst (v := nI 1) hx hb dL_law_588 (by decide) ?_
  refine lv_iadd hx hb dL_law_589 ?_
  refine lv_asI (y := nI 1) (by decide) ?_
  refine va_sld hx hb hX hbl hbA hS (vp_in_nI (by decide) (by decide)) dL_law_590 ?_
  refine lv_asI (y := k) ((congrArg xs (nI_clamp (by decide))).trans hx1) ?_
  refine lv_aload_n hx hb dL_law_591 rfl (lv_at hl 5 rfl) ?_
  refine lv_iload hx hb dL_law_592 (lv_at hl 0 rfl) ?_
  refine lv_iconst (v := nI 2) hx hb dL_law_594 (by decide) ?_
  refine lv_iadd hx hb dL_law_595 ?_
  refine lv_asI (y := nI 2) (by decide) ?_
  refine va_sld hx hb hX hbl hbA hS (vp_in_nI (by decide) (by decide)) dL_law_596 ?_
  refine lv_asI (y := li) ((congrArg xs (nI_clamp (by decide))).trans hx2) ?_
  refine lv_aload_n hx hb dL_law_597 rfl (lv_at hl 2 rfl) ?_
  refine iwx_i (vx_runSX (hh := [(0, 10, 13, 15), (0, 10, 17, 32)]) (As := [.ref (ad 0), .int k, .int li, .ref (ad 81)]) (rest := []) ⟨hx, hb, hml, hown, hts⟩ (wL_merge_1 l hst G 83 ad _ 0 S0 hcam 81 rfl k li h _) (vx_cwSW 4 hts gL_law_L_merge rfl rfl rfl (by decide +kernel) ⟨Nat.le_of_ble_eq_true rfl, Nat.le_of_ble_eq_true rfl⟩) (iPSX hK hV hZt hS hA hP hD [.ref (ad 0), .int k, .int li, .ref (ad 81)]) rfl rfl hl.1 rfl (lv_room (Nat.le_of_ble_eq_true rfl)) dL_law_598 ⟨Nat.le_of_ble_eq_true rfl, Nat.le_of_ble_eq_true rfl⟩) hD hS hA (fun r8 u8 H locs hw8 hP hD hS => ?_)
  obtain ⟨hr8, hu8⟩ := hw8
  rw [hu8] at hP hD
  refine lv_asI hr8 ?_
  refine lv_istore (lv' := [(6, .int (nI 1)), (5, .int (nI 0)), (4, .ref (ad 82)), (3, .ref (ad 81)), (2, .ref (ad 74)), (1, .ref (ad 0)), (0, .ref b)]) hx hb dL_law_601 hl (by decide) rfl (fun ls hl => ?_)
  refine lv_aload_n hx hb dL_law_603 rfl (lv_at hl 4 rfl) ?_
  refine lv_aload_n hx hb dL_law_604 rfl (lv_at hl 6 rfl) ?_
  refine lv_iload hx hb dL_law_605 (lv_at hl 1 rfl) ?_
  refine lv_iconst (v := nI 1) hx hb dL_law_607 (by decide) ?_
  refine lv_iadd hx hb dL_law_608 ?_
  refine lv_asI (y := nI 1) (by decide) ?_
  refine va_sld hx hb hX hbl hbA hS (vp_in_nI (by decide) (by decide)) dL_law_609 ?_
  refine lv_asI (y := k) ((congrArg xs (nI_clamp (by decide))).trans hx1) ?_
  refine lv_aload_n hx hb dL_law_610 rfl (lv_at hl 6 rfl) ?_
  refine lv_iload hx hb dL_law_611 (lv_at hl 1 rfl) ?_
  refine lv_iconst (v := nI 2) hx hb dL_law_613 (by decide) ?_
  refine lv_iadd hx hb dL_law_614 ?_
  refine lv_asI (y := nI 2) (by decide) ?_
  refine va_sld hx hb hX hbl hbA hS (vp_in_nI (by decide) (by decide)) dL_law_615 ?_
  refine lv_asI (y := li) ((congrArg xs (nI_clamp (by decide))).trans hx2) ?_
  refine iw_i (va_runV (As := [.int k, .int li]) (rest := []) ⟨hx, hb, hml, hown, hts⟩ (kX9_merge l G 83 ad _ 74 dz (nI 0) hmod k li _) (cwV 2 hts gL_law_X9_merge rfl rfl rfl (by decide +kernel) ⟨Nat.le_of_ble_eq_true rfl, Nat.le_of_ble_eq_true rfl⟩) (iPVV hK hV hP hD (by decide) (hmod.2.1) rfl [.int k, .int li]) rfl rfl hl.1 rfl (lv_room (Nat.le_of_ble_eq_true rfl)) dL_law_616 ⟨Nat.le_of_ble_eq_true rfl, Nat.le_of_ble_eq_true rfl⟩) hD hS hA (fun r9 u9 H locs hw9 hP hD hS => ?_)
  obtain ⟨hr9, ⟨d9, ht9⟩, hm9⟩ := hw9
  refine lv_asI (y := nI 0) hr9 ?_
  refine lv_istore (lv' := [(7, .int (nI 0)), (6, .int (nI 1)), (5, .int (nI 0)), (4, .ref (ad 82)), (3, .ref (ad 81)), (2, .ref (ad 74)), (1, .ref (ad 0)), (0, .ref b)]) hx hb dL_law_619 hl (by decide) rfl (fun ls hl => ?_)
  refine lv_aload_n hx hb dL_law_621 rfl (lv_at hl 5 rfl) ?_
  refine iw_i (va_runV (As := []) (rest := []) ⟨hx, hb, hml, hown, hts⟩ (kX9_thrown l G 83 ad _ 74 (by decide) (nI 1) d9 ht9 _) (cwV 0 hts gL_law_X9_thrown rfl rfl rfl (by decide +kernel) ⟨Nat.le_of_ble_eq_true rfl, Nat.le_of_ble_eq_true rfl⟩) (iPV hK hP hD (by decide) (ht9) rfl []) rfl rfl hl.1 rfl (lv_room (Nat.le_of_ble_eq_true rfl)) dL_law_622 ⟨Nat.le_of_ble_eq_true rfl, Nat.le_of_ble_eq_true rfl⟩) hD hS hA (fun r7 u7 H locs hw7 hP hD hS => ?_)
  obtain ⟨hr7, hu7⟩ := hw7
  rw [hu7] at hP hD
  refine lv_asI hr7 ?_
  refine lv_iload hx hb dL_law_625 (lv_at hl 1 rfl) ?_
  refine lv_icmp_eq (tgt := 632) hx hb dL_law_627 (by decide) (fun _ => ?_) (fun c9 => absurd (by decide) c9)
  refine lv_iload hx hb dL_law_632 (lv_at hl 1 rfl) ?_
  refine lv_if_ne (tgt := 649) hx hb dL_law_634 (by decide) (fun _ => ?_) (fun c9 => absurd c9 (by decide))
  refine lv_goto (tgt := 1906) hx hb dL_law_649 (by decide) ?_
  refine W.widen (k := 300) (n := 6500) (Nat.le_of_ble_eq_true rfl) (Nat.le_of_ble_eq_true rfl) ?_
  exact kt H locs ls hS (lv_sub hl [2, 7] rfl)
set_option maxHeartbeats 4000000 in
set_option maxRecDepth 100000 in
theorem lc_merge_2 {p : Program} {l : Launch} {e : Env} {s : State} {m : MethodId} {below : List Frame} {meth : Method} {c : Code} {b dz : Nat} {xs : Nat → Int32} {G : iG} {Q : State → Prop} (hst : l.stackTraces = false) (hx : p.tables.exec = Jvm.exec) (hb : c.code = cL_law) (hml : c.maxLocals = 9) (hts : ∀ w ∈ wsL_law, w.before #[Value.ref b] s = true) (hown : s.vm.findClass RL = some m.cls) (hX : va_X b 6 xs s s.heap) (hbl : b < s.heap.size) (hK : KB G s) (hV : VX s) (hZt : ZT (aA s) s s.heap) (hZ : ZD dz (aA s) s s.heap) {ad : Nat → Nat} {C : Nat → va_E} {H : Heap} {locs : List Loc} {ls : Array Slot} (hcam : Cam G 83 ad C 0 S0) (hmod : Mod G 83 ad C 74 dz (nI 0)) (glo : C 81 = la G 1 (fun _ => 0)) (hP : va_P G.1 vwB (wl 83 ad C) H) (hD : va_D (aA s) (wl 83 ad C)) (hS : va_S (aA s) s.heap H locs) (hl : lv_has ls 9 [(5, .int (nI 0)), (4, .ref (ad 82)), (3, .ref (ad 81)), (2, .ref (ad 74)), (1, .ref (ad 0)), (0, .ref b)]) (kt : ∀ (H : Heap) (locs : List Loc) (ls : Array Slot), va_S (aA s) s.heap H locs → lv_has ls 9 [(5, .int (nI 0)), (0, .ref b)] → W p l e room_1 s m #[Value.ref b] below meth c H locs 300 6500 Q (F0 m 1906 ls [])) (li : Int32) (hx1 : xs 1 = nI 0) (hx2 : xs 2 = li) : W p l e room_1 s m #[Value.ref b] below meth c H locs 83 1901 Q (F0 m 584 ls []) := by
  have hbA : ¬ aA s b := Nat.not_le.mpr hbl
  have hA : ∀ q : Nat, s.heap.size ≤ q → aA s q := fun _ h => h
  refine lv_aload_n hx hb dL_law_584 rfl (lv_at hl 4 rfl) ?_
  refine lv_aload_n hx hb dL_law_585 rfl (lv_at hl 5 rfl) ?_
  refine lv_iload hx hb dL_law_586 (lv_at hl 0 rfl) ?_
  refine lv_iconst (v := nI 1) hx hb dL_law_588 (by decide) ?_
  refine lv_iadd hx hb dL_law_589 ?_
  refine lv_asI (y := nI 1) (by decide) ?_
  refine va_sld hx hb hX hbl hbA hS (vp_in_nI (by decide) (by decide)) dL_law_590 ?_
  refine lv_asI (y := nI 0) ((congrArg xs (nI_clamp (by decide))).trans hx1) ?_
  refine lv_aload_n hx hb dL_law_591 rfl (lv_at hl 5 rfl) ?_
  refine lv_iload hx hb dL_law_592 (lv_at hl 0 rfl) ?_
  refine lv_iconst (v := nI 2) hx hb dL_law_594 (by decide) ?_
  refine lv_iadd hx hb dL_law_595 ?_
  refine lv_asI (y := nI 2) (by decide) ?_
  refine va_sld hx hb hX hbl hbA hS (vp_in_nI (by decide) (by decide)) dL_law_596 ?_
  refine lv_asI (y := li) ((congrArg xs (nI_clamp (by decide))).trans hx2) ?_
  refine lv_aload_n hx hb dL_law_597 rfl (lv_at hl 2 rfl) ?_
  refine iwx_i (vx_runSX (hh := [(0, 10, 13, 15), (0, 10, 17, 32)]) (As := [.ref (ad 0), .int (nI 0), .int li, .ref (ad 81)]) (rest := []) ⟨hx, hb, hml, hown, hts⟩ (wL_merge_2 l hst G 83 ad _ 0 S0 hcam 81 rfl li _) (vx_cwSW 4 hts gL_law_L_merge rfl rfl rfl (by decide +kernel) ⟨Nat.le_of_ble_eq_true rfl, Nat.le_of_ble_eq_true rfl⟩) (iPSX hK hV hZt hS hA hP hD [.ref (ad 0), .int (nI 0), .int li, .ref (ad 81)]) rfl rfl hl.1 rfl (lv_room (Nat.le_of_ble_eq_true rfl)) dL_law_598 ⟨Nat.le_of_ble_eq_true rfl, Nat.le_of_ble_eq_true rfl⟩) hD hS hA (fun r8 u8 H locs hw8 hP hD hS => ?_)
  obtain ⟨hr8, hu8⟩ := hw8
  rw [hu8] at hP hD
  refine lv_asI hr8 ?_
  refine lv_istore (lv' := [(6, .int (nI 1)), (5, .int (nI 0)), (4, .ref (ad 82)), (3, .ref (ad 81)), (2, .ref (ad 74)), (1, .ref (ad 0)), (0, .ref b)]) hx hb dL_law_601 hl (by decide) rfl (fun ls hl => ?_)
  refine lv_aload_n hx hb dL_law_603 rfl (lv_at hl 4 rfl) ?_
  refine lv_aload_n hx hb dL_law_604 rfl (lv_at hl 6 rfl) ?_
  refine lv_iload hx hb dL_law_605 (lv_at hl 1 rfl) ?_
  refine lv_iconst (v := nI 1) hx hb dL_law_607 (by decide) ?_
  refine lv_iadd hx hb dL_law_608 ?_
  refine lv_asI (y := nI 1) (by decide) ?_
  refine va_sld hx hb hX hbl hbA hS (vp_in_nI (by decide) (by decide)) dL_law_609 ?_
  refine lv_asI (y := nI 0) ((congrArg xs (nI_clamp (by decide))).trans hx1) ?_
  refine lv_aload_n hx hb dL_law_610 rfl (lv_at hl 6 rfl) ?_
  refine lv_iload hx hb dL_law_611 (lv_at hl 1 rfl) ?_
  refine lv_iconst (v := nI 2) hx hb dL_law_613 (by decide) ?_
  refine lv_iadd hx hb dL_law_614 ?_
  refine lv_asI (y := nI 2) (by decide) ?_
  refine va_sld hx hb hX hbl hbA hS (vp_in_nI (by decide) (by decide)) dL_law_615 ?_
  refine lv_asI (y := li) ((congrArg xs (nI_clamp (by decide))).trans hx2) ?_
  refine iw_i (va_runV (As := [.int (nI 0), .int li]) (rest := []) ⟨hx, hb, hml, hown, hts⟩ (kX9_merge l G 83 ad _ 74 dz (nI 0) hmod (nI 0) li _) (cwV 2 hts gL_law_X9_merge rfl rfl rfl (by decide +kernel) ⟨Nat.le_of_ble_eq_true rfl, Nat.le_of_ble_eq_true rfl⟩) (iPVV hK hV hP hD (by decide) (hmod.2.1) rfl [.int (nI 0), .int li]) rfl rfl hl.1 rfl (lv_room (Nat.le_of_ble_eq_true rfl)) dL_law_616 ⟨Nat.le_of_ble_eq_true rfl, Nat.le_of_ble_eq_true rfl⟩) hD hS hA (fun r9 u9 H locs hw9 hP hD hS => ?_)
  obtain ⟨hr9, ⟨d9, ht9⟩, hm9⟩ := hw9
  refine lv_asI (y := nI 0) hr9 ?_
  refine lv_istore (lv' := [(7, .int (nI 0)), (6, .int (nI 1)), (5, .int (nI 0)), (4, .ref (ad 82)), (3, .ref (ad 81)), (2, .ref (ad 74)), (1, .ref (ad 0)), (0, .ref b)]) hx hb dL_law_619 hl (by decide) rfl (fun ls hl => ?_)
  refine lv_aload_n hx hb dL_law_621 rfl (lv_at hl 5 rfl) ?_
  refine iw_i (va_runV (As := []) (rest := []) ⟨hx, hb, hml, hown, hts⟩ (kX9_thrown l G 83 ad _ 74 (by decide) (nI 1) d9 ht9 _) (cwV 0 hts gL_law_X9_thrown rfl rfl rfl (by decide +kernel) ⟨Nat.le_of_ble_eq_true rfl, Nat.le_of_ble_eq_true rfl⟩) (iPV hK hP hD (by decide) (ht9) rfl []) rfl rfl hl.1 rfl (lv_room (Nat.le_of_ble_eq_true rfl)) dL_law_622 ⟨Nat.le_of_ble_eq_true rfl, Nat.le_of_ble_eq_true rfl⟩) hD hS hA (fun r7 u7 H locs hw7 hP hD hS => ?_)
  obtain ⟨hr7, hu7⟩ := hw7
  rw [hu7] at hP hD
  refine lv_asI hr7 ?_
  refine lv_iload hx hb dL_law_625 (lv_at hl 1 rfl) ?_
  refine lv_icmp_eq (tgt := 632) hx hb dL_law_627 (by decide) (fun _ => ?_) (fun c9 => absurd (by decide) c9)
  refine lv_iload hx hb dL_law_632 (lv_at hl 1 rfl) ?_
  refine lv_if_ne (tgt := 649) hx hb dL_law_634 (by decide) (fun _ => ?_) (fun c9 => absurd c9 (by decide))
  refine lv_goto (tgt := 1906) hx hb dL_law_649 (by decide) ?_
  refine W.widen (k := 300) (n := 6500) (Nat.le_of_ble_eq_true rfl) (Nat.le_of_ble_eq_true rfl) ?_
  exact kt H locs ls hS (lv_sub hl [2, 7] rfl)
set_option maxHeartbeats 4000000 in
set_option maxRecDepth 100000 in
theorem lc_edit_1 {p : Program} {l : Launch} {e : Env} {s : State} {m : MethodId} {below : List Frame} {meth : Method} {c : Code} {b dz : Nat} {xs : Nat → Int32} {G : iG} {Q : State → Prop} (hst : l.stackTraces = false) (hx : p.tables.exec = Jvm.exec) (hb : c.code = cL_law) (hml : c.maxLocals = 9) (hts : ∀ w ∈ wsL_law, w.before #[Value.ref b] s = true) (hown : s.vm.findClass RL = some m.cls) (hX : va_X b 6 xs s s.heap) (hbl : b < s.heap.size) (hK : KB G s) (hV : VX s) (hZt : ZT (aA s) s s.heap) (hZ : ZD dz (aA s) s s.heap) {ad : Nat → Nat} {C : Nat → va_E} {H : Heap} {locs : List Loc} {ls : Array Slot} (hcam : Cam G 83 ad C 0 S0) (hmod : Mod G 83 ad C 74 dz (nI 0)) (glo : C 81 = la G 1 (fun _ => 0)) (hP : va_P G.1 vwB (wl 83 ad C) H) (hD : va_D (aA s) (wl 83 ad C)) (hS : va_S (aA s) s.heap H locs) (hl : lv_has ls 9 [(5, .int (nI 0)), (4, .ref (ad 82)), (3, .ref (ad 81)), (2, .ref (ad 74)), (1, .ref (ad 0)), (0, .ref b)]) (kt : ∀ (H : Heap) (locs : List Loc) (ls : Array Slot), va_S (aA s) s.heap H locs → lv_has ls 9 [(5, .int (nI 0)), (0, .ref b)] → W p l e room_1 s m #[Value.ref b] below meth c H locs 300 6500 Q (F0 m 1906 ls [])) (k y0 y1 : Int32) (hx1 : xs 1 = k) (hx2 : xs 2 = y0) (hx3 : xs 3 = y1) : W p l e room_1 s m #[Value.ref b] below meth c H locs 83 1901 Q (F0 m 652 ls []) := by
  have hbA : ¬ aA s b := Nat.not_le.mpr hbl
  have hA : ∀ q : Nat, s.heap.size ≤ q → aA s q := fun _ h => h
  refine lv_aload_n hx hb dL_law_652 rfl (lv_at hl 4 rfl) ?_
  refine lv_aload_n hx hb dL_law_653 rfl (lv_at hl 5 rfl) ?_
  refine lv_iload hx hb dL_law_654 (lv_at hl 0 rfl) ?_
  refine lv_iconst (v := nI 1) hx hb dL_law_656 (by decide) ?_
  refine lv_iadd hx hb dL_law_657 ?_
  refine lv_asI (y := nI 1) (by decide) ?_
  refine va_sld hx hb hX hbl hbA hS (vp_in_nI (by decide) (by decide)) dL_law_658 ?_
  refine lv_asI (y := k) ((congrArg xs (nI_clamp (by decide))).trans hx1) ?_
  refine lv_aload_n hx hb dL_law_659 rfl (lv_at hl 5 rfl) ?_
  refine lv_iload hx hb dL_law_660 (lv_at hl 0 rfl) ?_
  refine lv_iconst (v := nI 2) hx hb dL_law_662 (by decide) ?_
  refine lv_iadd hx hb dL_law_663 ?_
  refine lv_asI (y := nI 2) (by decide) ?_
  refine va_sld hx hb hX hbl hbA hS (vp_in_nI (by decide) (by decide)) dL_law_664 ?_
  refine lv_asI (y := y0) ((congrArg xs (nI_clamp (by decide))).trans hx2) ?_
  refine lv_aload_n hx hb dL_law_665 rfl (lv_at hl 5 rfl) ?_
  refine lv_iload hx hb dL_law_666 (lv_at hl 0 rfl) ?_
  refine lv_iconst (v := nI 3) hx hb dL_law_668 (by decide) ?_
  refine lv_iadd hx hb dL_law_669 ?_
  refine lv_asI (y := nI 3) (by decide) ?_
  refine va_sld hx hb hX hbl hbA hS (vp_in_nI (by decide) (by decide)) dL_law_670 ?_
  refine lv_asI (y := y1) ((congrArg xs (nI_clamp (by decide))).trans hx3) ?_
  refine lv_aload_n hx hb dL_law_671 rfl (lv_at hl 2 rfl) ?_
  refine iwx_i (vx_runSX (hh := [(0, 12, 15, 13), (0, 12, 19, 15), (0, 12, 23, 32)]) (As := [.ref (ad 0), .int k, .int y0, .int y1, .ref (ad 81)]) (rest := []) ⟨hx, hb, hml, hown, hts⟩ (wL_edit_1 l hst G 83 ad _ 0 S0 hcam 81 k y0 y1 (i_all k) _) (vx_cwSW 5 hts gL_law_L_edit rfl rfl rfl (by decide +kernel) ⟨Nat.le_of_ble_eq_true rfl, Nat.le_of_ble_eq_true rfl⟩) (iPSX hK hV hZt hS hA hP hD [.ref (ad 0), .int k, .int y0, .int y1, .ref (ad 81)]) rfl rfl hl.1 rfl (lv_room (Nat.le_of_ble_eq_true rfl)) dL_law_672 ⟨Nat.le_of_ble_eq_true rfl, Nat.le_of_ble_eq_true rfl⟩) hD hS hA (fun r8 u8 H locs hw8 hP hD hS => ?_)
  obtain ⟨hr8, hu8⟩ := hw8
  rw [hu8] at hP hD
  refine lv_asI hr8 ?_
  refine lv_istore (lv' := [(6, .int (nI 1)), (5, .int (nI 0)), (4, .ref (ad 82)), (3, .ref (ad 81)), (2, .ref (ad 74)), (1, .ref (ad 0)), (0, .ref b)]) hx hb dL_law_675 hl (by decide) rfl (fun ls hl => ?_)
  refine lv_aload_n hx hb dL_law_677 rfl (lv_at hl 4 rfl) ?_
  refine lv_aload_n hx hb dL_law_678 rfl (lv_at hl 6 rfl) ?_
  refine lv_iload hx hb dL_law_679 (lv_at hl 1 rfl) ?_
  refine lv_iconst (v := nI 1) hx hb dL_law_681 (by decide) ?_
  refine lv_iadd hx hb dL_law_682 ?_
  refine lv_asI (y := nI 1) (by decide) ?_
  refine va_sld hx hb hX hbl hbA hS (vp_in_nI (by decide) (by decide)) dL_law_683 ?_
  refine lv_asI (y := k) ((congrArg xs (nI_clamp (by decide))).trans hx1) ?_
  refine lv_aload_n hx hb dL_law_684 rfl (lv_at hl 6 rfl) ?_
  refine lv_iload hx hb dL_law_685 (lv_at hl 1 rfl) ?_
  refine lv_iconst (v := nI 2) hx hb dL_law_687 (by decide) ?_
  refine lv_iadd hx hb dL_law_688 ?_
  refine lv_asI (y := nI 2) (by decide) ?_
  refine va_sld hx hb hX hbl hbA hS (vp_in_nI (by decide) (by decide)) dL_law_689 ?_
  refine lv_asI (y := y0) ((congrArg xs (nI_clamp (by decide))).trans hx2) ?_
  refine lv_aload_n hx hb dL_law_690 rfl (lv_at hl 6 rfl) ?_
  refine lv_iload hx hb dL_law_691 (lv_at hl 1 rfl) ?_
  refine lv_iconst (v := nI 3) hx hb dL_law_693 (by decide) ?_
  refine lv_iadd hx hb dL_law_694 ?_
  refine lv_asI (y := nI 3) (by decide) ?_
  refine va_sld hx hb hX hbl hbA hS (vp_in_nI (by decide) (by decide)) dL_law_695 ?_
  refine lv_asI (y := y1) ((congrArg xs (nI_clamp (by decide))).trans hx3) ?_
  refine iw_i (va_runV (As := [.int k, .int y0, .int y1]) (rest := []) ⟨hx, hb, hml, hown, hts⟩ (kX9_edit l G 83 ad _ 74 dz (nI 0) hmod k y0 y1 _) (cwV 3 hts gL_law_X9_edit rfl rfl rfl (by decide +kernel) ⟨Nat.le_of_ble_eq_true rfl, Nat.le_of_ble_eq_true rfl⟩) (iPVV hK hV hP hD (by decide) (hmod.2.1) rfl [.int k, .int y0, .int y1]) rfl rfl hl.1 rfl (lv_room (Nat.le_of_ble_eq_true rfl)) dL_law_696 ⟨Nat.le_of_ble_eq_true rfl, Nat.le_of_ble_eq_true rfl⟩) hD hS hA (fun r9 u9 H locs hw9 hP hD hS => ?_)
  obtain ⟨hr9, ⟨d9, ht9⟩, hm9⟩ := hw9
  refine lv_asI (y := nI 0) hr9 ?_
  refine lv_istore (lv' := [(7, .int (nI 0)), (6, .int (nI 1)), (5, .int (nI 0)), (4, .ref (ad 82)), (3, .ref (ad 81)), (2, .ref (ad 74)), (1, .ref (ad 0)), (0, .ref b)]) hx hb dL_law_699 hl (by decide) rfl (fun ls hl => ?_)
  refine lv_aload_n hx hb dL_law_701 rfl (lv_at hl 5 rfl) ?_
  refine iw_i (va_runV (As := []) (rest := []) ⟨hx, hb, hml, hown, hts⟩ (kX9_thrown l G 83 ad _ 74 (by decide) (nI 1) d9 ht9 _) (cwV 0 hts gL_law_X9_thrown rfl rfl rfl (by decide +kernel) ⟨Nat.le_of_ble_eq_true rfl, Nat.le_of_ble_eq_true rfl⟩) (iPV hK hP hD (by decide) (ht9) rfl []) rfl rfl hl.1 rfl (lv_room (Nat.le_of_ble_eq_true rfl)) dL_law_702 ⟨Nat.le_of_ble_eq_true rfl, Nat.le_of_ble_eq_true rfl⟩) hD hS hA (fun r7 u7 H locs hw7 hP hD hS => ?_)
  obtain ⟨hr7, hu7⟩ := hw7
  rw [hu7] at hP hD
  refine lv_asI hr7 ?_
  refine lv_iload hx hb dL_law_705 (lv_at hl 1 rfl) ?_
  refine lv_icmp_eq (tgt := 712) hx hb dL_law_707 (by decide) (fun _ => ?_) (fun c9 => absurd (by decide) c9)
  refine lv_iload hx hb dL_law_712 (lv_at hl 1 rfl) ?_
  refine lv_if_ne (tgt := 729) hx hb dL_law_714 (by decide) (fun _ => ?_) (fun c9 => absurd c9 (by decide))
  refine lv_goto (tgt := 1906) hx hb dL_law_729 (by decide) ?_
  refine W.widen (k := 300) (n := 6500) (Nat.le_of_ble_eq_true rfl) (Nat.le_of_ble_eq_true rfl) ?_
  exact kt H locs ls hS (lv_sub hl [2, 7] rfl)
set_option maxHeartbeats 4000000 in
set_option maxRecDepth 100000 in
theorem lc_undo_1 {p : Program} {l : Launch} {e : Env} {s : State} {m : MethodId} {below : List Frame} {meth : Method} {c : Code} {b dz : Nat} {xs : Nat → Int32} {G : iG} {Q : State → Prop} (hst : l.stackTraces = false) (hx : p.tables.exec = Jvm.exec) (hb : c.code = cL_law) (hml : c.maxLocals = 9) (hts : ∀ w ∈ wsL_law, w.before #[Value.ref b] s = true) (hown : s.vm.findClass RL = some m.cls) (hX : va_X b 6 xs s s.heap) (hbl : b < s.heap.size) (hK : KB G s) (hV : VX s) (hZt : ZT (aA s) s s.heap) (hZ : ZD dz (aA s) s s.heap) {ad : Nat → Nat} {C : Nat → va_E} {H : Heap} {locs : List Loc} {ls : Array Slot} (hcam : Cam G 83 ad C 0 S0) (hmod : Mod G 83 ad C 74 dz (nI 0)) (glo : C 81 = la G 1 (fun _ => 0)) (hP : va_P G.1 vwB (wl 83 ad C) H) (hD : va_D (aA s) (wl 83 ad C)) (hS : va_S (aA s) s.heap H locs) (hl : lv_has ls 9 [(5, .int (nI 0)), (4, .ref (ad 82)), (3, .ref (ad 81)), (2, .ref (ad 74)), (1, .ref (ad 0)), (0, .ref b)]) (kt : ∀ (H : Heap) (locs : List Loc) (ls : Array Slot), va_S (aA s) s.heap H locs → lv_has ls 9 [(5, .int (nI 0)), (0, .ref b)] → W p l e room_1 s m #[Value.ref b] below meth c H locs 300 6500 Q (F0 m 1906 ls [])) (k : Int32) (hx1 : xs 1 = k) : W p l e room_1 s m #[Value.ref b] below meth c H locs 83 1901 Q (F0 m 732 ls []) := by
  have hbA : ¬ aA s b := Nat.not_le.mpr hbl
  have hA : ∀ q : Nat, s.heap.size ≤ q → aA s q := fun _ h => h
  refine lv_aload_n hx hb dL_law_732 rfl (lv_at hl 4 rfl) ?_
  refine lv_aload_n hx hb dL_law_733 rfl (lv_at hl 5 rfl) ?_
  refine lv_iload hx hb dL_law_734 (lv_at hl 0 rfl) ?_
  refine lv_iconst (v := nI 1) hx hb dL_law_736 (by decide) ?_
  refine lv_iadd hx hb dL_law_737 ?_
  refine lv_asI (y := nI 1) (by decide) ?_
  refine va_sld hx hb hX hbl hbA hS (vp_in_nI (by decide) (by decide)) dL_law_738 ?_
  refine lv_asI (y := k) ((congrArg xs (nI_clamp (by decide))).trans hx1) ?_
  refine lv_aload_n hx hb dL_law_739 rfl (lv_at hl 2 rfl) ?_
  refine iwx_i (vx_runSX (hh := [(0, 9, 12, 13)]) (As := [.ref (ad 0), .int k, .ref (ad 81)]) (rest := []) ⟨hx, hb, hml, hown, hts⟩ (wL_undo_1 l hst G 83 ad _ 0 S0 hcam 81 k (i_all k) _) (vx_cwSW 3 hts gL_law_L_undo rfl rfl rfl (by decide +kernel) ⟨Nat.le_of_ble_eq_true rfl, Nat.le_of_ble_eq_true rfl⟩) (iPSX hK hV hZt hS hA hP hD [.ref (ad 0), .int k, .ref (ad 81)]) rfl rfl hl.1 rfl (lv_room (Nat.le_of_ble_eq_true rfl)) dL_law_740 ⟨Nat.le_of_ble_eq_true rfl, Nat.le_of_ble_eq_true rfl⟩) hD hS hA (fun r8 u8 H locs hw8 hP hD hS => ?_)
  obtain ⟨hr8, hu8⟩ := hw8
  rw [hu8] at hP hD
  refine lv_asI hr8 ?_
  refine lv_istore (lv' := [(6, .int (nI 1)), (5, .int (nI 0)), (4, .ref (ad 82)), (3, .ref (ad 81)), (2, .ref (ad 74)), (1, .ref (ad 0)), (0, .ref b)]) hx hb dL_law_743 hl (by decide) rfl (fun ls hl => ?_)
  refine lv_aload_n hx hb dL_law_745 rfl (lv_at hl 4 rfl) ?_
  refine lv_aload_n hx hb dL_law_746 rfl (lv_at hl 6 rfl) ?_
  refine lv_iload hx hb dL_law_747 (lv_at hl 1 rfl) ?_
  refine lv_iconst (v := nI 1) hx hb dL_law_749 (by decide) ?_
  refine lv_iadd hx hb dL_law_750 ?_
  refine lv_asI (y := nI 1) (by decide) ?_
  refine va_sld hx hb hX hbl hbA hS (vp_in_nI (by decide) (by decide)) dL_law_751 ?_
  refine lv_asI (y := k) ((congrArg xs (nI_clamp (by decide))).trans hx1) ?_
  refine iw_i (va_runV (As := [.int k]) (rest := []) ⟨hx, hb, hml, hown, hts⟩ (kX9_undo l G 83 ad _ 74 dz (nI 0) hmod k _) (cwV 1 hts gL_law_X9_undo rfl rfl rfl (by decide +kernel) ⟨Nat.le_of_ble_eq_true rfl, Nat.le_of_ble_eq_true rfl⟩) (iPVV hK hV hP hD (by decide) (hmod.2.1) rfl [.int k]) rfl rfl hl.1 rfl (lv_room (Nat.le_of_ble_eq_true rfl)) dL_law_752 ⟨Nat.le_of_ble_eq_true rfl, Nat.le_of_ble_eq_true rfl⟩) hD hS hA (fun r9 u9 H locs hw9 hP hD hS => ?_)
  obtain ⟨hr9, ⟨d9, ht9⟩, hm9⟩ := hw9
  refine lv_asI (y := nI 0) hr9 ?_
  refine lv_istore (lv' := [(7, .int (nI 0)), (6, .int (nI 1)), (5, .int (nI 0)), (4, .ref (ad 82)), (3, .ref (ad 81)), (2, .ref (ad 74)), (1, .ref (ad 0)), (0, .ref b)]) hx hb dL_law_755 hl (by decide) rfl (fun ls hl => ?_)
  refine lv_aload_n hx hb dL_law_757 rfl (lv_at hl 5 rfl) ?_
  refine iw_i (va_runV (As := []) (rest := []) ⟨hx, hb, hml, hown, hts⟩ (kX9_thrown l G 83 ad _ 74 (by decide) (nI 1) d9 ht9 _) (cwV 0 hts gL_law_X9_thrown rfl rfl rfl (by decide +kernel) ⟨Nat.le_of_ble_eq_true rfl, Nat.le_of_ble_eq_true rfl⟩) (iPV hK hP hD (by decide) (ht9) rfl []) rfl rfl hl.1 rfl (lv_room (Nat.le_of_ble_eq_true rfl)) dL_law_758 ⟨Nat.le_of_ble_eq_true rfl, Nat.le_of_ble_eq_true rfl⟩) hD hS hA (fun r7 u7 H locs hw7 hP hD hS => ?_)
  obtain ⟨hr7, hu7⟩ := hw7
  rw [hu7] at hP hD
  refine lv_asI hr7 ?_
  refine lv_iload hx hb dL_law_761 (lv_at hl 1 rfl) ?_
  refine lv_icmp_eq (tgt := 768) hx hb dL_law_763 (by decide) (fun _ => ?_) (fun c9 => absurd (by decide) c9)
  refine lv_iload hx hb dL_law_768 (lv_at hl 1 rfl) ?_
  refine lv_if_ne (tgt := 785) hx hb dL_law_770 (by decide) (fun _ => ?_) (fun c9 => absurd c9 (by decide))
  refine lv_goto (tgt := 1906) hx hb dL_law_785 (by decide) ?_
  refine W.widen (k := 300) (n := 6500) (Nat.le_of_ble_eq_true rfl) (Nat.le_of_ble_eq_true rfl) ?_
  exact kt H locs ls hS (lv_sub hl [2, 7] rfl)
set_option maxHeartbeats 4000000 in
set_option maxRecDepth 100000 in
theorem lc_save_1 {p : Program} {l : Launch} {e : Env} {s : State} {m : MethodId} {below : List Frame} {meth : Method} {c : Code} {b dz : Nat} {xs : Nat → Int32} {G : iG} {Q : State → Prop} (hst : l.stackTraces = false) (hx : p.tables.exec = Jvm.exec) (hb : c.code = cL_law) (hml : c.maxLocals = 9) (hts : ∀ w ∈ wsL_law, w.before #[Value.ref b] s = true) (hown : s.vm.findClass RL = some m.cls) (hX : va_X b 6 xs s s.heap) (hbl : b < s.heap.size) (hK : KB G s) (hV : VX s) (hZt : ZT (aA s) s s.heap) (hZ : ZD dz (aA s) s s.heap) {ad : Nat → Nat} {C : Nat → va_E} {H : Heap} {locs : List Loc} {ls : Array Slot} (hcam : Cam G 83 ad C 0 S0) (hmod : Mod G 83 ad C 74 dz (nI 0)) (glo : C 81 = la G 1 (fun _ => 0)) (hP : va_P G.1 vwB (wl 83 ad C) H) (hD : va_D (aA s) (wl 83 ad C)) (hS : va_S (aA s) s.heap H locs) (hl : lv_has ls 9 [(5, .int (nI 0)), (4, .ref (ad 82)), (3, .ref (ad 81)), (2, .ref (ad 74)), (1, .ref (ad 0)), (0, .ref b)]) (kt : ∀ (H : Heap) (locs : List Loc) (ls : Array Slot), va_S (aA s) s.heap H locs → lv_has ls 9 [(5, .int (nI 0)), (0, .ref b)] → W p l e room_1 s m #[Value.ref b] below meth c H locs 300 6500 Q (F0 m 1906 ls [])) (k : Int32) (hx1 : xs 1 = k) : W p l e room_1 s m #[Value.ref b] below meth c H locs 83 1901 Q (F0 m 788 ls []) := by
  have hbA : ¬ aA s b := Nat.not_le.mpr hbl
  have hA : ∀ q : Nat, s.heap.size ≤ q → aA s q := fun _ h => h
  refine lv_aload_n hx hb dL_law_788 rfl (lv_at hl 4 rfl) ?_
  refine lv_aload_n hx hb dL_law_789 rfl (lv_at hl 5 rfl) ?_
  refine lv_iload hx hb dL_law_790 (lv_at hl 0 rfl) ?_
  refine lv_iconst (v := nI 1) hx hb dL_law_792 (by decide) ?_
  refine lv_iadd hx hb dL_law_793 ?_
  refine lv_asI (y := nI 1) (by decide) ?_
  refine va_sld hx hb hX hbl hbA hS (vp_in_nI (by decide) (by decide)) dL_law_794 ?_
  refine lv_asI (y := k) ((congrArg xs (nI_clamp (by decide))).trans hx1) ?_
  refine lv_aload_n hx hb dL_law_795 rfl (lv_at hl 2 rfl) ?_
  refine iwx_i (vx_runSX (hh := [(0, 9, 12, 13), (0, 9, 15, 32)]) (As := [.ref (ad 0), .int k, .ref (ad 81)]) (rest := []) ⟨hx, hb, hml, hown, hts⟩ (wL_save_1 l hst G 83 ad _ 0 S0 hcam 81 k (i_all k) _) (vx_cwSW 3 hts gL_law_L_save rfl rfl rfl (by decide +kernel) ⟨Nat.le_of_ble_eq_true rfl, Nat.le_of_ble_eq_true rfl⟩) (iPSX hK hV hZt hS hA hP hD [.ref (ad 0), .int k, .ref (ad 81)]) rfl rfl hl.1 rfl (lv_room (Nat.le_of_ble_eq_true rfl)) dL_law_796 ⟨Nat.le_of_ble_eq_true rfl, Nat.le_of_ble_eq_true rfl⟩) hD hS hA (fun r8 u8 H locs hw8 hP hD hS => ?_)
  obtain ⟨hr8, hu8⟩ := hw8
  rw [hu8] at hP hD
  refine lv_asI hr8 ?_
  refine lv_istore (lv' := [(6, .int (nI 1)), (5, .int (nI 0)), (4, .ref (ad 82)), (3, .ref (ad 81)), (2, .ref (ad 74)), (1, .ref (ad 0)), (0, .ref b)]) hx hb dL_law_799 hl (by decide) rfl (fun ls hl => ?_)
  refine lv_aload_n hx hb dL_law_801 rfl (lv_at hl 4 rfl) ?_
  refine lv_aload_n hx hb dL_law_802 rfl (lv_at hl 6 rfl) ?_
  refine lv_iload hx hb dL_law_803 (lv_at hl 1 rfl) ?_
  refine lv_iconst (v := nI 1) hx hb dL_law_805 (by decide) ?_
  refine lv_iadd hx hb dL_law_806 ?_
  refine lv_asI (y := nI 1) (by decide) ?_
  refine va_sld hx hb hX hbl hbA hS (vp_in_nI (by decide) (by decide)) dL_law_807 ?_
  refine lv_asI (y := k) ((congrArg xs (nI_clamp (by decide))).trans hx1) ?_
  refine iw_i (va_runV (As := [.int k]) (rest := []) ⟨hx, hb, hml, hown, hts⟩ (kX9_save l G 83 ad _ 74 dz (nI 0) hmod k _) (cwV 1 hts gL_law_X9_save rfl rfl rfl (by decide +kernel) ⟨Nat.le_of_ble_eq_true rfl, Nat.le_of_ble_eq_true rfl⟩) (iPVV hK hV hP hD (by decide) (hmod.2.1) rfl [.int k]) rfl rfl hl.1 rfl (lv_room (Nat.le_of_ble_eq_true rfl)) dL_law_808 ⟨Nat.le_of_ble_eq_true rfl, Nat.le_of_ble_eq_true rfl⟩) hD hS hA (fun r9 u9 H locs hw9 hP hD hS => ?_)
  obtain ⟨hr9, ⟨d9, ht9⟩, hm9⟩ := hw9
  refine lv_asI (y := nI 0) hr9 ?_
  refine lv_istore (lv' := [(7, .int (nI 0)), (6, .int (nI 1)), (5, .int (nI 0)), (4, .ref (ad 82)), (3, .ref (ad 81)), (2, .ref (ad 74)), (1, .ref (ad 0)), (0, .ref b)]) hx hb dL_law_811 hl (by decide) rfl (fun ls hl => ?_)
  refine lv_aload_n hx hb dL_law_813 rfl (lv_at hl 5 rfl) ?_
  refine iw_i (va_runV (As := []) (rest := []) ⟨hx, hb, hml, hown, hts⟩ (kX9_thrown l G 83 ad _ 74 (by decide) (nI 1) d9 ht9 _) (cwV 0 hts gL_law_X9_thrown rfl rfl rfl (by decide +kernel) ⟨Nat.le_of_ble_eq_true rfl, Nat.le_of_ble_eq_true rfl⟩) (iPV hK hP hD (by decide) (ht9) rfl []) rfl rfl hl.1 rfl (lv_room (Nat.le_of_ble_eq_true rfl)) dL_law_814 ⟨Nat.le_of_ble_eq_true rfl, Nat.le_of_ble_eq_true rfl⟩) hD hS hA (fun r7 u7 H locs hw7 hP hD hS => ?_)
  obtain ⟨hr7, hu7⟩ := hw7
  rw [hu7] at hP hD
  refine lv_asI hr7 ?_
  refine lv_iload hx hb dL_law_817 (lv_at hl 1 rfl) ?_
  refine lv_icmp_eq (tgt := 824) hx hb dL_law_819 (by decide) (fun _ => ?_) (fun c9 => absurd (by decide) c9)
  refine lv_iload hx hb dL_law_824 (lv_at hl 1 rfl) ?_
  refine lv_if_ne (tgt := 841) hx hb dL_law_826 (by decide) (fun _ => ?_) (fun c9 => absurd c9 (by decide))
  refine lv_goto (tgt := 1906) hx hb dL_law_841 (by decide) ?_
  refine W.widen (k := 300) (n := 6500) (Nat.le_of_ble_eq_true rfl) (Nat.le_of_ble_eq_true rfl) ?_
  exact kt H locs ls hS (lv_sub hl [2, 7] rfl)
set_option maxHeartbeats 4000000 in
set_option maxRecDepth 100000 in
theorem lc_raw_1 {p : Program} {l : Launch} {e : Env} {s : State} {m : MethodId} {below : List Frame} {meth : Method} {c : Code} {b dz : Nat} {xs : Nat → Int32} {G : iG} {Q : State → Prop} (hst : l.stackTraces = false) (hx : p.tables.exec = Jvm.exec) (hb : c.code = cL_law) (hml : c.maxLocals = 9) (hts : ∀ w ∈ wsL_law, w.before #[Value.ref b] s = true) (hown : s.vm.findClass RL = some m.cls) (hX : va_X b 6 xs s s.heap) (hbl : b < s.heap.size) (hK : KB G s) (hV : VX s) (hZt : ZT (aA s) s s.heap) (hZ : ZD dz (aA s) s s.heap) {ad : Nat → Nat} {C : Nat → va_E} {H : Heap} {locs : List Loc} {ls : Array Slot} (hcam : Cam G 83 ad C 0 S0) (hmod : Mod G 83 ad C 74 dz (nI 0)) (glo : C 81 = la G 1 (fun _ => 0)) (hP : va_P G.1 vwB (wl 83 ad C) H) (hD : va_D (aA s) (wl 83 ad C)) (hS : va_S (aA s) s.heap H locs) (hl : lv_has ls 9 [(5, .int (nI 0)), (4, .ref (ad 82)), (3, .ref (ad 81)), (2, .ref (ad 74)), (1, .ref (ad 0)), (0, .ref b)]) (kt : ∀ (H : Heap) (locs : List Loc) (ls : Array Slot), va_S (aA s) s.heap H locs → lv_has ls 9 [(5, .int (nI 0)), (0, .ref b)] → W p l e room_1 s m #[Value.ref b] below meth c H locs 300 6500 Q (F0 m 1906 ls [])) (k y0 y1 : Int32) (hx1 : xs 1 = k) (hx2 : xs 2 = y0) (hx3 : xs 3 = y1) : W p l e room_1 s m #[Value.ref b] below meth c H locs 83 1901 Q (F0 m 844 ls []) := by
  have hbA : ¬ aA s b := Nat.not_le.mpr hbl
  have hA : ∀ q : Nat, s.heap.size ≤ q → aA s q := fun _ h => h
  refine lv_aload_n hx hb dL_law_844 rfl (lv_at hl 4 rfl) ?_
  refine lv_aload_n hx hb dL_law_845 rfl (lv_at hl 5 rfl) ?_
  refine lv_iload hx hb dL_law_846 (lv_at hl 0 rfl) ?_
  refine lv_iconst (v := nI 1) hx hb dL_law_848 (by decide) ?_
  refine lv_iadd hx hb dL_law_849 ?_
  refine lv_asI (y := nI 1) (by decide) ?_
  refine va_sld hx hb hX hbl hbA hS (vp_in_nI (by decide) (by decide)) dL_law_850 ?_
  refine lv_asI (y := k) ((congrArg xs (nI_clamp (by decide))).trans hx1) ?_
  refine lv_aload_n hx hb dL_law_851 rfl (lv_at hl 5 rfl) ?_
  refine lv_iload hx hb dL_law_852 (lv_at hl 0 rfl) ?_
  refine lv_iconst (v := nI 2) hx hb dL_law_854 (by decide) ?_
  refine lv_iadd hx hb dL_law_855 ?_
  refine lv_asI (y := nI 2) (by decide) ?_
  refine va_sld hx hb hX hbl hbA hS (vp_in_nI (by decide) (by decide)) dL_law_856 ?_
  refine lv_asI (y := y0) ((congrArg xs (nI_clamp (by decide))).trans hx2) ?_
  refine lv_aload_n hx hb dL_law_857 rfl (lv_at hl 5 rfl) ?_
  refine lv_iload hx hb dL_law_858 (lv_at hl 0 rfl) ?_
  refine lv_iconst (v := nI 3) hx hb dL_law_860 (by decide) ?_
  refine lv_iadd hx hb dL_law_861 ?_
  refine lv_asI (y := nI 3) (by decide) ?_
  refine va_sld hx hb hX hbl hbA hS (vp_in_nI (by decide) (by decide)) dL_law_862 ?_
  refine lv_asI (y := y1) ((congrArg xs (nI_clamp (by decide))).trans hx3) ?_
  refine lv_aload_n hx hb dL_law_863 rfl (lv_at hl 2 rfl) ?_
  refine iwx_i (vx_runSX (hh := [(0, 12, 15, 13)]) (As := [.ref (ad 0), .int k, .int y0, .int y1, .ref (ad 81)]) (rest := []) ⟨hx, hb, hml, hown, hts⟩ (wL_raw_1 l hst G 83 ad _ 0 S0 hcam 81 k y0 y1 (i_all k) _) (vx_cwSW 5 hts gL_law_L_raw rfl rfl rfl (by decide +kernel) ⟨Nat.le_of_ble_eq_true rfl, Nat.le_of_ble_eq_true rfl⟩) (iPSX hK hV hZt hS hA hP hD [.ref (ad 0), .int k, .int y0, .int y1, .ref (ad 81)]) rfl rfl hl.1 rfl (lv_room (Nat.le_of_ble_eq_true rfl)) dL_law_864 ⟨Nat.le_of_ble_eq_true rfl, Nat.le_of_ble_eq_true rfl⟩) hD hS hA (fun r8 u8 H locs hw8 hP hD hS => ?_)
  obtain ⟨hr8, hu8⟩ := hw8
  rw [hu8] at hP hD
  refine lv_asI hr8 ?_
  refine lv_istore (lv' := [(6, .int (nI 1)), (5, .int (nI 0)), (4, .ref (ad 82)), (3, .ref (ad 81)), (2, .ref (ad 74)), (1, .ref (ad 0)), (0, .ref b)]) hx hb dL_law_867 hl (by decide) rfl (fun ls hl => ?_)
  refine lv_aload_n hx hb dL_law_869 rfl (lv_at hl 4 rfl) ?_
  refine lv_aload_n hx hb dL_law_870 rfl (lv_at hl 6 rfl) ?_
  refine lv_iload hx hb dL_law_871 (lv_at hl 1 rfl) ?_
  refine lv_iconst (v := nI 1) hx hb dL_law_873 (by decide) ?_
  refine lv_iadd hx hb dL_law_874 ?_
  refine lv_asI (y := nI 1) (by decide) ?_
  refine va_sld hx hb hX hbl hbA hS (vp_in_nI (by decide) (by decide)) dL_law_875 ?_
  refine lv_asI (y := k) ((congrArg xs (nI_clamp (by decide))).trans hx1) ?_
  refine lv_aload_n hx hb dL_law_876 rfl (lv_at hl 6 rfl) ?_
  refine lv_iload hx hb dL_law_877 (lv_at hl 1 rfl) ?_
  refine lv_iconst (v := nI 2) hx hb dL_law_879 (by decide) ?_
  refine lv_iadd hx hb dL_law_880 ?_
  refine lv_asI (y := nI 2) (by decide) ?_
  refine va_sld hx hb hX hbl hbA hS (vp_in_nI (by decide) (by decide)) dL_law_881 ?_
  refine lv_asI (y := y0) ((congrArg xs (nI_clamp (by decide))).trans hx2) ?_
  refine lv_aload_n hx hb dL_law_882 rfl (lv_at hl 6 rfl) ?_
  refine lv_iload hx hb dL_law_883 (lv_at hl 1 rfl) ?_
  refine lv_iconst (v := nI 3) hx hb dL_law_885 (by decide) ?_
  refine lv_iadd hx hb dL_law_886 ?_
  refine lv_asI (y := nI 3) (by decide) ?_
  refine va_sld hx hb hX hbl hbA hS (vp_in_nI (by decide) (by decide)) dL_law_887 ?_
  refine lv_asI (y := y1) ((congrArg xs (nI_clamp (by decide))).trans hx3) ?_
  refine iw_i (va_runV (As := [.int k, .int y0, .int y1]) (rest := []) ⟨hx, hb, hml, hown, hts⟩ (kX9_raw l G 83 ad _ 74 dz (nI 0) hmod k y0 y1 _) (cwV 3 hts gL_law_X9_raw rfl rfl rfl (by decide +kernel) ⟨Nat.le_of_ble_eq_true rfl, Nat.le_of_ble_eq_true rfl⟩) (iPVV hK hV hP hD (by decide) (hmod.2.1) rfl [.int k, .int y0, .int y1]) rfl rfl hl.1 rfl (lv_room (Nat.le_of_ble_eq_true rfl)) dL_law_888 ⟨Nat.le_of_ble_eq_true rfl, Nat.le_of_ble_eq_true rfl⟩) hD hS hA (fun r9 u9 H locs hw9 hP hD hS => ?_)
  obtain ⟨hr9, ⟨d9, ht9⟩, hm9⟩ := hw9
  refine lv_asI (y := nI 0) hr9 ?_
  refine lv_istore (lv' := [(7, .int (nI 0)), (6, .int (nI 1)), (5, .int (nI 0)), (4, .ref (ad 82)), (3, .ref (ad 81)), (2, .ref (ad 74)), (1, .ref (ad 0)), (0, .ref b)]) hx hb dL_law_891 hl (by decide) rfl (fun ls hl => ?_)
  refine lv_aload_n hx hb dL_law_893 rfl (lv_at hl 5 rfl) ?_
  refine iw_i (va_runV (As := []) (rest := []) ⟨hx, hb, hml, hown, hts⟩ (kX9_thrown l G 83 ad _ 74 (by decide) (nI 1) d9 ht9 _) (cwV 0 hts gL_law_X9_thrown rfl rfl rfl (by decide +kernel) ⟨Nat.le_of_ble_eq_true rfl, Nat.le_of_ble_eq_true rfl⟩) (iPV hK hP hD (by decide) (ht9) rfl []) rfl rfl hl.1 rfl (lv_room (Nat.le_of_ble_eq_true rfl)) dL_law_894 ⟨Nat.le_of_ble_eq_true rfl, Nat.le_of_ble_eq_true rfl⟩) hD hS hA (fun r7 u7 H locs hw7 hP hD hS => ?_)
  obtain ⟨hr7, hu7⟩ := hw7
  rw [hu7] at hP hD
  refine lv_asI hr7 ?_
  refine lv_iload hx hb dL_law_897 (lv_at hl 1 rfl) ?_
  refine lv_icmp_eq (tgt := 904) hx hb dL_law_899 (by decide) (fun _ => ?_) (fun c9 => absurd (by decide) c9)
  refine lv_iload hx hb dL_law_904 (lv_at hl 1 rfl) ?_
  refine lv_if_ne (tgt := 921) hx hb dL_law_906 (by decide) (fun _ => ?_) (fun c9 => absurd c9 (by decide))
  refine lv_goto (tgt := 1906) hx hb dL_law_921 (by decide) ?_
  refine W.widen (k := 300) (n := 6500) (Nat.le_of_ble_eq_true rfl) (Nat.le_of_ble_eq_true rfl) ?_
  exact kt H locs ls hS (lv_sub hl [2, 7] rfl)
set_option maxHeartbeats 4000000 in
set_option maxRecDepth 100000 in
theorem lc_picture_1 {p : Program} {l : Launch} {e : Env} {s : State} {m : MethodId} {below : List Frame} {meth : Method} {c : Code} {b dz : Nat} {xs : Nat → Int32} {G : iG} {Q : State → Prop} (hst : l.stackTraces = false) (hx : p.tables.exec = Jvm.exec) (hb : c.code = cL_law) (hml : c.maxLocals = 9) (hts : ∀ w ∈ wsL_law, w.before #[Value.ref b] s = true) (hown : s.vm.findClass RL = some m.cls) (hX : va_X b 6 xs s s.heap) (hbl : b < s.heap.size) (hK : KB G s) (hV : VX s) (hZt : ZT (aA s) s s.heap) (hZ : ZD dz (aA s) s s.heap) {ad : Nat → Nat} {C : Nat → va_E} {H : Heap} {locs : List Loc} {ls : Array Slot} (hcam : Cam G 83 ad C 0 S0) (hmod : Mod G 83 ad C 74 dz (nI 0)) (glo : C 81 = la G 1 (fun _ => 0)) (hP : va_P G.1 vwB (wl 83 ad C) H) (hD : va_D (aA s) (wl 83 ad C)) (hS : va_S (aA s) s.heap H locs) (hl : lv_has ls 9 [(5, .int (nI 0)), (4, .ref (ad 82)), (3, .ref (ad 81)), (2, .ref (ad 74)), (1, .ref (ad 0)), (0, .ref b)]) (kt : ∀ (H : Heap) (locs : List Loc) (ls : Array Slot), va_S (aA s) s.heap H locs → lv_has ls 9 [(5, .int (nI 0)), (0, .ref b)] → W p l e room_1 s m #[Value.ref b] below meth c H locs 300 6500 Q (F0 m 1906 ls [])) (k y0 y1 y2 : Int32) (hx1 : xs 1 = k) (hx2 : xs 2 = y0) (hx3 : xs 3 = y1) (hx4 : xs 4 = y2) : W p l e room_1 s m #[Value.ref b] below meth c H locs 83 1901 Q (F0 m 924 ls []) := by
  have hbA : ¬ aA s b := Nat.not_le.mpr hbl
  have hA : ∀ q : Nat, s.heap.size ≤ q → aA s q := fun _ h => h
  refine lv_aload_n hx hb dL_law_924 rfl (lv_at hl 4 rfl) ?_
  refine lv_aload_n hx hb dL_law_925 rfl (lv_at hl 5 rfl) ?_
  refine lv_iload hx hb dL_law_926 (lv_at hl 0 rfl) ?_
  refine lv_iconst (v := nI 1) hx hb dL_law_928 (by decide) ?_
  refine lv_iadd hx hb dL_law_929 ?_
  refine lv_asI (y := nI 1) (by decide) ?_
  refine va_sld hx hb hX hbl hbA hS (vp_in_nI (by decide) (by decide)) dL_law_930 ?_
  refine lv_asI (y := k) ((congrArg xs (nI_clamp (by decide))).trans hx1) ?_
  refine lv_aload_n hx hb dL_law_931 rfl (lv_at hl 5 rfl) ?_
  refine lv_iload hx hb dL_law_932 (lv_at hl 0 rfl) ?_
  refine lv_iconst (v := nI 2) hx hb dL_law_934 (by decide) ?_
  refine lv_iadd hx hb dL_law_935 ?_
  refine lv_asI (y := nI 2) (by decide) ?_
  refine va_sld hx hb hX hbl hbA hS (vp_in_nI (by decide) (by decide)) dL_law_936 ?_
  refine lv_asI (y := y0) ((congrArg xs (nI_clamp (by decide))).trans hx2) ?_
  refine lv_aload_n hx hb dL_law_937 rfl (lv_at hl 5 rfl) ?_
  refine lv_iload hx hb dL_law_938 (lv_at hl 0 rfl) ?_
  refine lv_iconst (v := nI 3) hx hb dL_law_940 (by decide) ?_
  refine lv_iadd hx hb dL_law_941 ?_
  refine lv_asI (y := nI 3) (by decide) ?_
  refine va_sld hx hb hX hbl hbA hS (vp_in_nI (by decide) (by decide)) dL_law_942 ?_
  refine lv_asI (y := y1) ((congrArg xs (nI_clamp (by decide))).trans hx3) ?_
  refine lv_aload_n hx hb dL_law_943 rfl (lv_at hl 5 rfl) ?_
  refine lv_iload hx hb dL_law_944 (lv_at hl 0 rfl) ?_
  refine lv_iconst (v := nI 4) hx hb dL_law_946 (by decide) ?_
  refine lv_iadd hx hb dL_law_947 ?_
  refine lv_asI (y := nI 4) (by decide) ?_
  refine va_sld hx hb hX hbl hbA hS (vp_in_nI (by decide) (by decide)) dL_law_948 ?_
  refine lv_asI (y := y2) ((congrArg xs (nI_clamp (by decide))).trans hx4) ?_
  refine lv_aload hx hb dL_law_949 (lv_at hl 1 rfl) ?_
  refine iwx_i (vx_runSX (hh := [(0, 13, 16, 13), (0, 13, 20, 15)]) (As := [.ref (ad 0), .int k, .int y0, .int y1, .int y2, .ref (ad 82)]) (rest := []) ⟨hx, hb, hml, hown, hts⟩ (wL_picture_1 l hst G 83 ad _ 0 S0 hcam 82 k y0 y1 y2 (i_all k) _) (vx_cwSW 6 hts gL_law_L_picture rfl rfl rfl (by decide +kernel) ⟨Nat.le_of_ble_eq_true rfl, Nat.le_of_ble_eq_true rfl⟩) (iPSX hK hV hZt hS hA hP hD [.ref (ad 0), .int k, .int y0, .int y1, .int y2, .ref (ad 82)]) rfl rfl hl.1 rfl (lv_room (Nat.le_of_ble_eq_true rfl)) dL_law_951 ⟨Nat.le_of_ble_eq_true rfl, Nat.le_of_ble_eq_true rfl⟩) hD hS hA (fun r8 u8 H locs hw8 hP hD hS => ?_)
  obtain ⟨hr8, hu8⟩ := hw8
  rw [hu8] at hP hD
  refine lv_asI hr8 ?_
  refine lv_istore (lv' := [(6, .int (nI 1)), (5, .int (nI 0)), (4, .ref (ad 82)), (3, .ref (ad 81)), (2, .ref (ad 74)), (1, .ref (ad 0)), (0, .ref b)]) hx hb dL_law_954 hl (by decide) rfl (fun ls hl => ?_)
  refine lv_aload_n hx hb dL_law_956 rfl (lv_at hl 4 rfl) ?_
  refine lv_aload_n hx hb dL_law_957 rfl (lv_at hl 6 rfl) ?_
  refine lv_iload hx hb dL_law_958 (lv_at hl 1 rfl) ?_
  refine lv_iconst (v := nI 1) hx hb dL_law_960 (by decide) ?_
  refine lv_iadd hx hb dL_law_961 ?_
  refine lv_asI (y := nI 1) (by decide) ?_
  refine va_sld hx hb hX hbl hbA hS (vp_in_nI (by decide) (by decide)) dL_law_962 ?_
  refine lv_asI (y := k) ((congrArg xs (nI_clamp (by decide))).trans hx1) ?_
  refine lv_aload_n hx hb dL_law_963 rfl (lv_at hl 6 rfl) ?_
  refine lv_iload hx hb dL_law_964 (lv_at hl 1 rfl) ?_
  refine lv_iconst (v := nI 2) hx hb dL_law_966 (by decide) ?_
  refine lv_iadd hx hb dL_law_967 ?_
  refine lv_asI (y := nI 2) (by decide) ?_
  refine va_sld hx hb hX hbl hbA hS (vp_in_nI (by decide) (by decide)) dL_law_968 ?_
  refine lv_asI (y := y0) ((congrArg xs (nI_clamp (by decide))).trans hx2) ?_
  refine lv_aload_n hx hb dL_law_969 rfl (lv_at hl 6 rfl) ?_
  refine lv_iload hx hb dL_law_970 (lv_at hl 1 rfl) ?_
  refine lv_iconst (v := nI 3) hx hb dL_law_972 (by decide) ?_
  refine lv_iadd hx hb dL_law_973 ?_
  refine lv_asI (y := nI 3) (by decide) ?_
  refine va_sld hx hb hX hbl hbA hS (vp_in_nI (by decide) (by decide)) dL_law_974 ?_
  refine lv_asI (y := y1) ((congrArg xs (nI_clamp (by decide))).trans hx3) ?_
  refine lv_aload_n hx hb dL_law_975 rfl (lv_at hl 6 rfl) ?_
  refine lv_iload hx hb dL_law_976 (lv_at hl 1 rfl) ?_
  refine lv_iconst (v := nI 4) hx hb dL_law_978 (by decide) ?_
  refine lv_iadd hx hb dL_law_979 ?_
  refine lv_asI (y := nI 4) (by decide) ?_
  refine va_sld hx hb hX hbl hbA hS (vp_in_nI (by decide) (by decide)) dL_law_980 ?_
  refine lv_asI (y := y2) ((congrArg xs (nI_clamp (by decide))).trans hx4) ?_
  refine iw_d (va_runV (As := [.int k, .int y0, .int y1, .int y2]) (rest := []) ⟨hx, hb, hml, hown, hts⟩ (kX9_picture__ l G 83 ad _ 74 dz (nI 0) hmod k y0 y1 y2 _) (cwV 4 hts gL_law_X9_picture__ rfl rfl rfl (by decide +kernel) ⟨Nat.le_of_ble_eq_true rfl, Nat.le_of_ble_eq_true rfl⟩) (iPVV hK hV hP hD (by decide) (hmod.2.1) rfl [.int k, .int y0, .int y1, .int y2]) rfl rfl hl.1 rfl (lv_room (Nat.le_of_ble_eq_true rfl)) dL_law_981 ⟨Nat.le_of_ble_eq_true rfl, Nat.le_of_ble_eq_true rfl⟩) hD hS hA (fun r9 u9 H locs hw9 hP hD hS => ?_)
  obtain ⟨hr9, ⟨d9, ht9⟩, hm9⟩ := hw9
  refine lv_asD hr9 ?_
  refine lv_dstore (lv' := [(7, .double (FP.i2d (nI 0))), (6, .int (nI 1)), (5, .int (nI 0)), (4, .ref (ad 82)), (3, .ref (ad 81)), (2, .ref (ad 74)), (1, .ref (ad 0)), (0, .ref b)]) hx hb dL_law_984 hl (by decide) rfl (fun ls hl => ?_)
  refine lv_aload_n hx hb dL_law_986 rfl (lv_at hl 5 rfl) ?_
  refine iw_i (va_runV (As := []) (rest := []) ⟨hx, hb, hml, hown, hts⟩ (kX9_thrown l G 83 ad _ 74 (by decide) (nI 1) d9 ht9 _) (cwV 0 hts gL_law_X9_thrown rfl rfl rfl (by decide +kernel) ⟨Nat.le_of_ble_eq_true rfl, Nat.le_of_ble_eq_true rfl⟩) (iPV hK hP hD (by decide) (ht9) rfl []) rfl rfl hl.1 rfl (lv_room (Nat.le_of_ble_eq_true rfl)) dL_law_987 ⟨Nat.le_of_ble_eq_true rfl, Nat.le_of_ble_eq_true rfl⟩) hD hS hA (fun r7 u7 H locs hw7 hP hD hS => ?_)
  obtain ⟨hr7, hu7⟩ := hw7
  rw [hu7] at hP hD
  refine lv_asI hr7 ?_
  refine lv_iload hx hb dL_law_990 (lv_at hl 1 rfl) ?_
  refine lv_icmp_eq (tgt := 997) hx hb dL_law_992 (by decide) (fun _ => ?_) (fun c9 => absurd (by decide) c9)
  refine lv_iload hx hb dL_law_997 (lv_at hl 1 rfl) ?_
  refine lv_if_ne (tgt := 1034) hx hb dL_law_999 (by decide) (fun _ => ?_) (fun c9 => absurd c9 (by decide))
  refine lv_goto (tgt := 1906) hx hb dL_law_1034 (by decide) ?_
  refine W.widen (k := 300) (n := 6500) (Nat.le_of_ble_eq_true rfl) (Nat.le_of_ble_eq_true rfl) ?_
  exact kt H locs ls hS (lv_sub hl [2, 7] rfl)
