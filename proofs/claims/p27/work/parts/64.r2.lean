set_option maxRecDepth 20000 in
theorem ggL_law_X7_draw : GoodIn wsL_law wsX7_draw := goodIn_r _ [119, 38, 39, 120, 121, 122, 123, 124, 125, 126, 508, 509, 510, 511, 512, 513, 514, 515, 516, 517, 518, 519] (by decide +kernel) (by decide +kernel)
set_option maxRecDepth 20000 in
theorem gL_law_X7_draw : GoodIn wsL_law (wsV RL 25 RX7 yX7_draw wsX7_draw) := goodIn_app (goodIn_of _ (by decide +kernel)) ggL_law_X7_draw
set_option maxRecDepth 20000 in
theorem ggL_law_X6_digest : GoodIn wsL_law wsX6_digest := goodIn_ca (goodIn_ca (goodIn_r _ [173, 174, 175, 56, 176, 53, 57, 177, 178, 179, 8, 180, 51, 142, 143, 144, 131, 132, 181, 182, 183, 50, 184, 80, 185, 186, 187, 188, 189, 190, 191, 88, 192, 98, 193, 194, 195, 196, 79, 197, 198, 199, 200, 201, 202, 203, 204, 137, 138, 205, 206, 207, 59, 208, 85, 209, 210, 211, 212, 213, 17, 14, 18, 214, 215, 146, 147, 216, 217, 218, 219, 220, 13, 15, 221, 222, 223, 224, 225, 226, 227, 228, 229, 230, 231, 55, 232, 233, 234, 235, 236, 237, 238, 239, 64, 240, 241, 242, 63, 243, 244, 245, 246, 247, 96, 248, 249, 250, 251, 103, 252, 253, 254, 140, 141, 255, 256, 257, 258, 102, 259, 260, 261, 262, 263, 264, 265, 266, 267, 268, 269, 270, 271, 272, 273, 274, 275, 276, 277, 278, 279, 280, 281, 282, 283, 284, 285, 286, 287, 288, 289, 290, 291, 292, 293, 294, 295, 296, 297, 298, 299, 300, 301, 302, 303, 304, 305, 306, 307, 308, 309, 310, 311, 312, 313, 314, 315, 316, 317, 318, 319, 320, 321, 322, 323, 324, 325, 47, 60, 326, 327, 328, 329, 330, 331, 332, 81, 333, 334, 335, 46, 336, 74, 337, 338, 339, 340, 341, 72, 342, 343, 344, 345, 346, 520, 521, 522, 523, 524, 525, 526, 527, 528, 535, 536, 537, 538, 539, 532, 533, 534, 545, 546, 547, 542, 543, 544, 540, 541, 529, 530, 531] (by decide +kernel) (by decide +kernel)) (goodIn_sub (fun _ h => List.mem_append_left _ (List.mem_append_left _ (List.mem_append_right _ h))) (by decide +kernel))) (goodIn_sub (fun _ h => List.mem_append_left _ (List.mem_append_right _ h)) (by decide +kernel))
set_option maxRecDepth 20000 in
theorem gL_law_X6_digest : GoodIn wsL_law (wsV RL 29 RX6 yX6_digest wsX6_digest) := goodIn_app (goodIn_of _ (by decide +kernel)) ggL_law_X6_digest
set_option maxRecDepth 20000 in
theorem ggL_law_X6_bestTake : GoodIn wsL_law wsX6_bestTake := goodIn_ca (goodIn_r _ [350, 51, 47, 60, 142, 143, 8, 144, 131, 132, 329, 330, 331, 50, 332, 81, 79, 146, 147, 214, 215, 333, 334, 335, 46, 336, 74, 337, 338, 339, 340, 341, 72, 342, 343, 344, 345, 13, 14, 15, 346, 222, 223, 305, 306, 307, 59, 308, 309, 310, 311, 312, 313, 85, 314, 520, 521, 522, 523, 524, 525, 526, 527, 528, 532, 533, 534, 535, 536, 537, 538, 539, 529, 530, 531] (by decide +kernel) (by decide +kernel)) (goodIn_sub (fun _ h => List.mem_append_left _ (List.mem_append_left _ (List.mem_append_right _ h))) (by decide +kernel))
set_option maxRecDepth 20000 in
theorem gL_law_X6_bestTake : GoodIn wsL_law (wsV RL 35 RX6 yX6_bestTake wsX6_bestTake) := goodIn_app (goodIn_of _ (by decide +kernel)) ggL_law_X6_bestTake
set_option maxRecDepth 20000 in
theorem il_L_law_arrint : (Cond.arrayClass .int) ∈ wsL_law := by decide +kernel
set_option maxRecDepth 20000 in
theorem il_L_law_arrdouble : (Cond.arrayClass .double) ∈ wsL_law := by decide +kernel
set_option maxHeartbeats 4000000 in
set_option maxRecDepth 100000 in
theorem law_r2 {p : Program} {l : Launch} {e : Env} {s : State} {m : MethodId} {below : List Frame} {meth : Method} {c : Code} {Q : State → Prop} {b L : Nat} {xs : Nat → Int32} {cells slots : Nat} (hx : p.tables.exec = Jvm.exec) (hb : c.code = cL_law) (hml : c.maxLocals = 16) (hr : meth.sig.returnType = (some .boolean)) (hts : ∀ w ∈ wsL_law, w.before #[Value.ref b] s = true) (hown : s.vm.findClass RL = some m.cls) {G : iG} (hK : KB G s) (hV : VX s) (hX : XS b L xs 0 (fun _ => 0) s s.heap) (hbA : ¬ aA s b) (hcc : cells + 4000 ≤ room_1.cells) (hcs : slots + 40000 ≤ room_1.slots) {ad : Nat → Nat} {C : Nat → va_E} {H : Heap} {locs : List Loc} {ls : Array Slot} {tm : Nat} (htm : tm < 3) {sh sn : Nat → Nat} {fac : Nat → UInt32} {l1 l2 l3 : Nat} (hW : W1 G 151 151 ad C b (31 * tm + 41) (SL sh fac l2) sn l1 l2 l3) (hP : va_P G.1 vwB (wl 151 ad C) H) (hD : va_D (aA s) (wl 151 ad C)) (hS : va_S (aA s) s.heap H locs) (hl : lv_has ls 16 [(3, .ref (ad 1)), (2, .ref (ad 0)), (1, .int (nI tm)), (0, .ref b)]) (kx : ∀ (ad : Nat → Nat) (C : Nat → va_E) (H : Heap) (locs : List Loc) (ls : Array Slot) (v : Nat) (tk gk : Nat → Nat) (fs : Nat → Int32), v < 256 → F2 (SL sh fac l2) v tk gk → W1 G 153 151 ad C b (31 * tm + 44) (SL sh fac l2) sn l1 l2 l3 → C 151 = ia G 2 fs → (∀ k, k < 2 → fs k = nI (16 * tk k + gk k)) → C 152 = da G 2 (fun _ => 0) → va_P G.1 vwB (wl 153 ad C) H → va_D (aA s) (wl 153 ad C) → va_S (aA s) s.heap H locs → lv_has ls 16 [(9, .ref (ad 152)), (8, .ref (ad 151)), (4, .int (nI v)), (3, .ref (ad 1)), (2, .ref (ad 0)), (1, .int (nI tm)), (0, .ref b)] → W p l e room_1 s m #[Value.ref b] below meth c H locs (cells + 10) (slots + 100) Q (F0 m 157 ls [])) : W p l e room_1 s m #[Value.ref b] below meth c H locs cells slots Q (F0 m 65 ls []) := by
  have hA : ∀ q : Nat, s.heap.size ≤ q → aA s q := fun _ h => h
  obtain ⟨hcam, hsc, h0, ⟨fl, g140, hfl⟩, g141, ⟨F143, g143⟩, ⟨F144, g144⟩, ⟨F145, g145⟩, F146, g146⟩ := hW
  refine lv_aload_n hx hb dL_law_65 rfl (lv_at hl 1 rfl) ?_
  refine lv_sipush (v := nI 256) hx hb dL_law_66 (by decide) ?_
  refine iw_i (va_runV (As := [.int (nI 256)]) (rest := []) ⟨hx, hb, hml, hown, hts⟩ (kX7_draw l G (151) ad _ b L xs (t := 0) (by omega) (256) (by omega) (31 * tm + 41) (by omega) (h0) _) (cwV 1 hts gL_law_X7_draw rfl rfl rfl (by decide +kernel) ⟨Nat.le_of_ble_eq_true rfl, Nat.le_of_ble_eq_true rfl⟩) (iPVX hK hV hX hbA hS hP hD (by omega) (h0) rfl [.int (nI 256)]) rfl rfl hl.1 rfl (lv_room (Nat.le_of_ble_eq_true rfl)) dL_law_69 ⟨by omega, by omega⟩) hD hS hA (fun r8 u8 H locs hw8 hP hD hS => ?_)
  obtain ⟨⟨q1, hq1, hr8⟩, hu8⟩ := hw8
  refine lv_asI hr8 ?_
  rw [hu8] at hP hD
  refine lv_istore (lv' := [(4, .int (nI q1)), (3, .ref (ad 1)), (2, .ref (ad 0)), (1, .int (nI tm)), (0, .ref b)]) hx hb dL_law_72 hl (by decide) rfl (fun ls hl => ?_)
  refine lv_aload_n hx hb dL_law_74 rfl (lv_at hl 1 rfl) ?_
  refine iw_l (va_runV (As := []) (rest := []) ⟨hx, hb, hml, hown, hts⟩ (kX6_digest l G (151) ad _ 1 (SL sh fac l2) (Cam_N (Cam_up hcam (by omega)) (by omega)) rfl rfl _) (cwV 0 hts gL_law_X6_digest rfl rfl rfl (by decide +kernel) ⟨Nat.le_of_ble_eq_true rfl, Nat.le_of_ble_eq_true rfl⟩) (iPV hK hP hD (by omega) ((va_un _ _ (by omega)).trans (hcam.2.2.1)) rfl []) rfl rfl hl.1 rfl (lv_room (Nat.le_of_ble_eq_true rfl)) dL_law_75 ⟨by omega, by omega⟩) hD hS hA (fun r8 u8 H locs hw8 hP hD hS => ?_)
  obtain ⟨hr8, hc8, hs8⟩ := hw8
  refine lv_asL hr8 ?_
  obtain ⟨V1, rfl⟩ : ∃ V, V = u8 := ⟨_, rfl⟩
  have k1_0 : V1 0 = ob 7 [.ref (ad 1), .ref b, .int (nI (31 * tm + 42)), .ref (ad 75), .ref (ad 140), .ref (ad 141), .ref (ad 142), .int (nI 0), .ref (ad 143), .ref (ad 144), .ref (ad 145), .ref (ad 146)] := (hs8 _ (by omega)).trans (va_us _ _ _)
  have k1_140 : V1 140 = ia G 3 fl := (hs8 _ (by omega)).trans ((va_un _ _ (by omega)).trans (g140))
  have k1_141 : V1 141 = ia G 64 (fun _ => nI 0) := (hs8 _ (by omega)).trans ((va_un _ _ (by omega)).trans (g141))
  have k1_143 : V1 143 = ra G 5 0 F143 := (hs8 _ (by omega)).trans ((va_un _ _ (by omega)).trans (g143))
  have k1_144 : V1 144 = ra G 5 0 F144 := (hs8 _ (by omega)).trans ((va_un _ _ (by omega)).trans (g144))
  have k1_145 : V1 145 = ra G 5 0 F145 := (hs8 _ (by omega)).trans ((va_un _ _ (by omega)).trans (g145))
  have k1_146 : V1 146 = ra G 5 0 F146 := (hs8 _ (by omega)).trans ((va_un _ _ (by omega)).trans (g146))
  have q1_ts := isTs_cam hs8 (by omega) (isTs_up hsc (by omega))
  have q1_cam := hc8
  refine lv_lstore (lv' := [(5, .long (dgI (SL sh fac l2))), (4, .int (nI q1)), (3, .ref (ad 1)), (2, .ref (ad 0)), (1, .int (nI tm)), (0, .ref b)]) hx hb dL_law_78 hl (by decide) rfl (fun ls hl => ?_)
  refine lv_aload_n hx hb dL_law_80 rfl (lv_at hl 2 rfl) ?_
  refine lv_iload hx hb dL_law_81 (lv_at hl 1 rfl) ?_
  refine iw_i (va_runV (As := [.int (nI q1)]) (rest := []) ⟨hx, hb, hml, hown, hts⟩ (kX6_bestTake l G (151) ad _ 1 (SL sh fac l2) (Cam_N q1_cam (by omega)) q1 (by omega) _) (cwV 1 hts gL_law_X6_bestTake rfl rfl rfl (by decide +kernel) ⟨Nat.le_of_ble_eq_true rfl, Nat.le_of_ble_eq_true rfl⟩) (iPV hK hP hD (by omega) (q1_cam.2.2.1) rfl [.int (nI q1)]) rfl rfl hl.1 rfl (lv_room (Nat.le_of_ble_eq_true rfl)) dL_law_83 ⟨by omega, by omega⟩) hD hS hA (fun r8 u8 H locs hw8 hP hD hS => ?_)
  obtain ⟨hr8, hc8, hs8⟩ := hw8
  refine lv_asI hr8 ?_
  obtain ⟨V2, rfl⟩ : ∃ V, V = u8 := ⟨_, rfl⟩
  have k2_0 : V2 0 = ob 7 [.ref (ad 1), .ref b, .int (nI (31 * tm + 42)), .ref (ad 75), .ref (ad 140), .ref (ad 141), .ref (ad 142), .int (nI 0), .ref (ad 143), .ref (ad 144), .ref (ad 145), .ref (ad 146)] := (hs8 _ (by omega)).trans (k1_0)
  have k2_140 : V2 140 = ia G 3 fl := (hs8 _ (by omega)).trans (k1_140)
  have k2_141 : V2 141 = ia G 64 (fun _ => nI 0) := (hs8 _ (by omega)).trans (k1_141)
  have k2_143 : V2 143 = ra G 5 0 F143 := (hs8 _ (by omega)).trans (k1_143)
  have k2_144 : V2 144 = ra G 5 0 F144 := (hs8 _ (by omega)).trans (k1_144)
  have k2_145 : V2 145 = ra G 5 0 F145 := (hs8 _ (by omega)).trans (k1_145)
  have k2_146 : V2 146 = ra G 5 0 F146 := (hs8 _ (by omega)).trans (k1_146)
  have q2_ts := isTs_cam hs8 (by omega) q1_ts
  have q2_cam := hc8
  obtain ⟨p0, g0, hp0, hg0, hbt, hall⟩ := btF_best (SL sh fac l2) q1
  obtain ⟨t0, ht0e⟩ : ∃ t : Nat, t = 2 ^ p0 := ⟨_, rfl⟩
  have ht0 : 0 < t0 ∧ t0 < 65 := by rw [ht0e]; exact p2_64 hp0
  refine lv_asI (y := nI (16 * t0 + (g0 + 1))) (by rw [ht0e]; exact hbt) ?_
  refine lv_istore (lv' := [(7, .int (nI (16 * t0 + (g0 + 1)))), (5, .long (dgI (SL sh fac l2))), (4, .int (nI q1)), (3, .ref (ad 1)), (2, .ref (ad 0)), (1, .int (nI tm)), (0, .ref b)]) hx hb dL_law_86 hl (by decide) rfl (fun ls hl => ?_)
  refine lv_iload hx hb dL_law_88 (lv_at hl 0 rfl) ?_
  refine lv_bipush (v := nI 16) hx hb dL_law_90 (by decide) ?_
  refine lv_irem hx hb dL_law_92 (by decide) ?_
  refine lv_asI (y := nI ((16 * t0 + (g0 + 1)) % 16)) (pk_rem (by omega) (by omega) (by omega)) ?_
  refine lv_iconst (v := nI 1) hx hb dL_law_93 (by decide) ?_
  refine lv_icmp_lt (tgt := 117) hx hb dL_law_94 (by decide) (fun c9 => absurd c9 ((nI_nlt (by omega) (by omega)))) (fun _ => ?_)
  refine lv_iload hx hb dL_law_97 (lv_at hl 0 rfl) ?_
  refine lv_bipush (v := nI 16) hx hb dL_law_99 (by decide) ?_
  refine lv_irem hx hb dL_law_101 (by decide) ?_
  refine lv_asI (y := nI ((16 * t0 + (g0 + 1)) % 16)) (pk_rem (by omega) (by omega) (by omega)) ?_
  refine lv_bipush (v := nI 8) hx hb dL_law_102 (by decide) ?_
  refine lv_icmp_gt (tgt := 117) hx hb dL_law_104 (by decide) (fun c9 => absurd c9 ((nI_nlt (by omega) (by omega)))) (fun _ => ?_)
  refine lv_aload_n hx hb dL_law_107 rfl (lv_at hl 3 rfl) ?_
  refine iw_l (va_runV (As := []) (rest := []) ⟨hx, hb, hml, hown, hts⟩ (kX6_digest l G (151) ad _ 1 (SL sh fac l2) (Cam_N q2_cam (by omega)) rfl rfl _) (cwV 0 hts gL_law_X6_digest rfl rfl rfl (by decide +kernel) ⟨Nat.le_of_ble_eq_true rfl, Nat.le_of_ble_eq_true rfl⟩) (iPV hK hP hD (by omega) (q2_cam.2.2.1) rfl []) rfl rfl hl.1 rfl (lv_room (Nat.le_of_ble_eq_true rfl)) dL_law_108 ⟨by omega, by omega⟩) hD hS hA (fun r8 u8 H locs hw8 hP hD hS => ?_)
  obtain ⟨hr8, hc8, hs8⟩ := hw8
  refine lv_asL hr8 ?_
  obtain ⟨V3, rfl⟩ : ∃ V, V = u8 := ⟨_, rfl⟩
  have k3_0 : V3 0 = ob 7 [.ref (ad 1), .ref b, .int (nI (31 * tm + 42)), .ref (ad 75), .ref (ad 140), .ref (ad 141), .ref (ad 142), .int (nI 0), .ref (ad 143), .ref (ad 144), .ref (ad 145), .ref (ad 146)] := (hs8 _ (by omega)).trans (k2_0)
  have k3_140 : V3 140 = ia G 3 fl := (hs8 _ (by omega)).trans (k2_140)
  have k3_141 : V3 141 = ia G 64 (fun _ => nI 0) := (hs8 _ (by omega)).trans (k2_141)
  have k3_143 : V3 143 = ra G 5 0 F143 := (hs8 _ (by omega)).trans (k2_143)
  have k3_144 : V3 144 = ra G 5 0 F144 := (hs8 _ (by omega)).trans (k2_144)
  have k3_145 : V3 145 = ra G 5 0 F145 := (hs8 _ (by omega)).trans (k2_145)
  have k3_146 : V3 146 = ra G 5 0 F146 := (hs8 _ (by omega)).trans (k2_146)
  have q3_ts := isTs_cam hs8 (by omega) q2_ts
  have q3_cam := hc8
  refine lv_lload hx hb dL_law_111 (lv_at hl 1 rfl) ?_
  refine lv_lcmpE hx hb dL_law_113 ?_
  refine lv_if_eq (tgt := 119) hx hb dL_law_114 (by decide) (fun _ => ?_) (fun c9 => absurd (by decide) c9)
  refine lv_iconst (v := nI 2) hx hb dL_law_119 (by decide) ?_
  refine iw_newI (N' := 2) hx hb (hts _ il_L_law_arrint) hK hP hD hS hA (by decide) (by decide) (Nat.le_of_ble_eq_true rfl) (by omega) (by omega) dL_law_120 (fun ad4 C4 H e4 c4 n4 hP hD hS => ?_)
  have k4_0 : C4 0 = ob 7 [.ref (ad4 1), .ref b, .int (nI (31 * tm + 42)), .ref (ad4 75), .ref (ad4 140), .ref (ad4 141), .ref (ad4 142), .int (nI 0), .ref (ad4 143), .ref (ad4 144), .ref (ad4 145), .ref (ad4 146)] := (c4 _ (by omega)).trans ((k3_0).trans (by first | (rw [e4 1 (by omega), e4 75 (by omega), e4 140 (by omega), e4 141 (by omega), e4 142 (by omega), e4 143 (by omega), e4 144 (by omega), e4 145 (by omega), e4 146 (by omega)]; done) | (rw [e4 1 (by omega), e4 75 (by omega), e4 140 (by omega), e4 141 (by omega), e4 142 (by omega), e4 143 (by omega), e4 144 (by omega), e4 145 (by omega), e4 146 (by omega)]; rfl)))
  have k4_140 : C4 140 = ia G 3 fl := (c4 _ (by omega)).trans (k3_140)
  have k4_141 : C4 141 = ia G 64 (fun _ => nI 0) := (c4 _ (by omega)).trans (k3_141)
  have k4_143 : C4 143 = ra G 5 0 F143 := (c4 _ (by omega)).trans (k3_143)
  have k4_144 : C4 144 = ra G 5 0 F144 := (c4 _ (by omega)).trans (k3_144)
  have k4_145 : C4 145 = ra G 5 0 F145 := (c4 _ (by omega)).trans (k3_145)
  have k4_146 : C4 146 = ra G 5 0 F146 := (c4 _ (by omega)).trans (k3_146)
  have q4_cam := Cam_gr e4 c4 (by omega) (by omega) q3_cam
  have q4_ts := isTs_gr e4 c4 (by omega) (by omega) q3_ts
  have hl : lv_has ls 16 [(7, .int (nI (16 * t0 + (g0 + 1)))), (5, .long (dgI (SL sh fac l2))), (4, .int (nI q1)), (3, .ref (ad4 1)), (2, .ref (ad4 0)), (1, .int (nI tm)), (0, .ref b)] := by rw [e4 1 (by omega), e4 0 (by omega)]; exact hl
  refine lv_dup hx hb dL_law_122 rfl ?_
  refine lv_iconst (v := nI 0) hx hb dL_law_123 (by decide) ?_
  refine lv_iload hx hb dL_law_124 (lv_at hl 0 rfl) ?_
  refine iw_iast hx hb hK hP hD hS (by omega) (n4) (vp_in_nI (show 0 < 2 by omega) (by omega)) (nI_clamp (by omega)) dL_law_126 (fun H locs hP hD hS => ?_)
  refine lv_dup hx hb dL_law_127 rfl ?_
  refine lv_iconst (v := nI 1) hx hb dL_law_128 (by decide) ?_
  refine lv_bipush (v := nI 16) hx hb dL_law_129 (by decide) ?_
  refine lv_iconst (v := nI 1) hx hb dL_law_131 (by decide) ?_
  refine lv_aload_n hx hb dL_law_132 rfl (lv_at hl 4 rfl) ?_
  refine lv_bipush (v := nI 7) hx hb dL_law_133 (by decide) ?_
  refine iw_i (va_runV (As := [.int (nI 7)]) (rest := [.int (nI 1), .int (nI 16), .int (nI 1), .ref (ad4 151), .ref (ad4 151)]) ⟨hx, hb, hml, hown, hts⟩ (kX7_draw l G (152) ad4 _ b L xs (t := 0) (by omega) (7) (by omega) (31 * tm + 42) (by omega) ((va_un _ _ (by omega)).trans (k4_0)) _) (cwV 1 hts gL_law_X7_draw rfl rfl rfl (by decide +kernel) ⟨Nat.le_of_ble_eq_true rfl, Nat.le_of_ble_eq_true rfl⟩) (iPVX hK hV hX hbA hS hP hD (by omega) ((va_un _ _ (by omega)).trans (k4_0)) rfl [.int (nI 7)]) rfl rfl hl.1 rfl (lv_room (Nat.le_of_ble_eq_true rfl)) dL_law_135 ⟨by omega, by omega⟩) hD hS hA (fun r8 u8 H locs hw8 hP hD hS => ?_)
  obtain ⟨⟨q2, hq2, hr8⟩, hu8⟩ := hw8
  refine lv_asI hr8 ?_
  rw [hu8] at hP hD
  refine lv_ishl hx hb dL_law_138 ?_
  obtain ⟨t1, ht1e⟩ : ∃ t : Nat, t = 2 ^ q2 := ⟨_, rfl⟩
  have ht1 : 0 < t1 ∧ t1 < 65 := by rw [ht1e]; exact p2_64 hq2
  refine lv_asI (y := nI t1) (by rw [ht1e]; exact shl7 q2 hq2) ?_
  refine lv_imul hx hb dL_law_139 ?_
  refine lv_asI (y := nI (16 * t1)) (pk_mul _ _) ?_
  refine lv_iconst (v := nI 1) hx hb dL_law_140 (by decide) ?_
  refine lv_iadd hx hb dL_law_141 ?_
  refine lv_asI (y := nI ((16 * t1) + 1)) (nI_add _ _) ?_
  refine lv_aload_n hx hb dL_law_142 rfl (lv_at hl 4 rfl) ?_
  refine lv_bipush (v := nI 8) hx hb dL_law_143 (by decide) ?_
  refine iw_i (va_runV (As := [.int (nI 8)]) (rest := [.int (nI ((16 * t1) + 1)), .int (nI 1), .ref (ad4 151), .ref (ad4 151)]) ⟨hx, hb, hml, hown, hts⟩ (kX7_draw l G (152) ad4 _ b L xs (t := 0) (by omega) (8) (by omega) (31 * tm + 43) (by omega) (va_us _ _ _) _) (cwV 1 hts gL_law_X7_draw rfl rfl rfl (by decide +kernel) ⟨Nat.le_of_ble_eq_true rfl, Nat.le_of_ble_eq_true rfl⟩) (iPVX hK hV hX hbA hS hP hD (by omega) (va_us _ _ _) rfl [.int (nI 8)]) rfl rfl hl.1 rfl (lv_room (Nat.le_of_ble_eq_true rfl)) dL_law_145 ⟨by omega, by omega⟩) hD hS hA (fun r8 u8 H locs hw8 hP hD hS => ?_)
  obtain ⟨⟨q3, hq3, hr8⟩, hu8⟩ := hw8
  refine lv_asI hr8 ?_
  rw [hu8] at hP hD
  rw [va_uu _ _ _ _] at hP hD
  refine lv_iadd hx hb dL_law_148 ?_
  refine lv_asI (y := nI (((16 * t1) + 1) + q3)) (nI_add _ _) ?_
  refine iw_iast hx hb hK hP hD hS (by omega) ((va_un _ _ (by omega)).trans (va_us _ _ _)) (vp_in_nI (show 1 < 2 by omega) (by omega)) (nI_clamp (by omega)) dL_law_149 (fun H locs hP hD hS => ?_)
  rw [va_u3 _ _ _ _ ((by omega))] at hP hD
  refine lv_astore (lv' := [(8, .ref (ad4 151)), (7, .int (nI (16 * t0 + (g0 + 1)))), (5, .long (dgI (SL sh fac l2))), (4, .int (nI q1)), (3, .ref (ad4 1)), (2, .ref (ad4 0)), (1, .int (nI tm)), (0, .ref b)]) hx hb dL_law_150 hl (by decide) rfl (fun ls hl => ?_)
  refine lv_iconst (v := nI 2) hx hb dL_law_152 (by decide) ?_
  refine iw_newD (N' := 2) hx hb (hts _ il_L_law_arrdouble) hK hP hD hS hA (by decide) (by decide) (Nat.le_of_ble_eq_true rfl) (by omega) (by omega) dL_law_153 (fun ad5 C5 H e5 c5 n5 hP hD hS => ?_)
  have k5_0 : C5 0 = ob 7 [.ref (ad5 1), .ref b, .int (nI (31 * tm + 44)), .ref (ad5 75), .ref (ad5 140), .ref (ad5 141), .ref (ad5 142), .int (nI 0), .ref (ad5 143), .ref (ad5 144), .ref (ad5 145), .ref (ad5 146)] := (c5 _ (by omega)).trans ((va_us _ _ _).trans (by first | (rw [e5 1 (by omega), e5 75 (by omega), e5 140 (by omega), e5 141 (by omega), e5 142 (by omega), e5 143 (by omega), e5 144 (by omega), e5 145 (by omega), e5 146 (by omega)]; done) | (rw [e5 1 (by omega), e5 75 (by omega), e5 140 (by omega), e5 141 (by omega), e5 142 (by omega), e5 143 (by omega), e5 144 (by omega), e5 145 (by omega), e5 146 (by omega)]; rfl)))
  have k5_140 : C5 140 = ia G 3 fl := (c5 _ (by omega)).trans ((va_un _ _ (by omega)).trans ((va_un _ _ (by omega)).trans (k4_140)))
  have k5_141 : C5 141 = ia G 64 (fun _ => nI 0) := (c5 _ (by omega)).trans ((va_un _ _ (by omega)).trans ((va_un _ _ (by omega)).trans (k4_141)))
  have k5_143 : C5 143 = ra G 5 0 F143 := (c5 _ (by omega)).trans ((va_un _ _ (by omega)).trans ((va_un _ _ (by omega)).trans (k4_143)))
  have k5_144 : C5 144 = ra G 5 0 F144 := (c5 _ (by omega)).trans ((va_un _ _ (by omega)).trans ((va_un _ _ (by omega)).trans (k4_144)))
  have k5_145 : C5 145 = ra G 5 0 F145 := (c5 _ (by omega)).trans ((va_un _ _ (by omega)).trans ((va_un _ _ (by omega)).trans (k4_145)))
  have k5_146 : C5 146 = ra G 5 0 F146 := (c5 _ (by omega)).trans ((va_un _ _ (by omega)).trans ((va_un _ _ (by omega)).trans (k4_146)))
  have k5_151 : C5 151 = ia G 2 (upd (upd (fun _ => nI 0) 0 (nI (16 * t0 + (g0 + 1)))) 1 (nI (((16 * t1) + 1) + q3))) := (c5 _ (by omega)).trans ((va_un _ _ (by omega)).trans (va_us _ _ _))
  have q5_cam := Cam_gr e5 c5 (by omega) (by omega) (Cam_up (Cam_up q4_cam (by omega)) (by omega))
  have q5_ts := isTs_gr e5 c5 (by omega) (by omega) (isTs_up (isTs_up q4_ts (by omega)) (by omega))
  have hl : lv_has ls 16 [(8, .ref (ad5 151)), (7, .int (nI (16 * t0 + (g0 + 1)))), (5, .long (dgI (SL sh fac l2))), (4, .int (nI q1)), (3, .ref (ad5 1)), (2, .ref (ad5 0)), (1, .int (nI tm)), (0, .ref b)] := by rw [e5 151 (by omega), e5 1 (by omega), e5 0 (by omega)]; exact hl
  refine lv_astore (lv' := [(9, .ref (ad5 152)), (8, .ref (ad5 151)), (7, .int (nI (16 * t0 + (g0 + 1)))), (5, .long (dgI (SL sh fac l2))), (4, .int (nI q1)), (3, .ref (ad5 1)), (2, .ref (ad5 0)), (1, .int (nI tm)), (0, .ref b)]) hx hb dL_law_155 hl (by decide) rfl (fun ls hl => ?_)
  refine W.widen (k := cells + 10) (n := slots + 100) (by omega) (by omega) ?_
  have hF2 : F2 (SL sh fac l2) q1 (rwk t0 t1) (rwk (g0 + 1) (1 + q3)) := by rw [ht0e, ht1e]; exact F2_mk hp0 hg0 hq2 hq3 (hall q2 q3 hq2 hq3)
  have hfs : ∀ k, k < 2 → (upd (upd (fun _ => nI 0) 0 (nI (16 * t0 + (g0 + 1)))) 1 (nI (((16 * t1) + 1) + q3))) k = nI (16 * rwk t0 t1 k + rwk (g0 + 1) (1 + q3) k) := fun k hk => by rcases (show k = 0 ∨ k = 1 by omega) with rfl | rfl; exact rfl; exact congrArg nI (show 16 * t1 + 1 + q3 = 16 * t1 + (1 + q3) by omega)
  have z_0 : (C5) 0 = ob 7 [.ref (ad5 1), .ref b, .int (nI (31 * tm + 44)), .ref (ad5 75), .ref (ad5 140), .ref (ad5 141), .ref (ad5 142), .int (nI 0), .ref (ad5 143), .ref (ad5 144), .ref (ad5 145), .ref (ad5 146)] := k5_0
  have z_140 : (C5) 140 = ia G 3 fl := k5_140
  have z_141 : (C5) 141 = ia G 64 (fun _ => nI 0) := k5_141
  have z_143 : (C5) 143 = ra G 5 0 F143 := k5_143
  have z_144 : (C5) 144 = ra G 5 0 F144 := k5_144
  have z_145 : (C5) 145 = ra G 5 0 F145 := k5_145
  have z_146 : (C5) 146 = ra G 5 0 F146 := k5_146
  have z_151 : (C5) 151 = ia G 2 (upd (upd (fun _ => nI 0) 0 (nI (16 * t0 + (g0 + 1)))) 1 (nI (((16 * t1) + 1) + q3))) := k5_151
  have z_152 : (C5) 152 = da G 2 (fun _ => 0) := n5
  exact kx ad5 C5 H locs ls q1 (rwk t0 t1) (rwk (g0 + 1) (1 + q3)) (upd (upd (fun _ => nI 0) 0 (nI (16 * t0 + (g0 + 1)))) 1 (nI (((16 * t1) + 1) + q3))) hq1 hF2 ⟨(Cam_N q5_cam (by omega)), q5_ts, z_0, ⟨fl, z_140, hfl⟩, z_141, ⟨F143, z_143⟩, ⟨F144, z_144⟩, ⟨F145, z_145⟩, F146, z_146⟩ z_151 hfs z_152 hP hD hS (lv_sub hl [0, 1, 4, 5, 6, 7, 8] rfl)
