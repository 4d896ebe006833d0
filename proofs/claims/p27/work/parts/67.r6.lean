set_option maxRecDepth 20000 in
theorem ggL_law_X6_bestWhite : GoodIn wsL_law wsX6_bestWhite := goodIn_ca (goodIn_ca (goodIn_r _ [443, 53, 64, 51, 444, 445, 17, 14, 18, 201, 202, 203, 8, 204, 137, 138, 56, 142, 143, 144, 131, 132, 240, 241, 242, 63, 243, 244, 245, 246, 88, 247, 98, 96, 248, 249, 250, 251, 103, 146, 147, 252, 253, 254, 140, 141, 255, 256, 257, 258, 102, 214, 215, 259, 260, 261, 262, 263, 264, 265, 266, 190, 191, 192, 267, 268, 269, 270, 271, 272, 273, 274, 275, 276, 277, 278, 279, 280, 281, 282, 283, 284, 285, 286, 287, 288, 289, 446, 447, 448, 449, 294, 295, 296, 414, 415, 416, 417, 418, 419, 520, 521, 522, 523, 524, 525, 526, 527, 528, 535, 536, 537, 538, 539, 532, 533, 534, 545, 546, 547, 540, 541] (by decide +kernel) (by decide +kernel)) (goodIn_sub (fun _ h => List.mem_append_left _ (List.mem_append_right _ h)) (by decide +kernel))) (goodIn_sub (fun _ h => List.mem_append_left _ (List.mem_append_left _ (List.mem_append_right _ h))) (by decide +kernel))
set_option maxRecDepth 20000 in
theorem gL_law_X6_bestWhite : GoodIn wsL_law (wsV RL 77 RX6 yX6_bestWhite wsX6_bestWhite) := goodIn_app (goodIn_of _ (by decide +kernel)) ggL_law_X6_bestWhite
theorem F3_mk {nu : Nat → UInt32} {cc w0 q2 : Nat} (hw0 : 0 < w0) (hw16 : w0 ≤ 16) (hq2 : q2 < 16) (hwa : ∀ m, 0 < m → m ≤ 16 → (bwO nu cc w0).toInt ≤ (bwO nu cc m).toInt ∧ ((bwO nu cc m).toInt = (bwO nu cc w0).toInt → w0 ≤ m)) : F3 nu cc (rwt w0 (1 + q2) (min 16 (w0 + 1))) := by
  have hn9 : ∀ k, k < 3 → 0 < (rwt w0 (1 + q2) (min 16 (w0 + 1))) k ∧ (rwt w0 (1 + q2) (min 16 (w0 + 1))) k < 17 := fun k hk => by rcases (show k = 0 ∨ k = 1 ∨ k = 2 by omega) with rfl | rfl | rfl; exact (show 0 < w0 ∧ w0 < 17 by omega); exact (show 0 < 1 + q2 ∧ 1 + q2 < 17 by omega); exact (show 0 < min 16 (w0 + 1) ∧ min 16 (w0 + 1) < 17 by omega)
  have e0 : rwt w0 (1 + q2) (min 16 (w0 + 1)) 0 = w0 := rfl
  unfold F3
  rw [e0]
  exact ⟨hn9, fun k hk => hwa _ (hn9 k hk).1 (Nat.le_of_lt_succ (hn9 k hk).2)⟩
theorem fn3 {w0 q2 : Nat} : ∀ k, k < 3 → (upd (upd (upd (fun _ => nI 0) 0 (nI w0)) 1 (nI (1 + q2))) 2 (nI (min 16 (w0 + 1)))) k = nI (rwt w0 (1 + q2) (min 16 (w0 + 1)) k) := fun k hk => by
  rcases (show k = 0 ∨ k = 1 ∨ k = 2 by omega) with rfl | rfl | rfl <;> rfl
set_option maxRecDepth 20000 in
theorem il_L_law_80 : (Cond.methodLink RL 80 Lib.Math.min.name) ∈ wsL_law := by decide +kernel
set_option maxRecDepth 20000 in
theorem il_L_law_st_min : (Cond.static Lib.Math.min.name) ∈ wsL_law := by decide +kernel
set_option maxRecDepth 20000 in
theorem il_L_law_code_min : (Cond.code Lib.Math.min.name Lib.Math.min.code 2 (some .int)) ∈ wsL_law := by decide +kernel
set_option maxHeartbeats 4000000 in
set_option maxRecDepth 100000 in
theorem law_r6 {p : Program} {l : Launch} {e : Env} {s : State} {m : MethodId} {below : List Frame} {meth : Method} {c : Code} {Q : State → Prop} {b L : Nat} {xs : Nat → Int32} {cells slots : Nat} (hx : p.tables.exec = Jvm.exec) (hb : c.code = cL_law) (hml : c.maxLocals = 16) (hr : meth.sig.returnType = (some .boolean)) (hts : ∀ w ∈ wsL_law, w.before #[Value.ref b] s = true) (hown : s.vm.findClass RL = some m.cls) {G : iG} (hK : KB G s) (hV : VX s) (hX : XS b L xs 0 (fun _ => 0) s s.heap) (hbA : ¬ aA s b) (hcc : cells + 4000 ≤ room_1.cells) (hcs : slots + 40000 ≤ room_1.slots) {ad : Nat → Nat} {C : Nat → va_E} {H : Heap} {locs : List Loc} {ls : Array Slot} {tm d l2 a8 a9 a10 a11 : Nat} {dw : Int32} {sh rw ek en : Nat → Nat} {fac : Nat → UInt32} {z : Int32 × Int32 × Int32} {fi : Nat → Fi} (hd : d < 500) (hcam : Cam G 163 ad C 1 (SC sh fac l2 rw ek en 2 z fi)) (h0 : C 0 = ob 7 [.ref (ad 1), .ref b, .int (nI d), .ref (ad 75), .ref (ad 140), .ref (ad 141), .ref (ad 142), .int dw, .ref a8, .ref a9, .ref a10, .ref a11]) (hP : va_P G.1 vwB (wl 163 ad C) H) (hD : va_D (aA s) (wl 163 ad C)) (hS : va_S (aA s) s.heap H locs) (hl : lv_has ls 16 [(3, .ref (ad 1)), (2, .ref (ad 0)), (1, .int (nI tm)), (0, .ref b)]) (kx : ∀ (ad : Nat → Nat) (C : Nat → va_E) (H : Heap) (locs : List Loc) (ls : Array Slot) (kd w0 : Nat) (nk : Nat → Nat) (fn : Nat → Int32), (kd = 1 ∨ kd = 2) → F3 (coN rw ek en 2) (if kd = 1 then 0 else 2) nk → nk 0 = w0 → (∀ k, k < 3 → fn k = nI (nk k)) → Cam G 165 ad C 1 (SC sh fac l2 rw ek en 2 z fi) → C 0 = ob 7 [.ref (ad 1), .ref b, .int (nI (d + 2)), .ref (ad 75), .ref (ad 140), .ref (ad 141), .ref (ad 142), .int dw, .ref a8, .ref a9, .ref a10, .ref a11] → C 163 = ia G 3 fn → C 164 = ia G 3 (fun _ => nI 0) → va_P G.1 vwB (wl 165 ad C) H → va_D (aA s) (wl 165 ad C) → va_S (aA s) s.heap H locs → lv_has ls 16 [(13, .ref (ad 164)), (12, .ref (ad 163)), (11, .int (nI w0)), (10, .int (nI kd)), (3, .ref (ad 1)), (2, .ref (ad 0)), (1, .int (nI tm)), (0, .ref b)] → W p l e room_1 s m #[Value.ref b] below meth c H locs (cells + 10) (slots + 100) Q (F0 m 487 ls [])) : W p l e room_1 s m #[Value.ref b] below meth c H locs cells slots Q (F0 m 431 ls []) := by
  have hA : ∀ q : Nat, s.heap.size ≤ q → aA s q := fun _ h => h
  refine lv_iconst (v := nI 1) hx hb dL_law_431 (by decide) ?_
  refine lv_aload_n hx hb dL_law_432 rfl (lv_at hl 1 rfl) ?_
  refine lv_iconst (v := nI 2) hx hb dL_law_433 (by decide) ?_
  refine iw_i (va_runV (As := [.int (nI 2)]) (rest := [.int (nI 1)]) ⟨hx, hb, hml, hown, hts⟩ (kX7_draw l G (163) ad _ b L xs (t := 0) (by omega) (2) (by omega) (d) (by omega) (h0) _) (cwV 1 hts gL_law_X7_draw rfl rfl rfl (by decide +kernel) ⟨Nat.le_of_ble_eq_true rfl, Nat.le_of_ble_eq_true rfl⟩) (iPVX hK hV hX hbA hS hP hD (by omega) (h0) rfl [.int (nI 2)]) rfl rfl hl.1 rfl (lv_room (Nat.le_of_ble_eq_true rfl)) dL_law_434 ⟨by omega, by omega⟩) hD hS hA (fun r8 u8 H locs hw8 hP hD hS => ?_)
  obtain ⟨⟨q1, hq1, hr8⟩, hu8⟩ := hw8
  refine lv_asI hr8 ?_
  rw [hu8] at hP hD
  refine lv_iadd hx hb dL_law_437 ?_
  refine lv_asI (y := nI (1 + q1)) (nI_add _ _) ?_
  obtain ⟨kd, hkde⟩ : ∃ kd : Nat, kd = 1 + q1 := ⟨_, rfl⟩
  have hkd : kd = 1 ∨ kd = 2 := by omega
  refine lv_asI (y := nI kd) (congrArg nI hkde.symm) ?_
  refine lv_istore (lv' := [(10, .int (nI kd)), (3, .ref (ad 1)), (2, .ref (ad 0)), (1, .int (nI tm)), (0, .ref b)]) hx hb dL_law_438 hl (by decide) rfl (fun ls hl => ?_)
  refine lv_aload_n hx hb dL_law_440 rfl (lv_at hl 1 rfl) ?_
  refine lv_iconst (v := nI 0) hx hb dL_law_441 (by decide) ?_
  refine lv_iload hx hb dL_law_442 (lv_at hl 0 rfl) ?_
  refine iw_i (va_runV (As := [.int (nI 0), .int (nI kd)]) (rest := []) ⟨hx, hb, hml, hown, hts⟩ (kX6_bestWhite l G (163) ad _ 1 (SC sh fac l2 rw ek en 2 z fi) (Cam_N (Cam_up hcam (by omega)) (by omega)) 0 (by show 0 < 1; decide) kd hkd _) (cwV 2 hts gL_law_X6_bestWhite rfl rfl rfl (by decide +kernel) ⟨Nat.le_of_ble_eq_true rfl, Nat.le_of_ble_eq_true rfl⟩) (iPV hK hP hD (by omega) ((va_un _ _ (by omega)).trans (hcam.2.2.1)) rfl [.int (nI 0), .int (nI kd)]) rfl rfl hl.1 rfl (lv_room (Nat.le_of_ble_eq_true rfl)) dL_law_444 ⟨by omega, by omega⟩) hD hS hA (fun r8 u8 H locs hw8 hP hD hS => ?_)
  obtain ⟨hr8, hc8, hs8⟩ := hw8
  refine lv_asI hr8 ?_
  obtain ⟨V1, rfl⟩ : ∃ V, V = u8 := ⟨_, rfl⟩
  have k1_0 : V1 0 = ob 7 [.ref (ad 1), .ref b, .int (nI (d + 1)), .ref (ad 75), .ref (ad 140), .ref (ad 141), .ref (ad 142), .int dw, .ref a8, .ref a9, .ref a10, .ref a11] := (hs8 _ (by omega)).trans (va_us _ _ _)
  have q1_cam := hc8
  obtain ⟨w0, hw0, hw16, hbw, hwa⟩ := bwF_best (coN rw ek en 2) (if kd = 1 then 0 else 2) 16 (by decide) (by decide)
  refine lv_asI (y := nI w0) (congrArg Prod.fst hbw) ?_
  refine lv_istore (lv' := [(11, .int (nI w0)), (10, .int (nI kd)), (3, .ref (ad 1)), (2, .ref (ad 0)), (1, .int (nI tm)), (0, .ref b)]) hx hb dL_law_447 hl (by decide) rfl (fun ls hl => ?_)
  refine lv_iconst (v := nI 3) hx hb dL_law_449 (by decide) ?_
  refine iw_newI (N' := 3) hx hb (hts _ il_L_law_arrint) hK hP hD hS hA (by decide) (by decide) (Nat.le_of_ble_eq_true rfl) (by omega) (by omega) dL_law_450 (fun ad2 C2 H e2 c2 n2 hP hD hS => ?_)
  have k2_0 : C2 0 = ob 7 [.ref (ad2 1), .ref b, .int (nI (d + 1)), .ref (ad2 75), .ref (ad2 140), .ref (ad2 141), .ref (ad2 142), .int dw, .ref a8, .ref a9, .ref a10, .ref a11] := (c2 _ (by omega)).trans ((k1_0).trans (by first | (rw [e2 1 (by omega), e2 75 (by omega), e2 140 (by omega), e2 141 (by omega), e2 142 (by omega)]; done) | (rw [e2 1 (by omega), e2 75 (by omega), e2 140 (by omega), e2 141 (by omega), e2 142 (by omega)]; rfl)))
  have q2_cam := Cam_gr e2 c2 (by omega) (by omega) q1_cam
  have hl : lv_has ls 16 [(11, .int (nI w0)), (10, .int (nI kd)), (3, .ref (ad2 1)), (2, .ref (ad2 0)), (1, .int (nI tm)), (0, .ref b)] := by rw [e2 1 (by omega), e2 0 (by omega)]; exact hl
  refine lv_dup hx hb dL_law_452 rfl ?_
  refine lv_iconst (v := nI 0) hx hb dL_law_453 (by decide) ?_
  refine lv_iload hx hb dL_law_454 (lv_at hl 0 rfl) ?_
  refine iw_iast hx hb hK hP hD hS (by omega) (n2) (vp_in_nI (show 0 < 3 by omega) (by omega)) (nI_clamp (by omega)) dL_law_456 (fun H locs hP hD hS => ?_)
  refine lv_dup hx hb dL_law_457 rfl ?_
  refine lv_iconst (v := nI 1) hx hb dL_law_458 (by decide) ?_
  refine lv_iconst (v := nI 1) hx hb dL_law_459 (by decide) ?_
  refine lv_aload_n hx hb dL_law_460 rfl (lv_at hl 3 rfl) ?_
  refine lv_bipush (v := nI 16) hx hb dL_law_461 (by decide) ?_
  refine iw_i (va_runV (As := [.int (nI 16)]) (rest := [.int (nI 1), .int (nI 1), .ref (ad2 163), .ref (ad2 163)]) ⟨hx, hb, hml, hown, hts⟩ (kX7_draw l G (164) ad2 _ b L xs (t := 0) (by omega) (16) (by omega) (d + 1) (by omega) ((va_un _ _ (by omega)).trans (k2_0)) _) (cwV 1 hts gL_law_X7_draw rfl rfl rfl (by decide +kernel) ⟨Nat.le_of_ble_eq_true rfl, Nat.le_of_ble_eq_true rfl⟩) (iPVX hK hV hX hbA hS hP hD (by omega) ((va_un _ _ (by omega)).trans (k2_0)) rfl [.int (nI 16)]) rfl rfl hl.1 rfl (lv_room (Nat.le_of_ble_eq_true rfl)) dL_law_463 ⟨by omega, by omega⟩) hD hS hA (fun r8 u8 H locs hw8 hP hD hS => ?_)
  obtain ⟨⟨q2, hq2, hr8⟩, hu8⟩ := hw8
  refine lv_asI hr8 ?_
  rw [hu8] at hP hD
  refine lv_iadd hx hb dL_law_466 ?_
  refine lv_asI (y := nI (1 + q2)) (nI_add _ _) ?_
  refine iw_iast hx hb hK hP hD hS (by omega) ((va_un _ _ (by omega)).trans (va_us _ _ _)) (vp_in_nI (show 1 < 3 by omega) (by omega)) (nI_clamp (by omega)) dL_law_467 (fun H locs hP hD hS => ?_)
  rw [va_u3 _ _ _ _ ((by omega))] at hP hD
  refine lv_dup hx hb dL_law_468 rfl ?_
  refine lv_iconst (v := nI 2) hx hb dL_law_469 (by decide) ?_
  refine lv_bipush (v := nI 16) hx hb dL_law_470 (by decide) ?_
  refine lv_iload hx hb dL_law_472 (lv_at hl 0 rfl) ?_
  refine lv_iconst (v := nI 1) hx hb dL_law_474 (by decide) ?_
  refine lv_iadd hx hb dL_law_475 ?_
  refine lv_asI (y := nI (w0 + 1)) (nI_add _ _) ?_
  refine va_mmin hx hb (hml.trans hl.1.symm) hown (hts _ il_L_law_80) (hts _ il_L_law_st_min) (hts _ il_L_law_ini_Math) (hts _ il_L_law_code_min) (Nat.le_of_ble_eq_true rfl) (Nat.le_of_ble_eq_true rfl) (by omega) (by omega) dL_law_476 ?_
  refine lv_asI (y := nI (min 16 (w0 + 1))) (min16 (by omega)) ?_
  refine iw_iast hx hb hK hP hD hS (by omega) ((va_un _ _ (by omega)).trans (va_us _ _ _)) (vp_in_nI (show 2 < 3 by omega) (by omega)) (nI_clamp (by omega)) dL_law_479 (fun H locs hP hD hS => ?_)
  rw [va_u3 _ _ _ _ ((by omega))] at hP hD
  refine lv_astore (lv' := [(12, .ref (ad2 163)), (11, .int (nI w0)), (10, .int (nI kd)), (3, .ref (ad2 1)), (2, .ref (ad2 0)), (1, .int (nI tm)), (0, .ref b)]) hx hb dL_law_480 hl (by decide) rfl (fun ls hl => ?_)
  refine lv_iconst (v := nI 3) hx hb dL_law_482 (by decide) ?_
  refine iw_newI (N' := 3) hx hb (hts _ il_L_law_arrint) hK hP hD hS hA (by decide) (by decide) (Nat.le_of_ble_eq_true rfl) (by omega) (by omega) dL_law_483 (fun ad3 C3 H e3 c3 n3 hP hD hS => ?_)
  have k3_0 : C3 0 = ob 7 [.ref (ad3 1), .ref b, .int (nI (d + 2)), .ref (ad3 75), .ref (ad3 140), .ref (ad3 141), .ref (ad3 142), .int dw, .ref a8, .ref a9, .ref a10, .ref a11] := (c3 _ (by omega)).trans ((va_us _ _ _).trans (by first | (rw [e3 1 (by omega), e3 75 (by omega), e3 140 (by omega), e3 141 (by omega), e3 142 (by omega)]; done) | (rw [e3 1 (by omega), e3 75 (by omega), e3 140 (by omega), e3 141 (by omega), e3 142 (by omega)]; rfl)))
  have k3_163 : C3 163 = ia G 3 (upd (upd (upd (fun _ => nI 0) 0 (nI w0)) 1 (nI (1 + q2))) 2 (nI (min 16 (w0 + 1)))) := (c3 _ (by omega)).trans ((va_un _ _ (by omega)).trans (va_us _ _ _))
  have q3_cam := Cam_gr e3 c3 (by omega) (by omega) (Cam_up (Cam_up q2_cam (by omega)) (by omega))
  have hl : lv_has ls 16 [(12, .ref (ad3 163)), (11, .int (nI w0)), (10, .int (nI kd)), (3, .ref (ad3 1)), (2, .ref (ad3 0)), (1, .int (nI tm)), (0, .ref b)] := by rw [e3 163 (by omega), e3 1 (by omega), e3 0 (by omega)]; exact hl
  refine lv_astore (lv' := [(13, .ref (ad3 164)), (12, .ref (ad3 163)), (11, .int (nI w0)), (10, .int (nI kd)), (3, .ref (ad3 1)), (2, .ref (ad3 0)), (1, .int (nI tm)), (0, .ref b)]) hx hb dL_law_485 hl (by decide) rfl (fun ls hl => ?_)
  refine W.widen (k := cells + 10) (n := slots + 100) (by omega) (by omega) ?_
  have hF3 : F3 (coN rw ek en 2) (if kd = 1 then 0 else 2) (rwt w0 (1 + q2) (min 16 (w0 + 1))) := F3_mk hw0 hw16 hq2 hwa
  have z_0 : (C3) 0 = ob 7 [.ref (ad3 1), .ref b, .int (nI (d + 2)), .ref (ad3 75), .ref (ad3 140), .ref (ad3 141), .ref (ad3 142), .int dw, .ref a8, .ref a9, .ref a10, .ref a11] := k3_0
  have z_163 : (C3) 163 = ia G 3 (upd (upd (upd (fun _ => nI 0) 0 (nI w0)) 1 (nI (1 + q2))) 2 (nI (min 16 (w0 + 1)))) := k3_163
  have z_164 : (C3) 164 = ia G 3 (fun _ => nI 0) := n3
  exact kx ad3 (C3) H locs ls kd w0 (rwt w0 (1 + q2) (min 16 (w0 + 1))) (upd (upd (upd (fun _ => nI 0) 0 (nI w0)) 1 (nI (1 + q2))) 2 (nI (min 16 (w0 + 1)))) hkd hF3 rfl fn3 (Cam_N q3_cam (by omega)) z_0 z_163 z_164 hP hD hS (lv_sub hl [0, 1, 2, 3, 4, 5, 6, 7] rfl)
