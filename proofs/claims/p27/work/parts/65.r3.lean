set_option maxRecDepth 20000 in
theorem ggL_law_X6_paint : GoodIn wsL_law wsX6_paint := goodIn_ca (goodIn_ca (goodIn_r _ [130, 131, 132, 133, 47, 134, 135, 8, 136, 137, 138, 139, 140, 141, 142, 143, 144, 145, 146, 147, 148, 149, 150, 46, 151, 72, 520, 521, 522, 523, 524, 525, 526, 527, 528, 529, 530, 531] (by decide +kernel) (by decide +kernel)) (goodIn_sub (fun _ h => List.mem_append_left _ (List.mem_append_left _ (List.mem_append_right _ h))) (by decide +kernel))) (goodIn_sub (fun _ h => List.mem_append_left _ (List.mem_append_right _ h)) (by decide +kernel))
set_option maxRecDepth 20000 in
theorem gL_law_X6_paint : GoodIn wsL_law (wsV RL 51 RX6 yX6_paint wsX6_paint) := goodIn_app (goodIn_of _ (by decide +kernel)) ggL_law_X6_paint
set_option maxRecDepth 20000 in
theorem ggL_law_X6_init : GoodIn wsL_law wsX6_init := goodIn_r _ [42, 43, 23, 24, 44, 45, 46, 47, 48, 49, 50, 51, 52, 53, 54, 55, 56, 57, 58, 59, 60, 61, 62, 63, 64, 65, 66, 67, 68, 69, 70, 71, 4, 72, 73, 74, 75, 76, 77, 78, 79, 31, 80, 81, 82, 83, 84, 85, 86, 87, 88, 89, 90, 91, 92, 93, 94, 95, 96, 97, 98, 99, 100, 101, 102, 103, 104, 105, 106, 107, 108, 109, 110, 529, 530, 531, 520, 521, 522, 523, 524, 525, 526, 527, 528, 532, 533, 534, 535, 536, 537, 538, 539, 540, 541, 542, 543, 544, 545, 546, 547] (by decide +kernel) (by decide +kernel)
set_option maxRecDepth 20000 in
theorem gL_law_X6_init : GoodIn wsL_law (wsX6_init) := ggL_law_X6_init
set_option maxRecDepth 20000 in
theorem ggL_law_X6_lamp : GoodIn wsL_law wsX6_lamp := goodIn_ca (goodIn_r _ [159, 47, 142, 143, 8, 144, 131, 132, 160, 161, 162, 46, 163, 75, 164, 165, 166, 167, 74, 168, 520, 521, 522, 523, 524, 525, 526, 527, 528, 529, 530, 531] (by decide +kernel) (by decide +kernel)) (goodIn_sub (fun _ h => List.mem_append_left _ (List.mem_append_left _ (List.mem_append_right _ h))) (by decide +kernel))
set_option maxRecDepth 20000 in
theorem gL_law_X6_lamp : GoodIn wsL_law (wsV RL 43 RX6 yX6_lamp wsX6_lamp) := goodIn_app (goodIn_of _ (by decide +kernel)) ggL_law_X6_lamp
set_option maxRecDepth 20000 in
theorem ggL_law_X6_take : GoodIn wsL_law wsX6_take := goodIn_ca (goodIn_ca (goodIn_r _ [357, 56, 51, 47, 53, 326, 327, 8, 328, 142, 143, 144, 131, 132, 358, 359, 360, 361, 362, 329, 330, 331, 50, 332, 81, 79, 146, 147, 214, 215, 333, 334, 335, 46, 336, 74, 337, 338, 339, 340, 341, 72, 342, 343, 344, 345, 13, 14, 15, 346, 222, 223, 363, 364, 365, 366, 520, 521, 522, 523, 524, 525, 526, 527, 528, 532, 533, 534, 535, 536, 537, 538, 539, 529, 530, 531] (by decide +kernel) (by decide +kernel)) (goodIn_sub (fun _ h => List.mem_append_left _ (List.mem_append_left _ (List.mem_append_right _ h))) (by decide +kernel))) (goodIn_sub (fun _ h => List.mem_append_right _ h) (by decide +kernel))
set_option maxRecDepth 20000 in
theorem gL_law_X6_take : GoodIn wsL_law (wsV RL 54 RX6 yX6_take wsX6_take) := goodIn_app (goodIn_of _ (by decide +kernel)) ggL_law_X6_take
set_option maxRecDepth 20000 in
theorem ggL_law_X6_meter : GoodIn wsL_law wsX6_meter := goodIn_ca (goodIn_r _ [304, 53, 201, 202, 203, 8, 204, 137, 138, 56, 305, 306, 307, 59, 308, 309, 310, 311, 312, 313, 85, 314, 214, 215, 146, 147, 520, 521, 522, 523, 524, 525, 526, 527, 528, 535, 536, 537, 538, 539] (by decide +kernel) (by decide +kernel)) (goodIn_sub (fun _ h => List.mem_append_left _ (List.mem_append_right _ h)) (by decide +kernel))
set_option maxRecDepth 20000 in
theorem gL_law_X6_meter : GoodIn wsL_law (wsV RL 58 RX6 yX6_meter wsX6_meter) := goodIn_app (goodIn_of _ (by decide +kernel)) ggL_law_X6_meter
set_option maxRecDepth 20000 in
theorem il_L_law_46 : (Cond.fieldLink RL 46 "BayerGateLaw$Told" "scene" "[[I") ∈ wsL_law := by decide +kernel
set_option maxRecDepth 20000 in
theorem il_L_law_50 : (Cond.constant RL 50 (65536)) ∈ wsL_law := by decide +kernel
set_option maxHeartbeats 4000000 in
set_option maxRecDepth 100000 in
theorem law_r3p {p : Program} {l : Launch} {e : Env} {s : State} {m : MethodId} {below : List Frame} {meth : Method} {c : Code} {Q : State → Prop} {b L : Nat} {xs : Nat → Int32} {cells slots : Nat} (hx : p.tables.exec = Jvm.exec) (hb : c.code = cL_law) (hml : c.maxLocals = 16) (hr : meth.sig.returnType = (some .boolean)) (hts : ∀ w ∈ wsL_law, w.before #[Value.ref b] s = true) (hown : s.vm.findClass RL = some m.cls) {G : iG} (hK : KB G s) (hV : VX s) (hX : XS b L xs 0 (fun _ => 0) s s.heap) (hbA : ¬ aA s b) (hcc : cells ≤ room_1.cells) (hcs : slots ≤ room_1.slots) {ad : Nat → Nat} {tm v k d a8 a9 a10 a11 l1 l2 l3 : Nat} {dw : Int32} {sh sn : Nat → Nat} {C0 : Nat → va_E} {F9 : Nat → Option Nat} {sc9 : Nat → Nat} {gr9 : Nat → Nat → Int32} (h0 : C0 0 = ob 7 [.ref (ad 1), .ref b, .int (nI d), .ref (ad 75), .ref (ad 140), .ref (ad 141), .ref (ad 142), .int dw, .ref a8, .ref a9, .ref a10, .ref a11]) (h75 : C0 75 = ra G 5 64 F9) (hsc9 : (∀ i, i < 64 → F9 i = some (ad (sc9 i)) ∧ 76 ≤ sc9 i ∧ sc9 i < 151 ∧ (sc9 i < 140 ∨ 147 ≤ sc9 i) ∧ C0 (sc9 i) = ia G 3 (gr9 i) ∧ ∀ q, q < 3 → gr9 i q = nI (sn (3 * i + q)))) (hsn : SnI sh sn) (kx : ∀ (C : Nat → va_E) (H : Heap) (locs : List Loc) (ls : Array Slot), Cam G 227 ad C 153 (SL (oSh sn 64) (vf_upd (vf_upd (vf_upd (sFac S0) 0 (quF l1)) 1 (quF l2)) 2 (quF l3)) l2) → (∀ j, j < 153 → C j = C0 j) → va_P G.1 vwB (wl 227 ad C) H → va_D (aA s) (wl 227 ad C) → va_S (aA s) s.heap H locs → lv_has ls 16 [(11, .ref (ad 153)), (10, .int (nI k)), (9, .ref (ad 152)), (8, .ref (ad 151)), (4, .int (nI v)), (3, .ref (ad 1)), (2, .ref (ad 0)), (1, .int (nI tm)), (0, .ref b)] → W p l e room_1 s m #[Value.ref b] below meth c H locs cells slots Q (F0 m 277 ls [])) : ∀ (dq : Nat) (p9 : Nat) (C : Nat → va_E) (H : Heap) (locs : List Loc) (ls : Array Slot), 64 - p9 < dq → p9 ≤ 64 → Cam G 227 ad C 153 (SL (oSh sn p9) (vf_upd (vf_upd (vf_upd (sFac S0) 0 (quF l1)) 1 (quF l2)) 2 (quF l3)) l2) → (∀ j, j < 153 → C j = C0 j) → va_P G.1 vwB (wl 227 ad C) H → va_D (aA s) (wl 227 ad C) → va_S (aA s) s.heap H locs → lv_has ls 16 [(12, .int (nI p9)), (11, .ref (ad 153)), (10, .int (nI k)), (9, .ref (ad 152)), (8, .ref (ad 151)), (4, .int (nI v)), (3, .ref (ad 1)), (2, .ref (ad 0)), (1, .int (nI tm)), (0, .ref b)] → W p l e room_1 s m #[Value.ref b] below meth c H locs cells slots Q (F0 m 202 ls []) := by
  have hA : ∀ q : Nat, s.heap.size ≤ q → aA s q := fun _ h => h
  intro dq
  induction dq with
  | zero => intro p9 C H locs ls hd; exact absurd hd (Nat.not_lt_zero _)
  | succ dq ih =>
    intro p9 C H locs ls hd h2 hcam hag hP hD hS hl
    refine lv_iload hx hb dL_law_202 (lv_at hl 0 rfl) ?_
    refine lv_bipush (v := nI 64) hx hb dL_law_204 (by decide) ?_
    refine lv_icmp_ge (tgt := 277) hx hb dL_law_206 (by decide) (fun c206 => ?_) (fun c206 => ?_)
    · have h5 : p9 = 64 := by have := (nI_leI (by omega) (by omega)).mp c206; omega
      subst h5
      exact kx C H locs ls hcam hag hP hD hS (lv_sub hl [1, 2, 3, 4, 5, 6, 7, 8, 9] rfl)
    · have h4 : p9 < 64 := by have := mt (nI_leI (by omega) (by omega)).mpr c206; omega
      refine lv_aload hx hb dL_law_209 (lv_at hl 1 rfl) ?_
      refine lv_iload hx hb dL_law_211 (lv_at hl 0 rfl) ?_
      refine lv_bipush (v := nI 8) hx hb dL_law_213 (by decide) ?_
      refine lv_irem hx hb dL_law_215 (by decide) ?_
      refine lv_asI (y := nI (p9 % 8)) (pk_rem (by omega) (by omega) (by omega)) ?_
      refine lv_iload hx hb dL_law_216 (lv_at hl 0 rfl) ?_
      refine lv_bipush (v := nI 8) hx hb dL_law_218 (by decide) ?_
      refine lv_idiv hx hb dL_law_220 (by decide) ?_
      refine lv_asI (y := nI (p9 / 8)) (pk_div (by omega) (by omega) (by omega)) ?_
      refine lv_iload hx hb dL_law_221 (lv_at hl 0 rfl) ?_
      refine lv_bipush (v := nI 8) hx hb dL_law_223 (by decide) ?_
      refine lv_irem hx hb dL_law_225 (by decide) ?_
      refine lv_asI (y := nI (p9 % 8)) (pk_rem (by omega) (by omega) (by omega)) ?_
      refine lv_iload hx hb dL_law_226 (lv_at hl 0 rfl) ?_
      refine lv_bipush (v := nI 8) hx hb dL_law_228 (by decide) ?_
      refine lv_idiv hx hb dL_law_230 (by decide) ?_
      refine lv_asI (y := nI (p9 / 8)) (pk_div (by omega) (by omega) (by omega)) ?_
      refine lv_aload_n hx hb dL_law_231 rfl (lv_at hl 7 rfl) ?_
      refine iw_get hx hb hts iu_L_law_7 hown hK hP (by omega) ((hag 0 (by omega)).trans h0) rfl 3 (by decide) (hts _ il_L_law_46) (fun _ h9 => h9) rfl dL_law_232 ?_
      refine lv_iload hx hb dL_law_235 (lv_at hl 0 rfl) ?_
      refine iw_gald (v := ad (sc9 p9)) hx hb hK hP (by omega) ((hag 75 (by omega)).trans h75) (vp_in_nI (show p9 < 64 by omega) (by omega)) ((congrArg F9 (nI_clamp (by omega))).trans ((fun i hi => (hsc9 i hi).1) _ (by omega))) dL_law_237 ?_
      obtain ⟨-, ls8, ls9, ln9, hs9, hg9⟩ := hsc9 p9 h4
      refine lv_iconst (v := nI 0) hx hb dL_law_238 (by decide) ?_
      refine iw_iald (v := (gr9 p9) 0) hx hb hK hP (by omega) ((hag _ (by omega)).trans hs9) (vp_in_nI (show 0 < 3 by omega) (by omega)) (congrArg (gr9 p9) (nI_clamp (by omega))) dL_law_239 ?_
      refine lv_asI (y := nI (sn (3 * p9))) (hg9 0 (by decide)) ?_
      refine lv_sipush (v := nI 256) hx hb dL_law_240 (by decide) ?_
      refine lv_aload_n hx hb dL_law_243 rfl (lv_at hl 7 rfl) ?_
      refine iw_get hx hb hts iu_L_law_7 hown hK hP (by omega) ((hag 0 (by omega)).trans h0) rfl 3 (by decide) (hts _ il_L_law_46) (fun _ h9 => h9) rfl dL_law_244 ?_
      refine lv_iload hx hb dL_law_247 (lv_at hl 0 rfl) ?_
      refine iw_gald (v := ad (sc9 p9)) hx hb hK hP (by omega) ((hag 75 (by omega)).trans h75) (vp_in_nI (show p9 < 64 by omega) (by omega)) ((congrArg F9 (nI_clamp (by omega))).trans ((fun i hi => (hsc9 i hi).1) _ (by omega))) dL_law_249 ?_
      refine lv_iconst (v := nI 1) hx hb dL_law_250 (by decide) ?_
      refine iw_iald (v := (gr9 p9) 1) hx hb hK hP (by omega) ((hag _ (by omega)).trans hs9) (vp_in_nI (show 1 < 3 by omega) (by omega)) (congrArg (gr9 p9) (nI_clamp (by omega))) dL_law_251 ?_
      refine lv_asI (y := nI (sn (3 * p9 + 1))) (hg9 1 (by decide)) ?_
      refine lv_imul hx hb dL_law_252 ?_
      refine lv_asI (y := nI (256 * (sn (3 * p9 + 1)))) (pk_mul _ _) ?_
      refine lv_iadd hx hb dL_law_253 ?_
      refine lv_asI (y := nI ((sn (3 * p9)) + (256 * (sn (3 * p9 + 1))))) (nI_add _ _) ?_
      refine lv_ldc hx hb hown (hts _ il_L_law_50) dL_law_254 ?_
      refine lv_asI (y := nI 65536) (by decide) ?_
      refine lv_aload_n hx hb dL_law_256 rfl (lv_at hl 7 rfl) ?_
      refine iw_get hx hb hts iu_L_law_7 hown hK hP (by omega) ((hag 0 (by omega)).trans h0) rfl 3 (by decide) (hts _ il_L_law_46) (fun _ h9 => h9) rfl dL_law_257 ?_
      refine lv_iload hx hb dL_law_260 (lv_at hl 0 rfl) ?_
      refine iw_gald (v := ad (sc9 p9)) hx hb hK hP (by omega) ((hag 75 (by omega)).trans h75) (vp_in_nI (show p9 < 64 by omega) (by omega)) ((congrArg F9 (nI_clamp (by omega))).trans ((fun i hi => (hsc9 i hi).1) _ (by omega))) dL_law_262 ?_
      refine lv_iconst (v := nI 2) hx hb dL_law_263 (by decide) ?_
      refine iw_iald (v := (gr9 p9) 2) hx hb hK hP (by omega) ((hag _ (by omega)).trans hs9) (vp_in_nI (show 2 < 3 by omega) (by omega)) (congrArg (gr9 p9) (nI_clamp (by omega))) dL_law_264 ?_
      refine lv_asI (y := nI (sn (3 * p9 + 2))) (hg9 2 (by decide)) ?_
      refine lv_imul hx hb dL_law_265 ?_
      refine lv_asI (y := nI (65536 * (sn (3 * p9 + 2)))) (pk_mul _ _) ?_
      refine lv_iadd hx hb dL_law_266 ?_
      refine lv_asI (y := nI (((sn (3 * p9)) + (256 * (sn (3 * p9 + 1)))) + (65536 * (sn (3 * p9 + 2))))) (nI_add _ _) ?_
      refine lv_asI (y := nI (sn (3 * p9) + 256 * sn (3 * p9 + 1) + 65536 * sn (3 * p9 + 2))) rfl ?_
      refine iw_i (va_runV (As := [.int (nI (p9 % 8)), .int (nI (p9 / 8)), .int (nI (p9 % 8)), .int (nI (p9 / 8)), .int (nI (sn (3 * p9) + 256 * sn (3 * p9 + 1) + 65536 * sn (3 * p9 + 2)))]) (rest := []) ⟨hx, hb, hml, hown, hts⟩ (kX6_paint l G (227) ad _ 153 (SL (oSh sn p9) (vf_upd (vf_upd (vf_upd (sFac S0) 0 (quF l1)) 1 (quF l2)) 2 (quF l3)) l2) (Cam_N hcam (by omega)) (p9 % 8) (p9 / 8) (p9 % 8) (p9 / 8) (sn (3 * p9) + 256 * sn (3 * p9 + 1) + 65536 * sn (3 * p9 + 2)) ⟨Nat.le_refl _, by omega, Nat.le_refl _, by omega⟩ (sn_co hsn h4) _) (cwV 5 hts gL_law_X6_paint rfl rfl rfl (by decide +kernel) ⟨Nat.le_of_ble_eq_true rfl, Nat.le_of_ble_eq_true rfl⟩) (iPV hK hP hD (by omega) (hcam.2.2.1) rfl [.int (nI (p9 % 8)), .int (nI (p9 / 8)), .int (nI (p9 % 8)), .int (nI (p9 / 8)), .int (nI (sn (3 * p9) + 256 * sn (3 * p9 + 1) + 65536 * sn (3 * p9 + 2)))]) rfl rfl hl.1 rfl (lv_room (Nat.le_of_ble_eq_true rfl)) dL_law_267 ⟨hcc, hcs⟩) hD hS hA (fun r8 u8 H locs hw8 hP hD hS => ?_)
      obtain ⟨hr8, hc8, hs8⟩ := hw8
      refine lv_asI hr8 ?_
      obtain ⟨V1, rfl⟩ : ∃ V, V = u8 := ⟨_, rfl⟩
      have k1_0 : V1 0 = ob 7 [.ref (ad 1), .ref b, .int (nI d), .ref (ad 75), .ref (ad 140), .ref (ad 141), .ref (ad 142), .int dw, .ref a8, .ref a9, .ref a10, .ref a11] := (hs8 _ (by omega)).trans ((hag 0 (by omega)).trans h0)
      have k1_75 : V1 75 = ra G 5 64 F9 := (hs8 _ (by omega)).trans ((hag 75 (by omega)).trans h75)
      have k1_sc9_p9 : V1 (sc9 p9) = ia G 3 (gr9 p9) := (hs8 _ (by omega)).trans ((hag _ (by omega)).trans hs9)
      have q1_oth := hc8
      refine lv_pop hx hb dL_law_270 rfl ?_
      refine lv_iinc (v := nI (p9 + 1)) (lv' := [(12, .int (nI (p9 + 1))), (11, .ref (ad 153)), (10, .int (nI k)), (9, .ref (ad 152)), (8, .ref (ad 151)), (4, .int (nI v)), (3, .ref (ad 1)), (2, .ref (ad 0)), (1, .int (nI tm)), (0, .ref b)]) hx hb dL_law_271 hl (k := 0) rfl (iinc_nat _ 1) (by decide) rfl (fun ls hl => ?_)
      refine lv_goto (tgt := 202) hx hb dL_law_274 (by decide) ?_
      have e7 : paY (oSh sn p9) (p9 % 8) (p9 / 8) (sn (3 * p9) + 256 * sn (3 * p9 + 1) + 65536 * sn (3 * p9 + 2)) (p9 % 8 - p9 % 8 + 1) (p9 / 8 - p9 / 8 + 1) = oSh sn (p9 + 1) := paY_one _ _ _
      exact ih (p9 + 1) V1 H locs ls (by omega) (by omega) (by rw [← e7]; exact q1_oth) (fun j hj => (hs8 j (by omega)).trans (hag j hj)) hP hD hS (lv_sub hl [0, 1, 2, 3, 4, 5, 6, 7, 8, 9] rfl)
set_option maxRecDepth 20000 in
theorem il_L_law_30 : (Cond.classLink RL 30 RX6) ∈ wsL_law := by decide +kernel
set_option maxRecDepth 20000 in
theorem il_L_law_instX6 : (Cond.instantiable RX6 9) ∈ wsL_law := by decide +kernel
set_option maxRecDepth 20000 in
theorem il_L_law_iniX6 : (Cond.initialized RX6) ∈ wsL_law := by decide +kernel
set_option maxRecDepth 20000 in
theorem iu_L_law_6 : ∀ w ∈ u_ws RX6 TX6 9, w ∈ wsL_law := by decide +kernel
set_option maxRecDepth 20000 in
theorem il_L_law_im_X6_init : (Cond.instanceMethod yX6_init) ∈ wsL_law := by decide +kernel
set_option maxRecDepth 20000 in
theorem il_L_law_38 : (Cond.methodLink RL 38 yX6_init) ∈ wsL_law := by decide +kernel
set_option maxRecDepth 20000 in
theorem il_L_law_39 : (Cond.fieldLink RL 39 "BayerGateLaw$Told" "lamp" "[I") ∈ wsL_law := by decide +kernel
set_option maxRecDepth 20000 in
theorem il_L_law_62 : (Cond.methodLink RL 62 yJ9_abs_294c1) ∈ wsL_law := by decide +kernel
set_option maxRecDepth 20000 in
theorem il_L_law_st_absD : (Cond.static yJ9_abs_294c1) ∈ wsL_law := by decide +kernel
set_option maxRecDepth 20000 in
theorem il_L_law_ini_Math : (Cond.initialized "java/lang/Math") ∈ wsL_law := by decide +kernel
set_option maxRecDepth 20000 in
theorem il_L_law_code_absD : (Cond.code yJ9_abs_294c1 cJ9_abs_294c1 2 (some .double)) ∈ wsL_law := by decide +kernel
set_option maxHeartbeats 4000000 in
set_option maxRecDepth 100000 in
theorem law_r3 {p : Program} {l : Launch} {e : Env} {s : State} {m : MethodId} {below : List Frame} {meth : Method} {c : Code} {Q : State → Prop} {b L : Nat} {xs : Nat → Int32} {cells slots : Nat} (hx : p.tables.exec = Jvm.exec) (hb : c.code = cL_law) (hml : c.maxLocals = 16) (hr : meth.sig.returnType = (some .boolean)) (hts : ∀ w ∈ wsL_law, w.before #[Value.ref b] s = true) (hown : s.vm.findClass RL = some m.cls) {G : iG} (hK : KB G s) (hV : VX s) (hX : XS b L xs 0 (fun _ => 0) s s.heap) (hbA : ¬ aA s b) (hcc : cells + 1000 ≤ room_1.cells) (hcs : slots + 10000 ≤ room_1.slots) {ad : Nat → Nat} {C : Nat → va_E} {H : Heap} {locs : List Loc} {ls : Array Slot} {tm v d l1 l2 l3 : Nat} {sh sn tk gk : Nat → Nat} {fac : Nat → UInt32} {fs : Nat → Int32} (hF : F1 sh sn fac l1 l2 l3) (hF2 : F2 (SL sh fac l2) v tk gk) (hfs : ∀ k, k < 2 → fs k = nI (16 * tk k + gk k)) {k : Nat} {gg : Nat → UInt64} (hk : k < 2) (hW : W1 G 153 151 ad C b d (SL sh fac l2) sn l1 l2 l3) (h151 : C 151 = ia G 2 fs) (h152 : C 152 = da G 2 gg) (hP : va_P G.1 vwB (wl 153 ad C) H) (hD : va_D (aA s) (wl 153 ad C)) (hS : va_S (aA s) s.heap H locs) (hl : lv_has ls 16 [(10, .int (nI k)), (9, .ref (ad 152)), (8, .ref (ad 151)), (4, .int (nI v)), (3, .ref (ad 1)), (2, .ref (ad 0)), (1, .int (nI tm)), (0, .ref b)]) (kx : ∀ (ad : Nat → Nat) (C : Nat → va_E) (H : Heap) (locs : List Loc) (ls : Array Slot) , W1 G 153 151 ad C b d (SL sh fac l2) sn l1 l2 l3 → C 151 = ia G 2 fs → C 152 = da G 2 (vf_upd gg k (absM (offJ (SL sh fac l2) v (tk k) (gk k)))) → va_P G.1 vwB (wl 153 ad C) H → va_D (aA s) (wl 153 ad C) → va_S (aA s) s.heap H locs → lv_has ls 16 [(10, .int (nI k)), (9, .ref (ad 152)), (8, .ref (ad 151)), (4, .int (nI v)), (3, .ref (ad 1)), (2, .ref (ad 0)), (1, .int (nI tm)), (0, .ref b)] → W p l e room_1 s m #[Value.ref b] below meth c H locs (cells + 100) (slots + 2000) Q (F0 m 321 ls [])) : W p l e room_1 s m #[Value.ref b] below meth c H locs cells slots Q (F0 m 166 ls []) := by
  have hA : ∀ q : Nat, s.heap.size ≤ q → aA s q := fun _ h => h
  obtain ⟨hcam, hsc, h0, ⟨fl, g140, hfl⟩, g141, ⟨F143, g143⟩, ⟨F144, g144⟩, ⟨F145, g145⟩, F146, g146⟩ := hW
  obtain ⟨⟨ht0, ht1⟩, hg0, hg1⟩ := hF2.1 k hk
  obtain ⟨hsn, ⟨⟨l11, l12⟩, ⟨l21, l22⟩, l31, l32⟩, hfac⟩ := id hF
  refine iw_new (ci := 6) (fs := [.null, .null, .null, .null, .int (nI 0), .int (nI 0), .null, .null, .null]) (T := TX6) (n := 9) hx hb hts iu_L_law_6 tyX6 tyX6_ok hown (hts _ il_L_law_30) (hts _ il_L_law_instX6) (hts _ il_L_law_iniX6) hK hP hD hS hA rfl (fun j hj => by rcases (show j = 0 ∨ j = 1 ∨ j = 2 ∨ j = 3 ∨ j = 4 ∨ j = 5 ∨ j = 6 ∨ j = 7 ∨ j = 8 by omega) with rfl | rfl | rfl | rfl | rfl | rfl | rfl | rfl | rfl <;> rfl) (by omega) (by omega) dL_law_166 (fun ad1 C1 H e1 c1 n1 hP hD hS => ?_)
  have k1_0 : C1 0 = ob 7 [.ref (ad1 1), .ref b, .int (nI d), .ref (ad1 75), .ref (ad1 140), .ref (ad1 141), .ref (ad1 142), .int (nI 0), .ref (ad1 143), .ref (ad1 144), .ref (ad1 145), .ref (ad1 146)] := (c1 _ (by omega)).trans ((h0).trans (by first | (rw [e1 1 (by omega), e1 75 (by omega), e1 140 (by omega), e1 141 (by omega), e1 142 (by omega), e1 143 (by omega), e1 144 (by omega), e1 145 (by omega), e1 146 (by omega)]; done) | (rw [e1 1 (by omega), e1 75 (by omega), e1 140 (by omega), e1 141 (by omega), e1 142 (by omega), e1 143 (by omega), e1 144 (by omega), e1 145 (by omega), e1 146 (by omega)]; rfl)))
  have k1_140 : C1 140 = ia G 3 fl := (c1 _ (by omega)).trans (g140)
  have k1_141 : C1 141 = ia G 64 (fun _ => nI 0) := (c1 _ (by omega)).trans (g141)
  have k1_143 : C1 143 = ra G 5 0 F143 := (c1 _ (by omega)).trans (g143)
  have k1_144 : C1 144 = ra G 5 0 F144 := (c1 _ (by omega)).trans (g144)
  have k1_145 : C1 145 = ra G 5 0 F145 := (c1 _ (by omega)).trans (g145)
  have k1_146 : C1 146 = ra G 5 0 F146 := (c1 _ (by omega)).trans (g146)
  have k1_151 : C1 151 = ia G 2 fs := (c1 _ (by omega)).trans (h151)
  have k1_152 : C1 152 = da G 2 gg := (c1 _ (by omega)).trans (h152)
  have q1_cam := Cam_gr e1 c1 (by omega) (by omega) hcam
  have q1_ts := isTs_gr e1 c1 (by omega) (by omega) hsc
  have hl : lv_has ls 16 [(10, .int (nI k)), (9, .ref (ad1 152)), (8, .ref (ad1 151)), (4, .int (nI v)), (3, .ref (ad1 1)), (2, .ref (ad1 0)), (1, .int (nI tm)), (0, .ref b)] := by rw [e1 152 (by omega), e1 151 (by omega), e1 1 (by omega), e1 0 (by omega)]; exact hl
  refine lv_dup hx hb dL_law_169 rfl ?_
  refine iwg_v (va_runI (As := []) (rest := [.ref (ad1 153)]) ⟨hx, hb, hml, hown, hts⟩ (kX6_init l G (153) ad1 _ (n1) _) (cwI 0 hts gL_law_X6_init rfl rfl rfl (hts _ il_L_law_iniX6) (hts _ il_L_law_38) (hts _ il_L_law_im_X6_init) rfl (by decide +kernel) ⟨Nat.le_of_ble_eq_true rfl, Nat.le_of_ble_eq_true rfl⟩) (iPSV hK hV hP hD [.ref (ad1 153)])  rfl rfl hl.1 rfl (lv_room (Nat.le_of_ble_eq_true rfl)) dL_law_170 ⟨by omega, by omega⟩) hD hS hA (fun ad2 C2 H locs hw8 hP hD hS => ?_)
  dsimp only at hw8
  obtain ⟨e2, c2, hoth2⟩ := hw8
  have k2_0 : C2 0 = ob 7 [.ref (ad2 1), .ref b, .int (nI d), .ref (ad2 75), .ref (ad2 140), .ref (ad2 141), .ref (ad2 142), .int (nI 0), .ref (ad2 143), .ref (ad2 144), .ref (ad2 145), .ref (ad2 146)] := (c2 _ (by omega)).trans ((k1_0).trans (by first | (rw [e2 1 (by omega), e2 75 (by omega), e2 140 (by omega), e2 141 (by omega), e2 142 (by omega), e2 143 (by omega), e2 144 (by omega), e2 145 (by omega), e2 146 (by omega)]; done) | (rw [e2 1 (by omega), e2 75 (by omega), e2 140 (by omega), e2 141 (by omega), e2 142 (by omega), e2 143 (by omega), e2 144 (by omega), e2 145 (by omega), e2 146 (by omega)]; rfl)))
  have k2_140 : C2 140 = ia G 3 fl := (c2 _ (by omega)).trans (k1_140)
  have k2_141 : C2 141 = ia G 64 (fun _ => nI 0) := (c2 _ (by omega)).trans (k1_141)
  have k2_143 : C2 143 = ra G 5 0 F143 := (c2 _ (by omega)).trans (k1_143)
  have k2_144 : C2 144 = ra G 5 0 F144 := (c2 _ (by omega)).trans (k1_144)
  have k2_145 : C2 145 = ra G 5 0 F145 := (c2 _ (by omega)).trans (k1_145)
  have k2_146 : C2 146 = ra G 5 0 F146 := (c2 _ (by omega)).trans (k1_146)
  have k2_151 : C2 151 = ia G 2 fs := (c2 _ (by omega)).trans (k1_151)
  have k2_152 : C2 152 = da G 2 gg := (c2 _ (by omega)).trans (k1_152)
  have q2_cam := Cam_gr e2 c2 (by omega) (by omega) q1_cam
  have q2_ts := isTs_gr e2 c2 (by omega) (by omega) q1_ts
  have hl : lv_has ls 16 [(10, .int (nI k)), (9, .ref (ad2 152)), (8, .ref (ad2 151)), (4, .int (nI v)), (3, .ref (ad2 1)), (2, .ref (ad2 0)), (1, .int (nI tm)), (0, .ref b)] := by rw [e2 152 (by omega), e2 151 (by omega), e2 1 (by omega), e2 0 (by omega)]; exact hl
  refine W.eq (g2 := F0 m 173 ls [.ref (ad2 153)]) (by first | (rw [e2 153 (by omega)]; done) | (rw [e2 153 (by omega)]; rfl)) ?_
  refine lv_astore (lv' := [(11, .ref (ad2 153)), (10, .int (nI k)), (9, .ref (ad2 152)), (8, .ref (ad2 151)), (4, .int (nI v)), (3, .ref (ad2 1)), (2, .ref (ad2 0)), (1, .int (nI tm)), (0, .ref b)]) hx hb dL_law_173 hl (by decide) rfl (fun ls hl => ?_)
  refine lv_aload hx hb dL_law_175 (lv_at hl 0 rfl) ?_
  refine lv_aload_n hx hb dL_law_177 rfl (lv_at hl 6 rfl) ?_
  refine iw_get hx hb hts iu_L_law_7 hown hK hP (by omega) (k2_0) rfl 4 (by decide) (hts _ il_L_law_39) (fun _ h9 => h9) rfl dL_law_178 ?_
  refine lv_iconst (v := nI 0) hx hb dL_law_181 (by decide) ?_
  refine iw_iald (v := fl 0) hx hb hK hP (by omega) (k2_140) (vp_in_nI (show 0 < 3 by omega) (by omega)) (congrArg fl (nI_clamp (by omega))) dL_law_182 ?_
  refine lv_asI (y := nI l1) (hfl 0 (by decide)) ?_
  refine lv_aload_n hx hb dL_law_183 rfl (lv_at hl 6 rfl) ?_
  refine iw_get hx hb hts iu_L_law_7 hown hK hP (by omega) (k2_0) rfl 4 (by decide) (hts _ il_L_law_39) (fun _ h9 => h9) rfl dL_law_184 ?_
  refine lv_iconst (v := nI 1) hx hb dL_law_187 (by decide) ?_
  refine iw_iald (v := fl 1) hx hb hK hP (by omega) (k2_140) (vp_in_nI (show 1 < 3 by omega) (by omega)) (congrArg fl (nI_clamp (by omega))) dL_law_188 ?_
  refine lv_asI (y := nI l2) (hfl 1 (by decide)) ?_
  refine lv_aload_n hx hb dL_law_189 rfl (lv_at hl 6 rfl) ?_
  refine iw_get hx hb hts iu_L_law_7 hown hK hP (by omega) (k2_0) rfl 4 (by decide) (hts _ il_L_law_39) (fun _ h9 => h9) rfl dL_law_190 ?_
  refine lv_iconst (v := nI 2) hx hb dL_law_193 (by decide) ?_
  refine iw_iald (v := fl 2) hx hb hK hP (by omega) (k2_140) (vp_in_nI (show 2 < 3 by omega) (by omega)) (congrArg fl (nI_clamp (by omega))) dL_law_194 ?_
  refine lv_asI (y := nI l3) (hfl 2 (by decide)) ?_
  refine iw_i (va_runV (As := [.int (nI l1), .int (nI l2), .int (nI l3)]) (rest := []) ⟨hx, hb, hml, hown, hts⟩ (kX6_lamp l G (227) ad2 _ 153 S0 (Cam_N hoth2 (by omega)) l1 l2 l3 ⟨by omega, by omega⟩ ⟨by omega, by omega⟩ ⟨by omega, by omega⟩ _) (cwV 3 hts gL_law_X6_lamp rfl rfl rfl (by decide +kernel) ⟨Nat.le_of_ble_eq_true rfl, Nat.le_of_ble_eq_true rfl⟩) (iPV hK hP hD (by omega) (hoth2.2.2.1) rfl [.int (nI l1), .int (nI l2), .int (nI l3)]) rfl rfl hl.1 rfl (lv_room (Nat.le_of_ble_eq_true rfl)) dL_law_195 ⟨by omega, by omega⟩) hD hS hA (fun r8 u8 H locs hw8 hP hD hS => ?_)
  obtain ⟨hr8, hc8, hs8⟩ := hw8
  refine lv_asI hr8 ?_
  obtain ⟨V1, rfl⟩ : ∃ V, V = u8 := ⟨_, rfl⟩
  have k3_0 : V1 0 = ob 7 [.ref (ad2 1), .ref b, .int (nI d), .ref (ad2 75), .ref (ad2 140), .ref (ad2 141), .ref (ad2 142), .int (nI 0), .ref (ad2 143), .ref (ad2 144), .ref (ad2 145), .ref (ad2 146)] := (hs8 _ (by omega)).trans (k2_0)
  have k3_140 : V1 140 = ia G 3 fl := (hs8 _ (by omega)).trans (k2_140)
  have k3_141 : V1 141 = ia G 64 (fun _ => nI 0) := (hs8 _ (by omega)).trans (k2_141)
  have k3_143 : V1 143 = ra G 5 0 F143 := (hs8 _ (by omega)).trans (k2_143)
  have k3_144 : V1 144 = ra G 5 0 F144 := (hs8 _ (by omega)).trans (k2_144)
  have k3_145 : V1 145 = ra G 5 0 F145 := (hs8 _ (by omega)).trans (k2_145)
  have k3_146 : V1 146 = ra G 5 0 F146 := (hs8 _ (by omega)).trans (k2_146)
  have k3_151 : V1 151 = ia G 2 fs := (hs8 _ (by omega)).trans (k2_151)
  have k3_152 : V1 152 = da G 2 gg := (hs8 _ (by omega)).trans (k2_152)
  have q3_cam := Cam_cam hs8 (by omega) q2_cam
  have q3_ts := isTs_cam hs8 (by omega) q2_ts
  have q3_oth := hc8
  refine lv_pop hx hb dL_law_198 rfl ?_
  refine lv_iconst (v := nI 0) hx hb dL_law_199 (by decide) ?_
  refine lv_istore (lv' := [(12, .int (nI 0)), (11, .ref (ad2 153)), (10, .int (nI k)), (9, .ref (ad2 152)), (8, .ref (ad2 151)), (4, .int (nI v)), (3, .ref (ad2 1)), (2, .ref (ad2 0)), (1, .int (nI tm)), (0, .ref b)]) hx hb dL_law_200 hl (by decide) rfl (fun ls hl => ?_)
  obtain ⟨hB9, F9, sc9, gr9, h75, hsc9⟩ := id q3_ts
  refine law_r3p hx hb hml hr hts hown hK hV hX hbA (by omega) (by omega) (tm := tm) (v := v) (k := k) (l1 := l1) (l2 := l2) (l3 := l3) (sh := sh) (sn := sn) (C0 := V1) (k3_0) h75 hsc9 hF.1 (fun CL H locs ls hcamO hag hP hD hS hl => ?_) 65 0 V1 H locs ls (by omega) (by omega) q3_oth (fun j hj => rfl) hP hD hS (lv_sub hl [0, 1, 2, 3, 4, 5, 6, 7, 8, 9] rfl)
  have L_cam := Cam_gr (N := 227) (ad1 := ad2) (fun j _ => rfl) hag (by omega) (by omega) q3_cam
  have L_ts := isTs_gr (N := 227) (ad1 := ad2) (fun j _ => rfl) hag (by omega) (by omega) q3_ts
  refine lv_aload hx hb dL_law_277 (lv_at hl 0 rfl) ?_
  refine lv_aload hx hb dL_law_279 (lv_at hl 3 rfl) ?_
  refine lv_iload hx hb dL_law_281 (lv_at hl 1 rfl) ?_
  refine iw_iald (v := fs k) hx hb hK hP (by omega) ((hag 151 (by omega)).trans (k3_151)) (vp_in_nI (show k < 2 by omega) (by omega)) (congrArg fs (nI_clamp (by omega))) dL_law_283 ?_
  refine lv_asI (y := nI (16 * tk k + gk k)) (hfs k hk) ?_
  refine lv_bipush (v := nI 16) hx hb dL_law_284 (by decide) ?_
  refine lv_idiv hx hb dL_law_286 (by decide) ?_
  refine lv_asI (y := nI ((16 * tk k + gk k) / 16)) (pk_div (by omega) (by omega) (by omega)) ?_
  refine lv_asI (y := nI (tk k)) (congrArg nI (by omega)) ?_
  refine lv_aload hx hb dL_law_287 (lv_at hl 3 rfl) ?_
  refine lv_iload hx hb dL_law_289 (lv_at hl 1 rfl) ?_
  refine iw_iald (v := fs k) hx hb hK hP (by omega) ((hag 151 (by omega)).trans (k3_151)) (vp_in_nI (show k < 2 by omega) (by omega)) (congrArg fs (nI_clamp (by omega))) dL_law_291 ?_
  refine lv_asI (y := nI (16 * tk k + gk k)) (hfs k hk) ?_
  refine lv_bipush (v := nI 16) hx hb dL_law_292 (by decide) ?_
  refine lv_irem hx hb dL_law_294 (by decide) ?_
  refine lv_asI (y := nI ((16 * tk k + gk k) % 16)) (pk_rem (by omega) (by omega) (by omega)) ?_
  refine lv_asI (y := nI (gk k)) (congrArg nI (by omega)) ?_
  refine iw_i (va_runV (As := [.int (nI (tk k)), .int (nI (gk k))]) (rest := []) ⟨hx, hb, hml, hown, hts⟩ (kX6_take l G (227) ad2 _ 153 (SL (oSh sn 64) (vf_upd (vf_upd (vf_upd (sFac S0) 0 (quF l1)) 1 (quF l2)) 2 (quF l3)) l2) (Cam_N hcamO (by omega)) (tk k) (gk k) ⟨by omega, by omega⟩ ⟨by omega, by omega⟩ (by show 0 < 6; decide) _) (cwV 2 hts gL_law_X6_take rfl rfl rfl (by decide +kernel) ⟨Nat.le_of_ble_eq_true rfl, Nat.le_of_ble_eq_true rfl⟩) (iPV hK hP hD (by omega) (hcamO.2.2.1) rfl [.int (nI (tk k)), .int (nI (gk k))]) rfl rfl hl.1 rfl (lv_room (Nat.le_of_ble_eq_true rfl)) dL_law_295 ⟨by omega, by omega⟩) hD hS hA (fun r8 u8 H locs hw8 hP hD hS => ?_)
  obtain ⟨hr8, hc8, hs8⟩ := hw8
  refine lv_asI hr8 ?_
  obtain ⟨V2, rfl⟩ : ∃ V, V = u8 := ⟨_, rfl⟩
  have k4_0 : V2 0 = ob 7 [.ref (ad2 1), .ref b, .int (nI d), .ref (ad2 75), .ref (ad2 140), .ref (ad2 141), .ref (ad2 142), .int (nI 0), .ref (ad2 143), .ref (ad2 144), .ref (ad2 145), .ref (ad2 146)] := (hs8 _ (by omega)).trans ((hag 0 (by omega)).trans (k3_0))
  have k4_140 : V2 140 = ia G 3 fl := (hs8 _ (by omega)).trans ((hag 140 (by omega)).trans (k3_140))
  have k4_141 : V2 141 = ia G 64 (fun _ => nI 0) := (hs8 _ (by omega)).trans ((hag 141 (by omega)).trans (k3_141))
  have k4_143 : V2 143 = ra G 5 0 F143 := (hs8 _ (by omega)).trans ((hag 143 (by omega)).trans (k3_143))
  have k4_144 : V2 144 = ra G 5 0 F144 := (hs8 _ (by omega)).trans ((hag 144 (by omega)).trans (k3_144))
  have k4_145 : V2 145 = ra G 5 0 F145 := (hs8 _ (by omega)).trans ((hag 145 (by omega)).trans (k3_145))
  have k4_146 : V2 146 = ra G 5 0 F146 := (hs8 _ (by omega)).trans ((hag 146 (by omega)).trans (k3_146))
  have k4_151 : V2 151 = ia G 2 fs := (hs8 _ (by omega)).trans ((hag 151 (by omega)).trans (k3_151))
  have k4_152 : V2 152 = da G 2 gg := (hs8 _ (by omega)).trans ((hag 152 (by omega)).trans (k3_152))
  have q4_cam := Cam_cam hs8 (by omega) L_cam
  have q4_ts := isTs_cam hs8 (by omega) L_ts
  have q4_oth := hc8
  refine lv_asI (y := nI 0) rfl ?_
  refine lv_if_eq (tgt := 303) hx hb dL_law_298 (by decide) (fun _ => ?_) (fun c9 => absurd (by decide) c9)
  refine lv_aload hx hb dL_law_303 (lv_at hl 2 rfl) ?_
  refine lv_iload hx hb dL_law_305 (lv_at hl 1 rfl) ?_
  refine lv_aload hx hb dL_law_307 (lv_at hl 0 rfl) ?_
  refine lv_iconst (v := nI 0) hx hb dL_law_309 (by decide) ?_
  refine iw_d (va_runV (As := [.int (nI 0)]) (rest := [.int (nI k), .ref (ad2 152)]) ⟨hx, hb, hml, hown, hts⟩ (kX6_meter l G (227) ad2 _ 153 (mkS (oSh sn 64) (vf_upd (vf_upd (vf_upd (sFac S0) 0 (quF l1)) 1 (quF l2)) 2 (quF l3)) l2 (fun _ => 0) (fun _ => false) (drN 0 64) 1 0 (va_up FR00 0 ((exN (fun _ => 0) (oSh sn 64) (vf_upd (vf_upd (vf_upd (sFac S0) 0 (quF l1)) 1 (quF l2)) 2 (quF l3)) 0 (tk k) (gk k)), (FR00 0).2.1, nI (tk k), nI (gk k), (FR00 0).2.2.2.2)) FI00) (Cam_N q4_oth (by omega)) 0 (by show 0 < 1; decide) _) (cwV 1 hts gL_law_X6_meter rfl rfl rfl (by decide +kernel) ⟨Nat.le_of_ble_eq_true rfl, Nat.le_of_ble_eq_true rfl⟩) (iPV hK hP hD (by omega) (q4_oth.2.2.1) rfl [.int (nI 0)]) rfl rfl hl.1 rfl (lv_room (Nat.le_of_ble_eq_true rfl)) dL_law_310 ⟨by omega, by omega⟩) hD hS hA (fun r8 u8 H locs hw8 hP hD hS => ?_)
  obtain ⟨hr8, hu8⟩ := hw8
  refine lv_asD hr8 ?_
  rw [hu8] at hP hD
  refine lv_asD (y := meF (exN (fun _ => 0) (oSh sn 64) (vf_upd (vf_upd (vf_upd (sFac S0) 0 (quF l1)) 1 (quF l2)) 2 (quF l3)) 0 (tk k) (gk k))) (by dsimp only [sFr, mkS]; rw [va_us]) ?_
  have hsh : ∀ j, j < 192 → oSh sn 64 j = sh j := oSh_64 hF.1
  have hfa : ∀ q, q < 3 → (vf_upd (vf_upd (vf_upd (sFac S0) 0 (quF l1)) 1 (quF l2)) 2 (quF l3)) q = fac q := fun q hq => (fac3 (sFac S0) (fun _ => 0) (quF l1) (quF l2) (quF l3) q hq).trans (hF.2.2 q hq).symm
  have hme : meF (exN (fun _ => 0) (oSh sn 64) (vf_upd (vf_upd (vf_upd (sFac S0) 0 (quF l1)) 1 (quF l2)) 2 (quF l3)) 0 (tk k) (gk k)) = meF (exN (fun _ => 0) sh fac 0 (tk k) (gk k)) := meF_congr (fun i hi => exN_congr hsh hfa hi)
  refine lv_asD (y := meF (exN (fun _ => 0) sh fac 0 (tk k) (gk k))) hme ?_
  refine lv_iload hx hb dL_law_313 (lv_at hl 4 rfl) ?_
  refine lv_i2d hx hb dL_law_315 ?_
  refine lv_dsub hx hb dL_law_316 (dsub_nf (meF_n _) (i2d_fin64 _)) ?_
  refine lv_asD (y := offJ (SL sh fac l2) v (tk k) (gk k)) (by unfold offJ; rfl) ?_
  refine iw_mabsD hx hb (hml.trans hl.1.symm) hown (hts _ il_L_law_62) (hts _ il_L_law_st_absD) (hts _ il_L_law_ini_Math) (hts _ il_L_law_code_absD) (offJ_n _ _ _ _) (Nat.le_of_ble_eq_true rfl) (Nat.le_of_ble_eq_true rfl) dL_law_317 ?_
  refine iw_dast hx hb hK hP hD hS (by omega) (k4_152) (vp_in_nI (show k < 2 by omega) (by omega)) (nI_clamp (by omega)) dL_law_320 (fun H locs hP hD hS => ?_)
  refine W.widen (k := cells + 100) (n := slots + 2000) (by omega) (by omega) ?_
  have hP := wl_cutP (M := 153) hP (by decide)
  have hD := wl_cutD (M := 153) hD (by decide)
  have z_0 : (va_up V2 152 (da G 2 (vf_upd gg k (absM (offJ (SL sh fac l2) v (tk k) (gk k)))))) 0 = ob 7 [.ref (ad2 1), .ref b, .int (nI d), .ref (ad2 75), .ref (ad2 140), .ref (ad2 141), .ref (ad2 142), .int (nI 0), .ref (ad2 143), .ref (ad2 144), .ref (ad2 145), .ref (ad2 146)] := (va_un _ _ (by omega)).trans (k4_0)
  have z_140 : (va_up V2 152 (da G 2 (vf_upd gg k (absM (offJ (SL sh fac l2) v (tk k) (gk k)))))) 140 = ia G 3 fl := (va_un _ _ (by omega)).trans (k4_140)
  have z_141 : (va_up V2 152 (da G 2 (vf_upd gg k (absM (offJ (SL sh fac l2) v (tk k) (gk k)))))) 141 = ia G 64 (fun _ => nI 0) := (va_un _ _ (by omega)).trans (k4_141)
  have z_143 : (va_up V2 152 (da G 2 (vf_upd gg k (absM (offJ (SL sh fac l2) v (tk k) (gk k)))))) 143 = ra G 5 0 F143 := (va_un _ _ (by omega)).trans (k4_143)
  have z_144 : (va_up V2 152 (da G 2 (vf_upd gg k (absM (offJ (SL sh fac l2) v (tk k) (gk k)))))) 144 = ra G 5 0 F144 := (va_un _ _ (by omega)).trans (k4_144)
  have z_145 : (va_up V2 152 (da G 2 (vf_upd gg k (absM (offJ (SL sh fac l2) v (tk k) (gk k)))))) 145 = ra G 5 0 F145 := (va_un _ _ (by omega)).trans (k4_145)
  have z_146 : (va_up V2 152 (da G 2 (vf_upd gg k (absM (offJ (SL sh fac l2) v (tk k) (gk k)))))) 146 = ra G 5 0 F146 := (va_un _ _ (by omega)).trans (k4_146)
  have z_151 : (va_up V2 152 (da G 2 (vf_upd gg k (absM (offJ (SL sh fac l2) v (tk k) (gk k)))))) 151 = ia G 2 fs := (va_un _ _ (by omega)).trans (k4_151)
  have z_152 : (va_up V2 152 (da G 2 (vf_upd gg k (absM (offJ (SL sh fac l2) v (tk k) (gk k)))))) 152 = da G 2 (vf_upd gg k (absM (offJ (SL sh fac l2) v (tk k) (gk k)))) := va_us _ _ _
  exact kx ad2 (va_up V2 152 (da G 2 (vf_upd gg k (absM (offJ (SL sh fac l2) v (tk k) (gk k)))))) H locs ls ⟨(Cam_N (Cam_up q4_cam (by omega)) (by omega)), (isTs_up q4_ts (by omega)), z_0, ⟨fl, z_140, hfl⟩, z_141, ⟨F143, z_143⟩, ⟨F144, z_144⟩, ⟨F145, z_145⟩, F146, z_146⟩ z_151 z_152 hP hD hS (lv_sub hl [1, 2, 3, 4, 5, 6, 7, 8] rfl)
set_option maxHeartbeats 4000000 in
set_option maxRecDepth 100000 in
theorem law_r3l {p : Program} {l : Launch} {e : Env} {s : State} {m : MethodId} {below : List Frame} {meth : Method} {c : Code} {Q : State → Prop} {b L : Nat} {xs : Nat → Int32} {cells slots : Nat} (hx : p.tables.exec = Jvm.exec) (hb : c.code = cL_law) (hml : c.maxLocals = 16) (hr : meth.sig.returnType = (some .boolean)) (hts : ∀ w ∈ wsL_law, w.before #[Value.ref b] s = true) (hown : s.vm.findClass RL = some m.cls) {G : iG} (hK : KB G s) (hV : VX s) (hX : XS b L xs 0 (fun _ => 0) s s.heap) (hbA : ¬ aA s b) (hcc : cells + 4000 ≤ room_1.cells) (hcs : slots + 40000 ≤ room_1.slots) {ad : Nat → Nat} {C : Nat → va_E} {H : Heap} {locs : List Loc} {ls : Array Slot} {tm v d l1 l2 l3 : Nat} {sh sn tk gk : Nat → Nat} {fac : Nat → UInt32} {fs : Nat → Int32} (hF : F1 sh sn fac l1 l2 l3) (hF2 : F2 (SL sh fac l2) v tk gk) (hfs : ∀ k, k < 2 → fs k = nI (16 * tk k + gk k)) (hW : W1 G 153 151 ad C b d (SL sh fac l2) sn l1 l2 l3) (h151 : C 151 = ia G 2 fs) (h152 : C 152 = da G 2 (fun _ => 0)) (hP : va_P G.1 vwB (wl 153 ad C) H) (hD : va_D (aA s) (wl 153 ad C)) (hS : va_S (aA s) s.heap H locs) (hl : lv_has ls 16 [(9, .ref (ad 152)), (8, .ref (ad 151)), (4, .int (nI v)), (3, .ref (ad 1)), (2, .ref (ad 0)), (1, .int (nI tm)), (0, .ref b)]) (kx : ∀ (ad : Nat → Nat) (C : Nat → va_E) (H : Heap) (locs : List Loc) (ls : Array Slot) , W1 G 153 151 ad C b d (SL sh fac l2) sn l1 l2 l3 → C 151 = ia G 2 fs → C 152 = da G 2 (vf_upd (vf_upd (fun _ => 0) 0 (absM (offJ (SL sh fac l2) v (tk 0) (gk 0)))) 1 (absM (offJ (SL sh fac l2) v (tk 1) (gk 1)))) → va_P G.1 vwB (wl 153 ad C) H → va_D (aA s) (wl 153 ad C) → va_S (aA s) s.heap H locs → lv_has ls 16 [(9, .ref (ad 152)), (8, .ref (ad 151)), (4, .int (nI v)), (3, .ref (ad 1)), (2, .ref (ad 0)), (1, .int (nI tm)), (0, .ref b)] → W p l e room_1 s m #[Value.ref b] below meth c H locs (cells + 200) (slots + 4000) Q (F0 m 327 ls [])) : W p l e room_1 s m #[Value.ref b] below meth c H locs cells slots Q (F0 m 157 ls []) := by
  have hA : ∀ q : Nat, s.heap.size ≤ q → aA s q := fun _ h => h
  refine lv_iconst (v := nI 0) hx hb dL_law_157 (by decide) ?_
  refine lv_istore (lv' := [(10, .int (nI 0)), (9, .ref (ad 152)), (8, .ref (ad 151)), (4, .int (nI v)), (3, .ref (ad 1)), (2, .ref (ad 0)), (1, .int (nI tm)), (0, .ref b)]) hx hb dL_law_158 hl (by decide) rfl (fun ls hl => ?_)
  refine lv_iload hx hb dL_law_160 (lv_at hl 0 rfl) ?_
  refine lv_iconst (v := nI 2) hx hb dL_law_162 (by decide) ?_
  refine lv_icmp_ge (tgt := 327) hx hb dL_law_163 (by decide) (fun c9 => absurd c9 (by decide)) (fun _ => ?_)
  refine law_r3 hx hb hml hr hts hown hK hV hX hbA (by omega) (by omega) hF hF2 hfs (k := 0) (by decide) hW h151 h152 hP hD hS (lv_sub hl [0, 1, 2, 3, 4, 5, 6, 7] rfl) (fun adA0 CA0 H locs ls hW h151 h152 hP hD hS hl => ?_)
  refine lv_iinc (v := nI 1) (lv' := [(10, .int (nI 1)), (9, .ref (adA0 152)), (8, .ref (adA0 151)), (4, .int (nI v)), (3, .ref (adA0 1)), (2, .ref (adA0 0)), (1, .int (nI tm)), (0, .ref b)]) hx hb dL_law_321 hl (k := 0) rfl (iinc_nat _ 1) (by decide) rfl (fun ls hl => ?_)
  refine lv_goto (tgt := 160) hx hb dL_law_324 (by decide) ?_
  refine lv_iload hx hb dL_law_160 (lv_at hl 0 rfl) ?_
  refine lv_iconst (v := nI 2) hx hb dL_law_162 (by decide) ?_
  refine lv_icmp_ge (tgt := 327) hx hb dL_law_163 (by decide) (fun c9 => absurd c9 (by decide)) (fun _ => ?_)
  refine law_r3 hx hb hml hr hts hown hK hV hX hbA (by omega) (by omega) hF hF2 hfs (k := 1) (by decide) hW h151 h152 hP hD hS (lv_sub hl [0, 1, 2, 3, 4, 5, 6, 7] rfl) (fun adA1 CA1 H locs ls hW h151 h152 hP hD hS hl => ?_)
  refine lv_iinc (v := nI 2) (lv' := [(10, .int (nI 2)), (9, .ref (adA1 152)), (8, .ref (adA1 151)), (4, .int (nI v)), (3, .ref (adA1 1)), (2, .ref (adA1 0)), (1, .int (nI tm)), (0, .ref b)]) hx hb dL_law_321 hl (k := 0) rfl (iinc_nat _ 1) (by decide) rfl (fun ls hl => ?_)
  refine lv_goto (tgt := 160) hx hb dL_law_324 (by decide) ?_
  refine lv_iload hx hb dL_law_160 (lv_at hl 0 rfl) ?_
  refine lv_iconst (v := nI 2) hx hb dL_law_162 (by decide) ?_
  refine lv_icmp_ge (tgt := 327) hx hb dL_law_163 (by decide) (fun _ => ?_) (fun c9 => absurd (by decide) c9)
  refine W.widen (k := cells + 200) (n := slots + 4000) (by omega) (by omega) ?_
  exact kx adA1 CA1 H locs ls hW h151 h152 hP hD hS (lv_sub hl [1, 2, 3, 4, 5, 6, 7] rfl)
set_option maxHeartbeats 4000000 in
set_option maxRecDepth 100000 in
theorem law_r4 {p : Program} {l : Launch} {e : Env} {s : State} {m : MethodId} {below : List Frame} {meth : Method} {c : Code} {Q : State → Prop} {b L : Nat} {xs : Nat → Int32} {cells slots : Nat} (hx : p.tables.exec = Jvm.exec) (hb : c.code = cL_law) (hml : c.maxLocals = 16) (hr : meth.sig.returnType = (some .boolean)) (hts : ∀ w ∈ wsL_law, w.before #[Value.ref b] s = true) (hown : s.vm.findClass RL = some m.cls) {G : iG} (hK : KB G s) (hV : VX s) (hX : XS b L xs 0 (fun _ => 0) s s.heap) (hbA : ¬ aA s b) (hcc : cells + 4000 ≤ room_1.cells) (hcs : slots + 40000 ≤ room_1.slots) {ad : Nat → Nat} {C : Nat → va_E} {H : Heap} {locs : List Loc} {ls : Array Slot} {tm v l2 : Nat} {sh tk gk : Nat → Nat} {fac : Nat → UInt32} {fs : Nat → Int32} (hF2 : F2 (SL sh fac l2) v tk gk) (hfs : ∀ k, k < 2 → fs k = nI (16 * tk k + gk k)) (h151 : C 151 = ia G 2 fs) (h152 : C 152 = da G 2 (vf_upd (vf_upd (fun _ => 0) 0 (absM (offJ (SL sh fac l2) v (tk 0) (gk 0)))) 1 (absM (offJ (SL sh fac l2) v (tk 1) (gk 1))))) (hP : va_P G.1 vwB (wl 153 ad C) H) (hD : va_D (aA s) (wl 153 ad C)) (hS : va_S (aA s) s.heap H locs) (hl : lv_has ls 16 [(9, .ref (ad 152)), (8, .ref (ad 151)), (4, .int (nI v)), (3, .ref (ad 1)), (2, .ref (ad 0)), (1, .int (nI tm)), (0, .ref b)]) (kx : ∀ (H : Heap) (locs : List Loc) (ls : Array Slot), va_P G.1 vwB (wl 153 ad C) H → va_D (aA s) (wl 153 ad C) → va_S (aA s) s.heap H locs → lv_has ls 16 [(3, .ref (ad 1)), (2, .ref (ad 0)), (1, .int (nI tm)), (0, .ref b)] → W p l e room_1 s m #[Value.ref b] below meth c H locs cells slots Q (F0 m 398 ls [])) : W p l e room_1 s m #[Value.ref b] below meth c H locs cells slots Q (F0 m 327 ls []) := by
  have hA : ∀ q : Nat, s.heap.size ≤ q → aA s q := fun _ h => h
  obtain ⟨⟨ht00, ht01⟩, hg00, hg01⟩ := hF2.1 0 (by decide)
  obtain ⟨⟨ht10, ht11⟩, hg10, hg11⟩ := hF2.1 1 (by decide)
  refine lv_aload hx hb dL_law_327 (lv_at hl 0 rfl) ?_
  refine lv_iconst (v := nI 1) hx hb dL_law_329 (by decide) ?_
  refine iw_dald (v := absM (offJ (SL sh fac l2) v (tk 1) (gk 1))) hx hb hK hP (by omega) (h152) (vp_in_nI (show 1 < 2 by omega) (by omega)) ((by rfl)) dL_law_330 ?_
  refine lv_aload hx hb dL_law_331 (lv_at hl 0 rfl) ?_
  refine lv_iconst (v := nI 0) hx hb dL_law_333 (by decide) ?_
  refine iw_dald (v := absM (offJ (SL sh fac l2) v (tk 0) (gk 0))) hx hb hK hP (by omega) (h152) (vp_in_nI (show 0 < 2 by omega) (by omega)) ((by rfl)) dL_law_334 ?_
  refine lv_dcmp hx hb dL_law_335 ?_
  refine lv_if_lt (tgt := 396) hx hb dL_law_336 (by decide) (fun c9 => absurd c9 ((Int32.not_lt.mpr ((cv_le (absM_n (offJ_n (SL sh fac l2) v (tk 1) (gk 1))) (absM_n (offJ_n (SL sh fac l2) v (tk 0) (gk 0))) .g).mpr hF2.2.1)))) (fun _ => ?_)
  refine lv_aload hx hb dL_law_339 (lv_at hl 0 rfl) ?_
  refine lv_iconst (v := nI 1) hx hb dL_law_341 (by decide) ?_
  refine iw_dald (v := absM (offJ (SL sh fac l2) v (tk 1) (gk 1))) hx hb hK hP (by omega) (h152) (vp_in_nI (show 1 < 2 by omega) (by omega)) ((by rfl)) dL_law_342 ?_
  refine lv_aload hx hb dL_law_343 (lv_at hl 0 rfl) ?_
  refine lv_iconst (v := nI 0) hx hb dL_law_345 (by decide) ?_
  refine iw_dald (v := absM (offJ (SL sh fac l2) v (tk 0) (gk 0))) hx hb hK hP (by omega) (h152) (vp_in_nI (show 0 < 2 by omega) (by omega)) ((by rfl)) dL_law_346 ?_
  refine lv_dcmp hx hb dL_law_347 ?_
  refine lv_if_ne (tgt := 398) hx hb dL_law_348 (by decide) (fun c348 => ?_) (fun c348 => ?_)
  · exact kx H locs ls hP hD hS (lv_sub hl [3, 4, 5, 6] rfl)
  · have heq := (cv_eq (absM_n (offJ_n (SL sh fac l2) v (tk 1) (gk 1))) (absM_n (offJ_n (SL sh fac l2) v (tk 0) (gk 0))) .l).mp c348
    have hgg := hF2.2.2 heq
    refine lv_aload hx hb dL_law_351 (lv_at hl 1 rfl) ?_
    refine lv_iconst (v := nI 1) hx hb dL_law_353 (by decide) ?_
    refine iw_iald (v := fs 1) hx hb hK hP (by omega) (h151) (vp_in_nI (show 1 < 2 by omega) (by omega)) (congrArg fs (nI_clamp (by omega))) dL_law_354 ?_
    refine lv_asI (y := nI (16 * tk 1 + gk 1)) (hfs 1 (by decide)) ?_
    refine lv_bipush (v := nI 16) hx hb dL_law_355 (by decide) ?_
    refine lv_irem hx hb dL_law_357 (by decide) ?_
    refine lv_asI (y := nI ((16 * tk 1 + gk 1) % 16)) (pk_rem (by omega) (by omega) (by omega)) ?_
    refine lv_asI (y := nI (gk 1)) (congrArg nI (by omega)) ?_
    refine lv_aload hx hb dL_law_358 (lv_at hl 1 rfl) ?_
    refine lv_iconst (v := nI 0) hx hb dL_law_360 (by decide) ?_
    refine iw_iald (v := fs 0) hx hb hK hP (by omega) (h151) (vp_in_nI (show 0 < 2 by omega) (by omega)) (congrArg fs (nI_clamp (by omega))) dL_law_361 ?_
    refine lv_asI (y := nI (16 * tk 0 + gk 0)) (hfs 0 (by decide)) ?_
    refine lv_bipush (v := nI 16) hx hb dL_law_362 (by decide) ?_
    refine lv_irem hx hb dL_law_364 (by decide) ?_
    refine lv_asI (y := nI ((16 * tk 0 + gk 0) % 16)) (pk_rem (by omega) (by omega) (by omega)) ?_
    refine lv_asI (y := nI (gk 0)) (congrArg nI (by omega)) ?_
    refine lv_icmp_lt (tgt := 396) hx hb dL_law_365 (by decide) (fun c9 => absurd c9 ((nI_nlt (by omega) (by omega)))) (fun _ => ?_)
    refine lv_aload hx hb dL_law_368 (lv_at hl 1 rfl) ?_
    refine lv_iconst (v := nI 1) hx hb dL_law_370 (by decide) ?_
    refine iw_iald (v := fs 1) hx hb hK hP (by omega) (h151) (vp_in_nI (show 1 < 2 by omega) (by omega)) (congrArg fs (nI_clamp (by omega))) dL_law_371 ?_
    refine lv_asI (y := nI (16 * tk 1 + gk 1)) (hfs 1 (by decide)) ?_
    refine lv_bipush (v := nI 16) hx hb dL_law_372 (by decide) ?_
    refine lv_irem hx hb dL_law_374 (by decide) ?_
    refine lv_asI (y := nI ((16 * tk 1 + gk 1) % 16)) (pk_rem (by omega) (by omega) (by omega)) ?_
    refine lv_asI (y := nI (gk 1)) (congrArg nI (by omega)) ?_
    refine lv_aload hx hb dL_law_375 (lv_at hl 1 rfl) ?_
    refine lv_iconst (v := nI 0) hx hb dL_law_377 (by decide) ?_
    refine iw_iald (v := fs 0) hx hb hK hP (by omega) (h151) (vp_in_nI (show 0 < 2 by omega) (by omega)) (congrArg fs (nI_clamp (by omega))) dL_law_378 ?_
    refine lv_asI (y := nI (16 * tk 0 + gk 0)) (hfs 0 (by decide)) ?_
    refine lv_bipush (v := nI 16) hx hb dL_law_379 (by decide) ?_
    refine lv_irem hx hb dL_law_381 (by decide) ?_
    refine lv_asI (y := nI ((16 * tk 0 + gk 0) % 16)) (pk_rem (by omega) (by omega) (by omega)) ?_
    refine lv_asI (y := nI (gk 0)) (congrArg nI (by omega)) ?_
    refine lv_icmp_ne (tgt := 398) hx hb dL_law_382 (by decide) (fun c382 => ?_) (fun c382 => ?_)
    · exact kx H locs ls hP hD hS (lv_sub hl [3, 4, 5, 6] rfl)
    · have hge : gk 1 = gk 0 := (nI_eq (by omega) (by omega)).mp c382
      have htt := hgg.2 hge.symm
      refine lv_aload hx hb dL_law_385 (lv_at hl 1 rfl) ?_
      refine lv_iconst (v := nI 1) hx hb dL_law_387 (by decide) ?_
      refine iw_iald (v := fs 1) hx hb hK hP (by omega) (h151) (vp_in_nI (show 1 < 2 by omega) (by omega)) (congrArg fs (nI_clamp (by omega))) dL_law_388 ?_
      refine lv_asI (y := nI (16 * tk 1 + gk 1)) (hfs 1 (by decide)) ?_
      refine lv_aload hx hb dL_law_389 (lv_at hl 1 rfl) ?_
      refine lv_iconst (v := nI 0) hx hb dL_law_391 (by decide) ?_
      refine iw_iald (v := fs 0) hx hb hK hP (by omega) (h151) (vp_in_nI (show 0 < 2 by omega) (by omega)) (congrArg fs (nI_clamp (by omega))) dL_law_392 ?_
      refine lv_asI (y := nI (16 * tk 0 + gk 0)) (hfs 0 (by decide)) ?_
      refine lv_icmp_ge (tgt := 398) hx hb dL_law_393 (by decide) (fun _ => ?_) (fun c9 => absurd ((nI_le (by omega) (by omega))) c9)
      exact kx H locs ls hP hD hS (lv_sub hl [3, 4, 5, 6] rfl)
