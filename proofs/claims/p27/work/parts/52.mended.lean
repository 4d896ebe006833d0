set_option maxRecDepth 20000 in
theorem ggL_isMended_X6_spoil : GoodIn wsL_isMended wsX6_spoil := goodIn_ca (goodIn_ca (goodIn_r _ [21, 22, 23, 24, 20, 25, 26, 27, 28, 29, 30, 31, 32, 33, 34, 35, 36, 37, 38, 39, 40, 41, 42, 43, 44, 45, 46, 47, 48, 252, 253, 254, 255, 256, 257, 258, 259, 260, 261, 262, 263] (by decide +kernel) (by decide +kernel)) (goodIn_sub (fun _ h => List.mem_cons_of_mem _ (List.mem_append_left _ (List.mem_append_left _ (List.mem_append_right _ h)))) (by decide +kernel))) (goodIn_sub (fun _ h => List.mem_cons_of_mem _ (List.mem_append_left _ (List.mem_append_right _ h))) (by decide +kernel))
set_option maxRecDepth 20000 in
theorem gL_isMended_X6_spoil : GoodIn wsL_isMended (wsV RL 106 RX6 yX6_spoil wsX6_spoil) := goodIn_app (goodIn_of _ (by decide +kernel)) ggL_isMended_X6_spoil
set_option maxRecDepth 20000 in
theorem ggL_isMended_X7_draw : GoodIn wsL_isMended wsX7_draw := goodIn_r _ [7, 8, 9, 10, 11, 12, 13, 14, 15, 16, 240, 241, 242, 243, 244, 245, 246, 247, 248, 249, 250, 251] (by decide +kernel) (by decide +kernel)
set_option maxRecDepth 20000 in
theorem gL_isMended_X7_draw : GoodIn wsL_isMended (wsV RL 25 RX7 yX7_draw wsX7_draw) := goodIn_app (goodIn_of _ (by decide +kernel)) ggL_isMended_X7_draw
set_option maxRecDepth 20000 in
theorem ggL_isMended_X6_map : GoodIn wsL_isMended wsX6_map := goodIn_ca (goodIn_r _ [52, 22, 23, 24, 20, 25, 26, 27, 28, 29, 30, 36, 37, 38, 53, 54, 55, 42, 56, 57, 58, 59, 60, 61, 252, 253, 254, 255, 256, 257, 258, 259, 260, 261, 262, 263] (by decide +kernel) (by decide +kernel)) (goodIn_sub (fun _ h => List.mem_cons_of_mem _ (List.mem_append_left _ (List.mem_append_left _ (List.mem_append_right _ h)))) (by decide +kernel))
set_option maxRecDepth 20000 in
theorem gL_isMended_X6_map : GoodIn wsL_isMended (wsV RL 109 RX6 yX6_map wsX6_map) := goodIn_app (goodIn_of _ (by decide +kernel)) ggL_isMended_X6_map
set_option maxRecDepth 20000 in
theorem ggL_isMended_X6_take : GoodIn wsL_isMended wsX6_take := goodIn_ca (goodIn_ca (goodIn_r _ [65, 66, 22, 67, 68, 69, 70, 20, 71, 31, 32, 33, 34, 35, 72, 73, 74, 75, 76, 77, 78, 79, 42, 80, 81, 44, 37, 38, 82, 83, 84, 85, 86, 87, 88, 89, 90, 91, 92, 93, 94, 95, 96, 97, 98, 99, 100, 101, 102, 103, 104, 105, 106, 107, 108, 109, 252, 253, 254, 255, 256, 257, 258, 259, 260, 261, 262, 263, 264, 265, 266, 267, 268, 269, 270, 271] (by decide +kernel) (by decide +kernel)) (goodIn_sub (fun _ h => List.mem_cons_of_mem _ (List.mem_append_left _ (List.mem_append_right _ h))) (by decide +kernel))) (goodIn_sub (fun _ h => List.mem_cons_of_mem _ (List.mem_append_right _ h)) (by decide +kernel))
set_option maxRecDepth 20000 in
theorem gL_isMended_X6_take : GoodIn wsL_isMended (wsV RL 54 RX6 yX6_take wsX6_take) := goodIn_app (goodIn_of _ (by decide +kernel)) ggL_isMended_X6_take
set_option maxRecDepth 20000 in
theorem ggL_isMended_X6_raw : GoodIn wsL_isMended wsX6_raw := goodIn_ca (goodIn_r _ [113, 68, 114, 115, 116, 20, 117, 26, 27, 66, 23, 24, 25, 28, 29, 30, 36, 37, 38, 252, 253, 254, 255, 256, 257, 258, 259, 260, 264, 265, 266, 267, 268] (by decide +kernel) (by decide +kernel)) (goodIn_sub (fun _ h => List.mem_cons_of_mem _ (List.mem_append_left _ (List.mem_append_left _ (List.mem_append_right _ h)))) (by decide +kernel))
set_option maxRecDepth 20000 in
theorem gL_isMended_X6_raw : GoodIn wsL_isMended (wsV RL 113 RX6 yX6_raw wsX6_raw) := goodIn_app (goodIn_of _ (by decide +kernel)) ggL_isMended_X6_raw
set_option maxRecDepth 20000 in
theorem ggL_isMended_X6_edit : GoodIn wsL_isMended wsX6_edit := goodIn_ca (goodIn_ca (goodIn_ca (goodIn_r _ [121, 68, 114, 115, 116, 20, 117, 26, 27, 66, 31, 32, 33, 34, 35, 122, 123, 124, 125, 126, 127, 128, 129, 130, 131, 132, 133, 72, 73, 74, 75, 76, 134, 135, 136, 137, 138, 139, 252, 253, 254, 255, 256, 257, 258, 259, 260, 264, 265, 266, 267, 268, 272, 273, 274] (by decide +kernel) (by decide +kernel)) (goodIn_sub (fun _ h => List.mem_cons_of_mem _ (List.mem_append_left _ (List.mem_append_left _ (List.mem_append_right _ h)))) (by decide +kernel))) (goodIn_sub (fun _ h => List.mem_cons_of_mem _ (List.mem_append_left _ (List.mem_append_right _ h))) (by decide +kernel))) (goodIn_sub (fun _ h => List.mem_cons_of_mem _ (List.mem_append_right _ h)) (by decide +kernel))
set_option maxRecDepth 20000 in
theorem gL_isMended_X6_edit : GoodIn wsL_isMended (wsV RL 83 RX6 yX6_edit wsX6_edit) := goodIn_app (goodIn_of _ (by decide +kernel)) ggL_isMended_X6_edit
set_option maxRecDepth 20000 in
theorem ggL_isMended_X6_ofPlace : GoodIn wsL_isMended wsX6_ofPlace := goodIn_ca (goodIn_ca (goodIn_r _ [143, 67, 22, 23, 24, 20, 25, 26, 27, 28, 29, 30, 31, 32, 33, 34, 35, 36, 37, 38, 144, 92, 93, 87, 94, 95, 145, 82, 83, 39, 40, 41, 42, 43, 44, 146, 147, 148, 149, 57, 252, 253, 254, 255, 256, 257, 258, 259, 260, 269, 270, 271, 261, 262, 263] (by decide +kernel) (by decide +kernel)) (goodIn_sub (fun _ h => List.mem_cons_of_mem _ (List.mem_append_left _ (List.mem_append_left _ (List.mem_append_right _ h)))) (by decide +kernel))) (goodIn_sub (fun _ h => List.mem_cons_of_mem _ (List.mem_append_left _ (List.mem_append_right _ h))) (by decide +kernel))
set_option maxRecDepth 20000 in
theorem gL_isMended_X6_ofPlace : GoodIn wsL_isMended (wsV RL 116 RX6 yX6_ofPlace wsX6_ofPlace) := goodIn_app (goodIn_of _ (by decide +kernel)) ggL_isMended_X6_ofPlace
set_option maxRecDepth 20000 in
theorem ggL_isMended_X6_picture : GoodIn wsL_isMended wsX6_picture := goodIn_ca (goodIn_ca (goodIn_r _ [153, 154, 114, 115, 116, 20, 117, 26, 27, 66, 23, 24, 25, 28, 29, 30, 31, 32, 33, 34, 35, 155, 156, 157, 158, 68, 22, 159, 160, 161, 162, 163, 164, 165, 166, 131, 167, 133, 138, 168, 169, 170, 171, 172, 37, 38, 173, 174, 175, 176, 177, 178, 179, 180, 82, 83, 181, 182, 183, 184, 185, 186, 187, 188, 129, 130, 132, 189, 190, 191, 192, 193, 194, 195, 196, 197, 198, 199, 200, 201, 202, 203, 204, 205, 206, 207, 208, 209, 210, 211, 212, 213, 214, 215, 216, 217, 218, 36, 219, 252, 253, 254, 255, 256, 257, 258, 259, 260, 275, 276, 264, 265, 266, 267, 268, 261, 262, 263, 272, 273, 274] (by decide +kernel) (by decide +kernel)) (goodIn_sub (fun _ h => List.mem_cons_of_mem _ (List.mem_append_left _ (List.mem_append_left _ (List.mem_append_right _ h)))) (by decide +kernel))) (goodIn_sub (fun _ h => List.mem_cons_of_mem _ (List.mem_append_left _ (List.mem_append_right _ h))) (by decide +kernel))
set_option maxRecDepth 20000 in
theorem gL_isMended_X6_picture : GoodIn wsL_isMended (wsV RL 85 RX6 yX6_picture wsX6_picture) := goodIn_app (goodIn_of _ (by decide +kernel)) ggL_isMended_X6_picture
set_option maxRecDepth 20000 in
theorem ggL_isMended_X6_word : GoodIn wsL_isMended wsX6_word := goodIn_ca (goodIn_r _ [223, 68, 114, 115, 116, 20, 117, 26, 27, 66, 224, 225, 226, 227, 154, 22, 159, 160, 161, 162, 163, 164, 165, 166, 131, 167, 133, 138, 168, 169, 170, 171, 172, 37, 38, 173, 174, 175, 29, 30, 176, 177, 178, 179, 180, 82, 83, 181, 182, 183, 184, 185, 186, 187, 188, 129, 130, 132, 189, 190, 191, 192, 193, 194, 195, 196, 197, 198, 199, 200, 201, 202, 203, 204, 205, 206, 207, 208, 209, 210, 211, 212, 213, 214, 215, 216, 217, 218, 228, 229, 230, 231, 252, 253, 254, 255, 256, 257, 258, 259, 260, 264, 265, 266, 267, 268, 261, 262, 263, 272, 273, 274, 275, 276] (by decide +kernel) (by decide +kernel)) (goodIn_sub (fun _ h => List.mem_cons_of_mem _ (List.mem_append_left _ (List.mem_append_left _ (List.mem_append_right _ h)))) (by decide +kernel))
set_option maxRecDepth 20000 in
theorem gL_isMended_X6_word : GoodIn wsL_isMended (wsV RL 97 RX6 yX6_word wsX6_word) := goodIn_app (goodIn_of _ (by decide +kernel)) ggL_isMended_X6_word
set_option maxRecDepth 20000 in
theorem ggL_isMended_X6_undo : GoodIn wsL_isMended wsX6_undo := goodIn_ca (goodIn_r _ [235, 68, 114, 115, 116, 20, 117, 26, 27, 66, 236, 237, 238, 131, 239, 133, 138, 252, 253, 254, 255, 256, 257, 258, 259, 260, 264, 265, 266, 267, 268, 272, 273, 274] (by decide +kernel) (by decide +kernel)) (goodIn_sub (fun _ h => List.mem_cons_of_mem _ (List.mem_append_left _ (List.mem_append_left _ (List.mem_append_right _ h)))) (by decide +kernel))
set_option maxRecDepth 20000 in
theorem gL_isMended_X6_undo : GoodIn wsL_isMended (wsV RL 94 RX6 yX6_undo wsX6_undo) := goodIn_app (goodIn_of _ (by decide +kernel)) ggL_isMended_X6_undo
abbrev rmL_isMended : Room := { frames := 6, cells := 0, slots := 0, locals := 148 }
set_option maxHeartbeats 4000000 in
set_option maxRecDepth 100000 in
theorem lL_isMended {p : Program} {l : Launch} {e : Env} {s : State} {m : MethodId} {args : Array Value} {below : List Frame} {meth : Method} {c : Code} {Q : State → Prop} {A : Nat → Prop} {H0 : Heap} {cells slots : Nat} (hx : p.tables.exec = Jvm.exec) (hb : c.code = cL_isMended) (hml : c.maxLocals = 7) (hr : meth.sig.returnType = (some .boolean)) (hts : ∀ w ∈ wsL_isMended, w.before args s = true) (hown : s.vm.findClass RL = some m.cls) {G : iG} (hK : KB G s) (hA : ∀ q, H0.size ≤ q → A q) {N : Nat} {ad : Nat → Nat} {C : Nat → va_E}  (hcc : cells ≤ rmL_isMended.cells) (hcs : slots ≤ rmL_isMended.slots) {x y : Nat} (hxy : x < 8 ∧ y < 8) {sh : Nat → Nat} {fac : Nat → UInt32} {gq : Nat} {hw : Nat → Nat} {mp : Nat → Bool} {dr fn fl : Nat} {fr : Nat → Fr} {fi : Nat → Fi} (kx : ∀ (C : Nat → va_E) (H : Heap) (locs : List Loc) (ls : Array Slot), Cam G N ad C 1 (mkS sh fac gq (hoN hw (8 * y + x) 64) mp dr fn fl fr fi) → va_P G.1 vwB (wl N ad C) H → va_D A (wl N ad C) → va_S A H0 H locs → lv_has ls 7 [(3, .ref (ad 1)), (1, .int (nI x)), (2, .int (nI y))] → W p l e rmL_isMended s m args below meth c H locs cells slots Q (F0 m 72 ls [])) : ∀ (d : Nat) (p9 : Nat) (C : Nat → va_E) (H : Heap) (locs : List Loc) (ls : Array Slot), 64 - p9 < d → p9 ≤ 64 → Cam G N ad C 1 (mkS sh fac gq (hoN hw (8 * y + x) p9) mp dr fn fl fr fi) → va_P G.1 vwB (wl N ad C) H → va_D A (wl N ad C) → va_S A H0 H locs → lv_has ls 7 [(4, .int (nI p9)), (3, .ref (ad 1)), (1, .int (nI x)), (2, .int (nI y))] → W p l e rmL_isMended s m args below meth c H locs cells slots Q (F0 m 24 ls []) := by
  intro d
  induction d with
  | zero => intro p9 C H locs ls hd; exact absurd hd (Nat.not_lt_zero _)
  | succ d ih =>
    intro p9 C H locs ls hd h2 hcam hP hD hS hl
    have hN := hcam.1
    refine lv_iload hx hb dL_isMended_24 (lv_at hl 0 rfl) ?_
    refine lv_bipush (v := nI 64) hx hb dL_isMended_26 (by decide) ?_
    refine lv_icmp_ge (tgt := 72) hx hb dL_isMended_28 (by decide) (fun c28 => ?_) (fun c28 => ?_)
    · have h5 : p9 = 64 := by have := (nI_leI (by omega) (by omega)).mp c28; omega
      subst h5
      exact kx _ H locs ls hcam hP hD hS (lv_sub hl [1, 2, 3] rfl)
    · have h4 : p9 < 64 := by have := mt (nI_leI (by omega) (by omega)).mpr c28; omega
      refine lv_aload_n hx hb dL_isMended_31 rfl (lv_at hl 1 rfl) ?_
      refine lv_iload hx hb dL_isMended_32 (lv_at hl 0 rfl) ?_
      refine lv_bipush (v := nI 8) hx hb dL_isMended_34 (by decide) ?_
      refine lv_irem hx hb dL_isMended_36 (by decide) ?_
      refine lv_asI (y := nI (p9 % 8)) (pk_rem (by omega) (by omega) (by omega)) ?_
      refine lv_iload hx hb dL_isMended_37 (lv_at hl 0 rfl) ?_
      refine lv_bipush (v := nI 8) hx hb dL_isMended_39 (by decide) ?_
      refine lv_idiv hx hb dL_isMended_41 (by decide) ?_
      refine lv_asI (y := nI (p9 / 8)) (pk_div (by omega) (by omega) (by omega)) ?_
      refine lv_iload hx hb dL_isMended_42 (lv_at hl 0 rfl) ?_
      refine lv_bipush (v := nI 8) hx hb dL_isMended_44 (by decide) ?_
      refine lv_iload_n hx hb dL_isMended_46 rfl (lv_at hl 3 rfl) ?_
      refine lv_imul hx hb dL_isMended_47 ?_
      refine lv_asI (y := nI (8 * y)) (pk_mul _ _) ?_
      refine lv_iload_n hx hb dL_isMended_48 rfl (lv_at hl 2 rfl) ?_
      refine lv_iadd hx hb dL_isMended_49 ?_
      refine lv_asI (y := nI ((8 * y) + x)) (nI_add _ _) ?_
      refine lv_icmp_ne (tgt := 57) hx hb dL_isMended_50 (by decide) (fun c50 => ?_) (fun c50 => ?_)
      · have h6 : ¬ p9 = 8 * y + x := fun e => c50 (congrArg nI e)
        refine lv_iconst (v := nI 0) hx hb dL_isMended_57 (by decide) ?_
        refine iw_i (va_runV (As := [.int (nI (p9 % 8)), .int (nI (p9 / 8)), .int (nI 0)]) (rest := []) ⟨hx, hb, hml, hown, hts⟩ (kX6_spoil l G N ad _ 1 _ hcam (p9 % 8) (p9 / 8) (by omega) (by omega) 0 (by omega) _) (cwV 3 hts gL_isMended_X6_spoil rfl rfl rfl (by decide +kernel) ⟨Nat.le_of_ble_eq_true rfl, Nat.le_of_ble_eq_true rfl⟩) (iPV hK hP hD (by omega) (hcam.2.2.1) rfl [.int (nI (p9 % 8)), .int (nI (p9 / 8)), .int (nI 0)]) rfl rfl hl.1 rfl (lv_room (Nat.le_of_ble_eq_true rfl)) dL_isMended_58 ⟨hcc, hcs⟩) hD hS hA (fun r8 u8 H locs hw8 hP hD hS => ?_)
        obtain ⟨hr8, hc8, hs8⟩ := hw8
        refine lv_asI hr8 ?_
        have hb3 := hcam.2.1.2.2.2.1 (8 * (p9 / 8) + p9 % 8) (by omega)
        refine lv_if_ge (tgt := 66) hx hb dL_isMended_61 (by decide) (fun _ => ?_) (fun c9 => absurd ((nI_pos' (by omega))) c9)
        refine lv_iinc (v := nI (p9 + 1)) (lv' := [(4, .int (nI (p9 + 1))), (3, .ref (ad 1)), (1, .int (nI x)), (2, .int (nI y))]) hx hb dL_isMended_66 hl (k := 0) rfl (iinc_nat _ 1) (by decide) rfl (fun ls hl => ?_)
        refine lv_goto (tgt := 24) hx hb dL_isMended_69 (by decide) ?_
        have e7 : va_up (hoN hw (8 * y + x) p9) (8 * (p9 / 8) + p9 % 8) 0 = hoN hw (8 * y + x) (p9 + 1) := by show _ = va_up _ p9 (if p9 = 8 * y + x then 2 else 0); rw [show 8 * (p9 / 8) + p9 % 8 = p9 by omega, if_neg h6]
        exact ih (p9 + 1) u8 H locs ls (by omega) (by omega) (by rw [← e7]; exact hc8) hP hD hS (lv_sub hl [0, 1, 2, 3] rfl)
      · have h6 : p9 = 8 * y + x := (nI_eq (by omega) (by omega)).mp c50
        refine lv_iconst (v := nI 2) hx hb dL_isMended_53 (by decide) ?_
        refine lv_goto (tgt := 58) hx hb dL_isMended_54 (by decide) ?_
        refine iw_i (va_runV (As := [.int (nI (p9 % 8)), .int (nI (p9 / 8)), .int (nI 2)]) (rest := []) ⟨hx, hb, hml, hown, hts⟩ (kX6_spoil l G N ad _ 1 _ hcam (p9 % 8) (p9 / 8) (by omega) (by omega) 2 (by omega) _) (cwV 3 hts gL_isMended_X6_spoil rfl rfl rfl (by decide +kernel) ⟨Nat.le_of_ble_eq_true rfl, Nat.le_of_ble_eq_true rfl⟩) (iPV hK hP hD (by omega) (hcam.2.2.1) rfl [.int (nI (p9 % 8)), .int (nI (p9 / 8)), .int (nI 2)]) rfl rfl hl.1 rfl (lv_room (Nat.le_of_ble_eq_true rfl)) dL_isMended_58 ⟨hcc, hcs⟩) hD hS hA (fun r8 u8 H locs hw8 hP hD hS => ?_)
        obtain ⟨hr8, hc8, hs8⟩ := hw8
        refine lv_asI hr8 ?_
        have hb3 := hcam.2.1.2.2.2.1 (8 * (p9 / 8) + p9 % 8) (by omega)
        refine lv_if_ge (tgt := 66) hx hb dL_isMended_61 (by decide) (fun _ => ?_) (fun c9 => absurd ((nI_pos' (by omega))) c9)
        refine lv_iinc (v := nI (p9 + 1)) (lv' := [(4, .int (nI (p9 + 1))), (3, .ref (ad 1)), (1, .int (nI x)), (2, .int (nI y))]) hx hb dL_isMended_66 hl (k := 0) rfl (iinc_nat _ 1) (by decide) rfl (fun ls hl => ?_)
        refine lv_goto (tgt := 24) hx hb dL_isMended_69 (by decide) ?_
        have e7 : va_up (hoN hw (8 * y + x) p9) (8 * (p9 / 8) + p9 % 8) 2 = hoN hw (8 * y + x) (p9 + 1) := by show _ = va_up _ p9 (if p9 = 8 * y + x then 2 else 0); rw [show 8 * (p9 / 8) + p9 % 8 = p9 by omega, if_pos h6]
        exact ih (p9 + 1) u8 H locs ls (by omega) (by omega) (by rw [← e7]; exact hc8) hP hD hS (lv_sub hl [0, 1, 2, 3] rfl)
set_option maxRecDepth 20000 in
theorem iu_L_isMended_7 : ∀ w ∈ u_ws RX7 TX7 12, w ∈ wsL_isMended := by decide +kernel
set_option maxRecDepth 20000 in
theorem il_L_isMended_14 : (Cond.fieldLink RL 14 "BayerGateLaw$Told" "m" "LBayerGate;") ∈ wsL_isMended := by decide +kernel
set_option maxRecDepth 20000 in
theorem il_L_isMended_119 : (Cond.constantDouble RL 119 (4643176031446892544)) ∈ wsL_isMended := by decide +kernel
set_option maxHeartbeats 4000000 in
set_option maxRecDepth 100000 in
theorem kL_isMended (l : Launch) (G : iG) (N : Nat) (ad : Nat → Nat) (C : Nat → va_E) (b L : Nat) (xs : Nat → Int32) (sh : Nat → Nat) (fac : Nat → UInt32) (gq : Nat) (hw : Nat → Nat) (mp : Nat → Bool) (dr fl : Nat) (fr : Nat → Fr) (fi : Nat → Fi) (r1 e1 e2 : Nat → Nat) (z1 : Int32 × Int32 × Int32) (hcam : Cam G N ad C 1 (mkS sh fac gq hw mp dr 1 fl (va_up fr 1 (r1, (e1, e2, 0), z1)) fi)) (hmp : ∀ i, i < 64 → mp i = false) (d : Nat) (hd : d < 800) {dw : Int32} {a8 a9 a10 a11 : Nat} (h0 : C 0 = ob 7 [.ref (ad 1), .ref b, .int (nI d), .ref (ad 75), .ref (ad 140), .ref (ad 141), .ref (ad 142), .int dw, .ref a8, .ref a9, .ref a10, .ref a11]) (sz : Nat) : Met l yL_isMended wsL_isMended rmL_isMended (iPreX G (N) ad C b L xs sz [.ref (ad 0)]) (va_Qi (fun (r : Int32) (u : iU) => (r = nI 1) ∧ True) (iB2 G (N) (iA (N) ad sz)) (iA (N) ad sz)) 0 0 (iA (N) ad sz) := by
  refine Met.ofW (cc := cL_isMended) (maxL := 7) (ret := (some .boolean)) (by decide) rfl ?_
  intro p e s m args below meth c s₁ B hml hv
  obtain ⟨rfl, ⟨hsz, hP, hK, hD0⟩, hV, hX⟩ := hv
  have hx := B.exec
  have hb := B.bytes
  have hr := B.returns
  have hts := atoms_spec (ws := wsL_isMended) B.pre
  have hown : s.vm.findClass RL = some m.cls := findClass_of_methodNamed B.named
  have hlocks := B.notSynchronized
  subst hsz
  have hD := wl_self hD0 s.heap.size
  have hA : ∀ q : Nat, s.heap.size ≤ q → iA (N) ad s.heap.size q := fun q h => Or.inr h
  have hS : va_S (iA (N) ad s.heap.size) s.heap s.heap [] := va_S.rf
  have hP : va_P G.1 vwB (wl (N) ad C) s.heap := hP
  have hl := lv_entry ([.ref (ad 0)]) (n := 7) (Nat.le_of_ble_eq_true rfl)
  rw [lg_entry_eq]
  generalize (lg_sl ([.ref (ad 0)]) ++ List.replicate (7 - (lg_sl ([.ref (ad 0)])).length) Slot.unset).toArray = ls at hl ⊢
  have hl : lv_has ls 7 [(0, .ref (ad 0))] := hl
  have hbA := XS_out hX
  have hN := hcam.1
  refine lv_iconst (v := nI 2) hx hb dL_isMended_0 (by decide) ?_
  refine lv_aload_n hx hb dL_isMended_1 rfl (lv_at hl 0 rfl) ?_
  refine lv_iconst (v := nI 4) hx hb dL_isMended_2 (by decide) ?_
  refine iw_i (va_runV (As := [.int (nI 4)]) (rest := [.int (nI 2)]) ⟨hx, hb, hml, hown, hts⟩ (kX7_draw l G (N) ad _ b L xs (t := 0) (by omega) (4) (by omega) (d) (by omega) (h0) _) (cwV 1 hts gL_isMended_X7_draw rfl rfl rfl (by decide +kernel) ⟨Nat.le_of_ble_eq_true rfl, Nat.le_of_ble_eq_true rfl⟩) (iPVX hK hV hX hbA hS hP hD (by omega) (h0) rfl [.int (nI 4)]) rfl rfl hl.1 rfl (lv_room (Nat.le_of_ble_eq_true rfl)) dL_isMended_3 ⟨Nat.le_of_ble_eq_true rfl, Nat.le_of_ble_eq_true rfl⟩) hD hS hA (fun r8 u8 H locs hw8 hP hD hS => ?_)
  obtain ⟨⟨q1, hq1, hr8⟩, hu8⟩ := hw8
  refine lv_asI hr8 ?_
  rw [hu8] at hP hD
  refine lv_iadd hx hb dL_isMended_6 ?_
  refine lv_asI (y := nI (2 + q1)) (nI_add _ _) ?_
  obtain ⟨x, hxe⟩ : ∃ x : Nat, x = 2 + q1 := ⟨_, rfl⟩
  refine lv_asI (y := nI x) (congrArg nI hxe.symm) ?_
  refine lv_istore_n (lv' := [(1, .int (nI x)), (0, .ref (ad 0))]) hx hb dL_isMended_7 rfl hl (by decide) rfl (fun ls hl => ?_)
  refine lv_iconst (v := nI 2) hx hb dL_isMended_8 (by decide) ?_
  refine lv_aload_n hx hb dL_isMended_9 rfl (lv_at hl 1 rfl) ?_
  refine lv_iconst (v := nI 4) hx hb dL_isMended_10 (by decide) ?_
  refine iw_i (va_runV (As := [.int (nI 4)]) (rest := [.int (nI 2)]) ⟨hx, hb, hml, hown, hts⟩ (kX7_draw l G (N) ad _ b L xs (t := 0) (by omega) (4) (by omega) (d + 1) (by omega) (va_us _ _ _) _) (cwV 1 hts gL_isMended_X7_draw rfl rfl rfl (by decide +kernel) ⟨Nat.le_of_ble_eq_true rfl, Nat.le_of_ble_eq_true rfl⟩) (iPVX hK hV hX hbA hS hP hD (by omega) (va_us _ _ _) rfl [.int (nI 4)]) rfl rfl hl.1 rfl (lv_room (Nat.le_of_ble_eq_true rfl)) dL_isMended_11 ⟨Nat.le_of_ble_eq_true rfl, Nat.le_of_ble_eq_true rfl⟩) hD hS hA (fun r8 u8 H locs hw8 hP hD hS => ?_)
  obtain ⟨⟨q2, hq2, hr8⟩, hu8⟩ := hw8
  refine lv_asI hr8 ?_
  rw [hu8] at hP hD
  rw [va_uu _ _ _ _] at hP hD
  refine lv_iadd hx hb dL_isMended_14 ?_
  refine lv_asI (y := nI (2 + q2)) (nI_add _ _) ?_
  obtain ⟨y, hye⟩ : ∃ y : Nat, y = 2 + q2 := ⟨_, rfl⟩
  refine lv_asI (y := nI y) (congrArg nI hye.symm) ?_
  refine lv_istore_n (lv' := [(2, .int (nI y)), (1, .int (nI x)), (0, .ref (ad 0))]) hx hb dL_isMended_15 rfl hl (by decide) rfl (fun ls hl => ?_)
  refine lv_aload_n hx hb dL_isMended_16 rfl (lv_at hl 2 rfl) ?_
  refine iw_get hx hb hts iu_L_isMended_7 hown hK hP (by omega) (va_us _ _ _) rfl 0 (by decide) (hts _ il_L_isMended_14) (fun _ h9 => h9) rfl dL_isMended_17 ?_
  refine lv_astore_n (lv' := [(3, .ref (ad 1)), (2, .int (nI y)), (1, .int (nI x)), (0, .ref (ad 0))]) hx hb dL_isMended_20 rfl hl (by decide) rfl (fun ls hl => ?_)
  refine lv_iconst (v := nI 0) hx hb dL_isMended_21 (by decide) ?_
  refine lv_istore (lv' := [(4, .int (nI 0)), (3, .ref (ad 1)), (2, .int (nI y)), (1, .int (nI x)), (0, .ref (ad 0))]) hx hb dL_isMended_22 hl (by decide) rfl (fun ls hl => ?_)
  have hcam9 : Cam G N ad (va_up C 0 (ob 7 [.ref (ad 1), .ref b, .int (nI (d + 2)), .ref (ad 75), .ref (ad 140), .ref (ad 141), .ref (ad 142), .int dw, .ref a8, .ref a9, .ref a10, .ref a11])) 1 (mkS sh fac gq (hoN hw (8 * y + x) 0) mp dr 1 fl (va_up fr 1 (r1, (e1, e2, 0), z1)) fi) := (Cam_up hcam (by omega))
  refine lL_isMended (N := N) (C := C) hx hb hml hr hts hown hK hA (Nat.le_refl _) (Nat.le_refl _) (x := x) (y := y) (by omega) (fun CL H locs ls hcam9 hP hD hS hl => ?_) 65 0 _ _ _ ls (by omega) (by omega) hcam9 hP hD hS (lv_sub hl [0, 1, 3, 2] rfl)
  have hxy : 2 ≤ x ∧ x < 6 ∧ 2 ≤ y ∧ y < 6 := by omega
  have m1 : ∀ i, i < 64 → (va_up mp (8 * y + x) true) i = decide (i = (8 * y + x)) := fun i hi => by rcases Nat.decEq i (8 * y + x) with h | h; rw [va_un _ _ h, hmp i hi, decide_eq_false h]; rw [h, va_us, decide_eq_true rfl]
  have m3 : (va_up (va_up (va_up mp (8 * y + x) true) (8 * y + x) false) (8 * y + x) true) = (va_up mp (8 * y + x) true) := by rw [va_uu, va_uu]
  have m2 : ∀ i, i < 64 → (va_up (va_up mp (8 * y + x) true) (8 * y + x) false) i = false := fun i hi => by rw [va_uu]; rcases Nat.decEq i (8 * y + x) with h | h; rw [va_un _ _ h, hmp i hi]; rw [h, va_us]
  have x0 : (exN (hoN hw (8 * y + x) 64) sh fac dr 20 2) (8 * y + x) = 255 := exN_hot (hoN_at hw _ 64 (by omega))
  have x9 : ∀ i, (exN (hoN hw (8 * y + x) 64) sh fac dr 20 2) i ≤ 255 := fun i => (exN_ok _ _ _ _ _ _ i).1
  have x1 := x9 (8 * y + (x - 2))
  have x2 := x9 (8 * y + (x + 2))
  have x3 := x9 (8 * (y - 2) + x)
  have x4 := x9 (8 * (y + 2) + x)
  refine lv_aload_n hx hb dL_isMended_72 rfl (lv_at hl 0 rfl) ?_
  refine lv_iload_n hx hb dL_isMended_73 rfl (lv_at hl 1 rfl) ?_
  refine lv_iload_n hx hb dL_isMended_74 rfl (lv_at hl 2 rfl) ?_
  refine lv_iconst (v := nI 1) hx hb dL_isMended_75 (by decide) ?_
  refine lv_asI (y := if true then nI 1 else nI 0) rfl ?_
  refine iw_i (va_runV (As := [.int (nI x), .int (nI y), .int (if true then nI 1 else nI 0)]) (rest := []) ⟨hx, hb, hml, hown, hts⟩ (kX6_map l G (N) ad _ 1 (mkS sh fac gq (hoN hw (8 * y + x) 64) mp dr 1 fl (va_up fr 1 (r1, (e1, e2, 0), z1)) fi) (Cam_N hcam9 (by omega)) x y (by omega) (by omega) true _) (cwV 3 hts gL_isMended_X6_map rfl rfl rfl (by decide +kernel) ⟨Nat.le_of_ble_eq_true rfl, Nat.le_of_ble_eq_true rfl⟩) (iPV hK hP hD (by omega) (hcam9.2.2.1) rfl [.int (nI x), .int (nI y), .int (if true then nI 1 else nI 0)]) rfl rfl hl.1 rfl (lv_room (Nat.le_of_ble_eq_true rfl)) dL_isMended_76 ⟨Nat.le_of_ble_eq_true rfl, Nat.le_of_ble_eq_true rfl⟩) hD hS hA (fun r8 u8 H locs hw8 hP hD hS => ?_)
  obtain ⟨hr8, hc8, hs8⟩ := hw8
  refine lv_asI hr8 ?_
  obtain ⟨V1, rfl⟩ : ∃ V, V = u8 := ⟨_, rfl⟩
  have q1_cam := hc8
  refine lv_asI (y := nI 1) (congrArg nI ((ctN_one _ (8 * y + x) 64 m1).trans (if_pos (by omega)))) ?_
  refine lv_iconst (v := nI 1) hx hb dL_isMended_79 (by decide) ?_
  refine lv_icmp_eq (tgt := 85) hx hb dL_isMended_80 (by decide) (fun _ => ?_) (fun c9 => absurd (by decide) c9)
  refine lv_aload_n hx hb dL_isMended_85 rfl (lv_at hl 0 rfl) ?_
  refine lv_bipush (v := nI 20) hx hb dL_isMended_86 (by decide) ?_
  refine lv_iconst (v := nI 2) hx hb dL_isMended_88 (by decide) ?_
  refine iw_i (va_runV (As := [.int (nI 20), .int (nI 2)]) (rest := []) ⟨hx, hb, hml, hown, hts⟩ (kX6_take l G (N) ad _ 1 (mkS sh fac gq (hoN hw (8 * y + x) 64) (va_up mp (8 * y + x) true) dr 1 fl (va_up fr 1 (r1, (e1, e2, 0), z1)) fi) (Cam_N q1_cam (by omega)) 20 2 (by decide) (by decide) (by show 1 < 6; decide) _) (cwV 2 hts gL_isMended_X6_take rfl rfl rfl (by decide +kernel) ⟨Nat.le_of_ble_eq_true rfl, Nat.le_of_ble_eq_true rfl⟩) (iPV hK hP hD (by omega) (q1_cam.2.2.1) rfl [.int (nI 20), .int (nI 2)]) rfl rfl hl.1 rfl (lv_room (Nat.le_of_ble_eq_true rfl)) dL_isMended_89 ⟨Nat.le_of_ble_eq_true rfl, Nat.le_of_ble_eq_true rfl⟩) hD hS hA (fun r8 u8 H locs hw8 hP hD hS => ?_)
  obtain ⟨hr8, hc8, hs8⟩ := hw8
  refine lv_asI hr8 ?_
  obtain ⟨V2, rfl⟩ : ∃ V, V = u8 := ⟨_, rfl⟩
  have q2_cam := hc8
  refine lv_asI (y := nI 1) rfl ?_
  refine lv_iconst (v := nI 1) hx hb dL_isMended_92 (by decide) ?_
  refine lv_icmp_ne (tgt := 120) hx hb dL_isMended_93 (by decide) (fun c9 => absurd (by decide) c9) (fun _ => ?_)
  refine lv_aload_n hx hb dL_isMended_96 rfl (lv_at hl 0 rfl) ?_
  refine lv_iconst (v := nI 1) hx hb dL_isMended_97 (by decide) ?_
  refine lv_iload_n hx hb dL_isMended_98 rfl (lv_at hl 1 rfl) ?_
  refine lv_iload_n hx hb dL_isMended_99 rfl (lv_at hl 2 rfl) ?_
  refine iw_i (va_runV (As := [.int (nI 1), .int (nI x), .int (nI y)]) (rest := []) ⟨hx, hb, hml, hown, hts⟩ (kX6_raw l G (N) ad _ 1 (mkS sh fac gq (hoN hw (8 * y + x) 64) (va_up mp (8 * y + x) true) (drN dr 64) 2 fl (va_up (va_up fr 1 (r1, (e1, e2, 0), z1)) 1 ((exN (hoN hw (8 * y + x) 64) sh fac dr 20 2), (e1, e2, 0), nI 20, nI 2, z1.2.2)) fi) (Cam_N q2_cam (by omega)) 1 (by show 1 < 2; decide) (x) (y) (by omega) (by omega) _) (cwV 3 hts gL_isMended_X6_raw rfl rfl rfl (by decide +kernel) ⟨Nat.le_of_ble_eq_true rfl, Nat.le_of_ble_eq_true rfl⟩) (iPV hK hP hD (by omega) (q2_cam.2.2.1) rfl [.int (nI 1), .int (nI x), .int (nI y)]) rfl rfl hl.1 rfl (lv_room (Nat.le_of_ble_eq_true rfl)) dL_isMended_100 ⟨Nat.le_of_ble_eq_true rfl, Nat.le_of_ble_eq_true rfl⟩) hD hS hA (fun r8 u8 H locs hw8 hP hD hS => ?_)
  obtain ⟨hr8, hu8⟩ := hw8
  refine lv_asI hr8 ?_
  rw [hu8] at hP hD
  refine lv_asI (y := nI 255) (congrArg nI x0) ?_
  refine lv_sipush (v := nI 255) hx hb dL_isMended_103 (by decide) ?_
  refine lv_icmp_ne (tgt := 120) hx hb dL_isMended_106 (by decide) (fun c9 => absurd (by decide) c9) (fun _ => ?_)
  refine lv_aload_n hx hb dL_isMended_109 rfl (lv_at hl 0 rfl) ?_
  refine lv_iconst (v := nI 1) hx hb dL_isMended_110 (by decide) ?_
  refine lv_iconst (v := nI 5) hx hb dL_isMended_111 (by decide) ?_
  refine lv_iconst (v := nI 0) hx hb dL_isMended_112 (by decide) ?_
  refine iw_i (va_runV (As := [.int (nI 1), .int (nI 5), .int (nI 0)]) (rest := []) ⟨hx, hb, hml, hown, hts⟩ (kX6_edit l G (N) ad _ 1 (mkS sh fac gq (hoN hw (8 * y + x) 64) (va_up mp (8 * y + x) true) (drN dr 64) 2 fl (va_up (va_up fr 1 (r1, (e1, e2, 0), z1)) 1 ((exN (hoN hw (8 * y + x) 64) sh fac dr 20 2), (e1, e2, 0), nI 20, nI 2, z1.2.2)) fi) (Cam_N q2_cam (by omega)) 1 (by show 1 < 2; decide) 5 0 ⟨by decide, by decide, fun h => by omega, fun h => by omega⟩ (fun _ => rfl) (by show 0 < 6; decide) _) (cwV 3 hts gL_isMended_X6_edit rfl rfl rfl (by decide +kernel) ⟨Nat.le_of_ble_eq_true rfl, Nat.le_of_ble_eq_true rfl⟩) (iPV hK hP hD (by omega) (q2_cam.2.2.1) rfl [.int (nI 1), .int (nI 5), .int (nI 0)]) rfl rfl hl.1 rfl (lv_room (Nat.le_of_ble_eq_true rfl)) dL_isMended_113 ⟨Nat.le_of_ble_eq_true rfl, Nat.le_of_ble_eq_true rfl⟩) hD hS hA (fun r8 u8 H locs hw8 hP hD hS => ?_)
  obtain ⟨hr8, hc8, hs8⟩ := hw8
  refine lv_asI hr8 ?_
  obtain ⟨V3, rfl⟩ : ∃ V, V = u8 := ⟨_, rfl⟩
  have q3_cam := hc8
  refine lv_asI (y := nI 1) rfl ?_
  refine lv_iconst (v := nI 1) hx hb dL_isMended_116 (by decide) ?_
  refine lv_icmp_eq (tgt := 122) hx hb dL_isMended_117 (by decide) (fun _ => ?_) (fun c9 => absurd (by decide) c9)
  refine lv_aload_n hx hb dL_isMended_122 rfl (lv_at hl 0 rfl) ?_
  refine lv_iconst (v := nI 1) hx hb dL_isMended_123 (by decide) ?_
  refine lv_iload_n hx hb dL_isMended_124 rfl (lv_at hl 1 rfl) ?_
  refine lv_iconst (v := nI 2) hx hb dL_isMended_125 (by decide) ?_
  refine lv_isub hx hb dL_isMended_126 ?_
  refine lv_asI (y := nI (x - 2)) (pk_sub (by omega)) ?_
  refine lv_iload_n hx hb dL_isMended_127 rfl (lv_at hl 2 rfl) ?_
  refine iw_i (va_runV (As := [.int (nI 1), .int (nI (x - 2)), .int (nI y)]) (rest := []) ⟨hx, hb, hml, hown, hts⟩ (kX6_raw l G (N) ad _ 1 (mkS sh fac gq (hoN hw (8 * y + x) 64) (va_up mp (8 * y + x) true) (drN dr 64) 2 fl (va_up (va_up (va_up fr 1 (r1, (e1, e2, 0), z1)) 1 ((exN (hoN hw (8 * y + x) 64) sh fac dr 20 2), (e1, e2, 0), nI 20, nI 2, z1.2.2)) 1 ((exN (hoN hw (8 * y + x) 64) sh fac dr 20 2), (va_up e1 0 5, va_up e2 0 0, 1), nI 20, nI 2, z1.2.2)) fi) (Cam_N q3_cam (by omega)) 1 (by show 1 < 2; decide) (x - 2) (y) (by omega) (by omega) _) (cwV 3 hts gL_isMended_X6_raw rfl rfl rfl (by decide +kernel) ⟨Nat.le_of_ble_eq_true rfl, Nat.le_of_ble_eq_true rfl⟩) (iPV hK hP hD (by omega) (q3_cam.2.2.1) rfl [.int (nI 1), .int (nI (x - 2)), .int (nI y)]) rfl rfl hl.1 rfl (lv_room (Nat.le_of_ble_eq_true rfl)) dL_isMended_128 ⟨Nat.le_of_ble_eq_true rfl, Nat.le_of_ble_eq_true rfl⟩) hD hS hA (fun r8 u8 H locs hw8 hP hD hS => ?_)
  obtain ⟨hr8, hu8⟩ := hw8
  refine lv_asI hr8 ?_
  rw [hu8] at hP hD
  refine lv_asI (y := nI ((exN (hoN hw (8 * y + x) 64) sh fac dr 20 2) (8 * y + (x - 2)))) rfl ?_
  refine lv_aload_n hx hb dL_isMended_131 rfl (lv_at hl 0 rfl) ?_
  refine lv_iconst (v := nI 1) hx hb dL_isMended_132 (by decide) ?_
  refine lv_iload_n hx hb dL_isMended_133 rfl (lv_at hl 1 rfl) ?_
  refine lv_iconst (v := nI 2) hx hb dL_isMended_134 (by decide) ?_
  refine lv_iadd hx hb dL_isMended_135 ?_
  refine lv_asI (y := nI (x + 2)) (nI_add _ _) ?_
  refine lv_iload_n hx hb dL_isMended_136 rfl (lv_at hl 2 rfl) ?_
  refine iw_i (va_runV (As := [.int (nI 1), .int (nI (x + 2)), .int (nI y)]) (rest := [.int (nI ((exN (hoN hw (8 * y + x) 64) sh fac dr 20 2) (8 * y + (x - 2))))]) ⟨hx, hb, hml, hown, hts⟩ (kX6_raw l G (N) ad _ 1 (mkS sh fac gq (hoN hw (8 * y + x) 64) (va_up mp (8 * y + x) true) (drN dr 64) 2 fl (va_up (va_up (va_up fr 1 (r1, (e1, e2, 0), z1)) 1 ((exN (hoN hw (8 * y + x) 64) sh fac dr 20 2), (e1, e2, 0), nI 20, nI 2, z1.2.2)) 1 ((exN (hoN hw (8 * y + x) 64) sh fac dr 20 2), (va_up e1 0 5, va_up e2 0 0, 1), nI 20, nI 2, z1.2.2)) fi) (Cam_N q3_cam (by omega)) 1 (by show 1 < 2; decide) (x + 2) (y) (by omega) (by omega) _) (cwV 3 hts gL_isMended_X6_raw rfl rfl rfl (by decide +kernel) ⟨Nat.le_of_ble_eq_true rfl, Nat.le_of_ble_eq_true rfl⟩) (iPV hK hP hD (by omega) (q3_cam.2.2.1) rfl [.int (nI 1), .int (nI (x + 2)), .int (nI y)]) rfl rfl hl.1 rfl (lv_room (Nat.le_of_ble_eq_true rfl)) dL_isMended_137 ⟨Nat.le_of_ble_eq_true rfl, Nat.le_of_ble_eq_true rfl⟩) hD hS hA (fun r8 u8 H locs hw8 hP hD hS => ?_)
  obtain ⟨hr8, hu8⟩ := hw8
  refine lv_asI hr8 ?_
  rw [hu8] at hP hD
  refine lv_asI (y := nI ((exN (hoN hw (8 * y + x) 64) sh fac dr 20 2) (8 * y + (x + 2)))) rfl ?_
  refine lv_iadd hx hb dL_isMended_140 ?_
  refine lv_asI (y := nI (((exN (hoN hw (8 * y + x) 64) sh fac dr 20 2) (8 * y + (x - 2))) + ((exN (hoN hw (8 * y + x) 64) sh fac dr 20 2) (8 * y + (x + 2))))) (nI_add _ _) ?_
  refine lv_aload_n hx hb dL_isMended_141 rfl (lv_at hl 0 rfl) ?_
  refine lv_iconst (v := nI 1) hx hb dL_isMended_142 (by decide) ?_
  refine lv_iload_n hx hb dL_isMended_143 rfl (lv_at hl 1 rfl) ?_
  refine lv_iload_n hx hb dL_isMended_144 rfl (lv_at hl 2 rfl) ?_
  refine lv_iconst (v := nI 2) hx hb dL_isMended_145 (by decide) ?_
  refine lv_isub hx hb dL_isMended_146 ?_
  refine lv_asI (y := nI (y - 2)) (pk_sub (by omega)) ?_
  refine iw_i (va_runV (As := [.int (nI 1), .int (nI x), .int (nI (y - 2))]) (rest := [.int (nI (((exN (hoN hw (8 * y + x) 64) sh fac dr 20 2) (8 * y + (x - 2))) + ((exN (hoN hw (8 * y + x) 64) sh fac dr 20 2) (8 * y + (x + 2)))))]) ⟨hx, hb, hml, hown, hts⟩ (kX6_raw l G (N) ad _ 1 (mkS sh fac gq (hoN hw (8 * y + x) 64) (va_up mp (8 * y + x) true) (drN dr 64) 2 fl (va_up (va_up (va_up fr 1 (r1, (e1, e2, 0), z1)) 1 ((exN (hoN hw (8 * y + x) 64) sh fac dr 20 2), (e1, e2, 0), nI 20, nI 2, z1.2.2)) 1 ((exN (hoN hw (8 * y + x) 64) sh fac dr 20 2), (va_up e1 0 5, va_up e2 0 0, 1), nI 20, nI 2, z1.2.2)) fi) (Cam_N q3_cam (by omega)) 1 (by show 1 < 2; decide) (x) (y - 2) (by omega) (by omega) _) (cwV 3 hts gL_isMended_X6_raw rfl rfl rfl (by decide +kernel) ⟨Nat.le_of_ble_eq_true rfl, Nat.le_of_ble_eq_true rfl⟩) (iPV hK hP hD (by omega) (q3_cam.2.2.1) rfl [.int (nI 1), .int (nI x), .int (nI (y - 2))]) rfl rfl hl.1 rfl (lv_room (Nat.le_of_ble_eq_true rfl)) dL_isMended_147 ⟨Nat.le_of_ble_eq_true rfl, Nat.le_of_ble_eq_true rfl⟩) hD hS hA (fun r8 u8 H locs hw8 hP hD hS => ?_)
  obtain ⟨hr8, hu8⟩ := hw8
  refine lv_asI hr8 ?_
  rw [hu8] at hP hD
  refine lv_asI (y := nI ((exN (hoN hw (8 * y + x) 64) sh fac dr 20 2) (8 * (y - 2) + x))) rfl ?_
  refine lv_iadd hx hb dL_isMended_150 ?_
  refine lv_asI (y := nI ((((exN (hoN hw (8 * y + x) 64) sh fac dr 20 2) (8 * y + (x - 2))) + ((exN (hoN hw (8 * y + x) 64) sh fac dr 20 2) (8 * y + (x + 2)))) + ((exN (hoN hw (8 * y + x) 64) sh fac dr 20 2) (8 * (y - 2) + x)))) (nI_add _ _) ?_
  refine lv_aload_n hx hb dL_isMended_151 rfl (lv_at hl 0 rfl) ?_
  refine lv_iconst (v := nI 1) hx hb dL_isMended_152 (by decide) ?_
  refine lv_iload_n hx hb dL_isMended_153 rfl (lv_at hl 1 rfl) ?_
  refine lv_iload_n hx hb dL_isMended_154 rfl (lv_at hl 2 rfl) ?_
  refine lv_iconst (v := nI 2) hx hb dL_isMended_155 (by decide) ?_
  refine lv_iadd hx hb dL_isMended_156 ?_
  refine lv_asI (y := nI (y + 2)) (nI_add _ _) ?_
  refine iw_i (va_runV (As := [.int (nI 1), .int (nI x), .int (nI (y + 2))]) (rest := [.int (nI ((((exN (hoN hw (8 * y + x) 64) sh fac dr 20 2) (8 * y + (x - 2))) + ((exN (hoN hw (8 * y + x) 64) sh fac dr 20 2) (8 * y + (x + 2)))) + ((exN (hoN hw (8 * y + x) 64) sh fac dr 20 2) (8 * (y - 2) + x))))]) ⟨hx, hb, hml, hown, hts⟩ (kX6_raw l G (N) ad _ 1 (mkS sh fac gq (hoN hw (8 * y + x) 64) (va_up mp (8 * y + x) true) (drN dr 64) 2 fl (va_up (va_up (va_up fr 1 (r1, (e1, e2, 0), z1)) 1 ((exN (hoN hw (8 * y + x) 64) sh fac dr 20 2), (e1, e2, 0), nI 20, nI 2, z1.2.2)) 1 ((exN (hoN hw (8 * y + x) 64) sh fac dr 20 2), (va_up e1 0 5, va_up e2 0 0, 1), nI 20, nI 2, z1.2.2)) fi) (Cam_N q3_cam (by omega)) 1 (by show 1 < 2; decide) (x) (y + 2) (by omega) (by omega) _) (cwV 3 hts gL_isMended_X6_raw rfl rfl rfl (by decide +kernel) ⟨Nat.le_of_ble_eq_true rfl, Nat.le_of_ble_eq_true rfl⟩) (iPV hK hP hD (by omega) (q3_cam.2.2.1) rfl [.int (nI 1), .int (nI x), .int (nI (y + 2))]) rfl rfl hl.1 rfl (lv_room (Nat.le_of_ble_eq_true rfl)) dL_isMended_157 ⟨Nat.le_of_ble_eq_true rfl, Nat.le_of_ble_eq_true rfl⟩) hD hS hA (fun r8 u8 H locs hw8 hP hD hS => ?_)
  obtain ⟨hr8, hu8⟩ := hw8
  refine lv_asI hr8 ?_
  rw [hu8] at hP hD
  refine lv_asI (y := nI ((exN (hoN hw (8 * y + x) 64) sh fac dr 20 2) (8 * (y + 2) + x))) rfl ?_
  refine lv_iadd hx hb dL_isMended_160 ?_
  refine lv_asI (y := nI (((((exN (hoN hw (8 * y + x) 64) sh fac dr 20 2) (8 * y + (x - 2))) + ((exN (hoN hw (8 * y + x) 64) sh fac dr 20 2) (8 * y + (x + 2)))) + ((exN (hoN hw (8 * y + x) 64) sh fac dr 20 2) (8 * (y - 2) + x))) + ((exN (hoN hw (8 * y + x) 64) sh fac dr 20 2) (8 * (y + 2) + x)))) (nI_add _ _) ?_
  refine lv_istore (lv' := [(4, .int (nI (((((exN (hoN hw (8 * y + x) 64) sh fac dr 20 2) (8 * y + (x - 2))) + ((exN (hoN hw (8 * y + x) 64) sh fac dr 20 2) (8 * y + (x + 2)))) + ((exN (hoN hw (8 * y + x) 64) sh fac dr 20 2) (8 * (y - 2) + x))) + ((exN (hoN hw (8 * y + x) 64) sh fac dr 20 2) (8 * (y + 2) + x))))), (3, .ref (ad 1)), (1, .int (nI x)), (2, .int (nI y))]) hx hb dL_isMended_161 hl (by decide) rfl (fun ls hl => ?_)
  refine lv_aload_n hx hb dL_isMended_163 rfl (lv_at hl 1 rfl) ?_
  refine lv_iload_n hx hb dL_isMended_164 rfl (lv_at hl 2 rfl) ?_
  refine lv_iload_n hx hb dL_isMended_165 rfl (lv_at hl 3 rfl) ?_
  refine lv_iconst (v := nI 3) hx hb dL_isMended_166 (by decide) ?_
  refine iw_i (va_runV (As := [.int (nI x), .int (nI y), .int (nI 3)]) (rest := []) ⟨hx, hb, hml, hown, hts⟩ (kX6_ofPlace l G (N) ad _ 1 (mkS sh fac gq (hoN hw (8 * y + x) 64) (va_up mp (8 * y + x) true) (drN dr 64) 2 fl (va_up (va_up (va_up fr 1 (r1, (e1, e2, 0), z1)) 1 ((exN (hoN hw (8 * y + x) 64) sh fac dr 20 2), (e1, e2, 0), nI 20, nI 2, z1.2.2)) 1 ((exN (hoN hw (8 * y + x) 64) sh fac dr 20 2), (va_up e1 0 5, va_up e2 0 0, 1), nI 20, nI 2, z1.2.2)) fi) (Cam_N q3_cam (by omega)) x y (by omega) (by omega) 3 (by decide) _) (cwV 3 hts gL_isMended_X6_ofPlace rfl rfl rfl (by decide +kernel) ⟨Nat.le_of_ble_eq_true rfl, Nat.le_of_ble_eq_true rfl⟩) (iPV hK hP hD (by omega) (q3_cam.2.2.1) rfl [.int (nI x), .int (nI y), .int (nI 3)]) rfl rfl hl.1 rfl (lv_room (Nat.le_of_ble_eq_true rfl)) dL_isMended_167 ⟨Nat.le_of_ble_eq_true rfl, Nat.le_of_ble_eq_true rfl⟩) hD hS hA (fun r8 u8 H locs hw8 hP hD hS => ?_)
  obtain ⟨hr8, hu8⟩ := hw8
  refine lv_asI hr8 ?_
  rw [hu8] at hP hD
  refine lv_asI (y := nI (colN x y)) (by show ofP _ x y 3 = _; unfold ofP; rw [if_neg (by decide), if_pos rfl]) ?_
  refine lv_istore (lv' := [(5, .int (nI (colN x y))), (4, .int (nI (((((exN (hoN hw (8 * y + x) 64) sh fac dr 20 2) (8 * y + (x - 2))) + ((exN (hoN hw (8 * y + x) 64) sh fac dr 20 2) (8 * y + (x + 2)))) + ((exN (hoN hw (8 * y + x) 64) sh fac dr 20 2) (8 * (y - 2) + x))) + ((exN (hoN hw (8 * y + x) 64) sh fac dr 20 2) (8 * (y + 2) + x))))), (3, .ref (ad 1)), (1, .int (nI x)), (2, .int (nI y))]) hx hb dL_isMended_170 hl (by decide) rfl (fun ls hl => ?_)
  refine lv_aload_n hx hb dL_isMended_172 rfl (lv_at hl 2 rfl) ?_
  refine lv_iconst (v := nI 1) hx hb dL_isMended_173 (by decide) ?_
  refine lv_iload_n hx hb dL_isMended_174 rfl (lv_at hl 3 rfl) ?_
  refine lv_iload_n hx hb dL_isMended_175 rfl (lv_at hl 4 rfl) ?_
  refine lv_iload hx hb dL_isMended_176 (lv_at hl 0 rfl) ?_
  refine iw_d (va_runV (As := [.int (nI 1), .int (nI x), .int (nI y), .int (nI (colN x y))]) (rest := []) ⟨hx, hb, hml, hown, hts⟩ (kX6_picture l G (N) ad _ 1 (mkS sh fac gq (hoN hw (8 * y + x) 64) (va_up mp (8 * y + x) true) (drN dr 64) 2 fl (va_up (va_up (va_up fr 1 (r1, (e1, e2, 0), z1)) 1 ((exN (hoN hw (8 * y + x) 64) sh fac dr 20 2), (e1, e2, 0), nI 20, nI 2, z1.2.2)) 1 ((exN (hoN hw (8 * y + x) 64) sh fac dr 20 2), (va_up e1 0 5, va_up e2 0 0, 1), nI 20, nI 2, z1.2.2)) fi) (Cam_N q3_cam (by omega)) 1 (by show 1 < 2; decide) x y (by omega) (by omega) (colN x y) (colN_lt x y) _) (cwV 4 hts gL_isMended_X6_picture rfl rfl rfl (by decide +kernel) ⟨Nat.le_of_ble_eq_true rfl, Nat.le_of_ble_eq_true rfl⟩) (iPV hK hP hD (by omega) (q3_cam.2.2.1) rfl [.int (nI 1), .int (nI x), .int (nI y), .int (nI (colN x y))]) rfl rfl hl.1 rfl (lv_room (Nat.le_of_ble_eq_true rfl)) dL_isMended_178 ⟨Nat.le_of_ble_eq_true rfl, Nat.le_of_ble_eq_true rfl⟩) hD hS hA (fun r8 u8 H locs hw8 hP hD hS => ?_)
  obtain ⟨hr8, hc8, hs8⟩ := hw8
  refine lv_asD hr8 ?_
  obtain ⟨V4, rfl⟩ : ∃ V, V = u8 := ⟨_, rfl⟩
  have q4_cam := hc8
  refine lv_asD (y := FP.i2d (nI (((exN (hoN hw (8 * y + x) 64) sh fac dr 20 2) (8 * y + (x - 2)) + (exN (hoN hw (8 * y + x) 64) sh fac dr 20 2) (8 * y + (x + 2)) + (exN (hoN hw (8 * y + x) 64) sh fac dr 20 2) (8 * (y - 2) + x) + (exN (hoN hw (8 * y + x) 64) sh fac dr 20 2) (8 * (y + 2) + x)) / 4))) (pi_own (exN (hoN hw (8 * y + x) 64) sh fac dr 20 2) (va_up mp (8 * y + x) true) (E := (va_up e1 0 5, va_up e2 0 0, 1)) (Or.inr ⟨rfl, rfl⟩) (by omega) (by omega) (md_four (exN (hoN hw (8 * y + x) 64) sh fac dr 20 2) (va_up mp (8 * y + x) true) (by omega) (by omega) m1) (by omega)) ?_
  refine lv_iload hx hb dL_isMended_181 (lv_at hl 1 rfl) ?_
  refine lv_iconst (v := nI 4) hx hb dL_isMended_183 (by decide) ?_
  refine lv_idiv hx hb dL_isMended_184 (by decide) ?_
  refine lv_asI (y := nI ((((((exN (hoN hw (8 * y + x) 64) sh fac dr 20 2) (8 * y + (x - 2))) + ((exN (hoN hw (8 * y + x) 64) sh fac dr 20 2) (8 * y + (x + 2)))) + ((exN (hoN hw (8 * y + x) 64) sh fac dr 20 2) (8 * (y - 2) + x))) + ((exN (hoN hw (8 * y + x) 64) sh fac dr 20 2) (8 * (y + 2) + x))) / 4)) (pk_div (by omega) (by omega) (by omega)) ?_
  refine lv_i2d hx hb dL_isMended_185 ?_
  refine lv_dcmp hx hb dL_isMended_186 ?_
  refine lv_if_ne (tgt := 203) hx hb dL_isMended_187 (by decide) (fun c9 => absurd ((dcv_eq _ _)) c9) (fun _ => ?_)
  refine lv_aload_n hx hb dL_isMended_190 rfl (lv_at hl 2 rfl) ?_
  refine lv_iconst (v := nI 1) hx hb dL_isMended_191 (by decide) ?_
  refine lv_iload_n hx hb dL_isMended_192 rfl (lv_at hl 3 rfl) ?_
  refine lv_iload_n hx hb dL_isMended_193 rfl (lv_at hl 4 rfl) ?_
  refine iw_i (va_runV (As := [.int (nI 1), .int (nI x), .int (nI y)]) (rest := []) ⟨hx, hb, hml, hown, hts⟩ (kX6_raw l G (N) ad _ 1 (mkS sh fac gq (hoN hw (8 * y + x) 64) (va_up mp (8 * y + x) true) (drN dr 64) 2 fl (va_up (va_up (va_up fr 1 (r1, (e1, e2, 0), z1)) 1 ((exN (hoN hw (8 * y + x) 64) sh fac dr 20 2), (e1, e2, 0), nI 20, nI 2, z1.2.2)) 1 ((exN (hoN hw (8 * y + x) 64) sh fac dr 20 2), (va_up e1 0 5, va_up e2 0 0, 1), nI 20, nI 2, z1.2.2)) fi) (Cam_N q4_cam (by omega)) 1 (by show 1 < 2; decide) (x) (y) (by omega) (by omega) _) (cwV 3 hts gL_isMended_X6_raw rfl rfl rfl (by decide +kernel) ⟨Nat.le_of_ble_eq_true rfl, Nat.le_of_ble_eq_true rfl⟩) (iPV hK hP hD (by omega) (q4_cam.2.2.1) rfl [.int (nI 1), .int (nI x), .int (nI y)]) rfl rfl hl.1 rfl (lv_room (Nat.le_of_ble_eq_true rfl)) dL_isMended_194 ⟨Nat.le_of_ble_eq_true rfl, Nat.le_of_ble_eq_true rfl⟩) hD hS hA (fun r8 u8 H locs hw8 hP hD hS => ?_)
  obtain ⟨hr8, hu8⟩ := hw8
  refine lv_asI hr8 ?_
  rw [hu8] at hP hD
  refine lv_asI (y := nI 255) (congrArg nI x0) ?_
  refine lv_sipush (v := nI 255) hx hb dL_isMended_197 (by decide) ?_
  refine lv_icmp_eq (tgt := 205) hx hb dL_isMended_200 (by decide) (fun _ => ?_) (fun c9 => absurd (by decide) c9)
  refine lv_aload_n hx hb dL_isMended_205 rfl (lv_at hl 2 rfl) ?_
  refine lv_iconst (v := nI 1) hx hb dL_isMended_206 (by decide) ?_
  refine iw_i (va_runV (As := [.int (nI 1)]) (rest := []) ⟨hx, hb, hml, hown, hts⟩ (kX6_word l G (N) ad _ 1 (mkS sh fac gq (hoN hw (8 * y + x) 64) (va_up mp (8 * y + x) true) (drN dr 64) 2 fl (va_up (va_up (va_up fr 1 (r1, (e1, e2, 0), z1)) 1 ((exN (hoN hw (8 * y + x) 64) sh fac dr 20 2), (e1, e2, 0), nI 20, nI 2, z1.2.2)) 1 ((exN (hoN hw (8 * y + x) 64) sh fac dr 20 2), (va_up e1 0 5, va_up e2 0 0, 1), nI 20, nI 2, z1.2.2)) fi) (Cam_N q4_cam (by omega)) 1 (by show 1 < 2; decide) _) (cwV 1 hts gL_isMended_X6_word rfl rfl rfl (by decide +kernel) ⟨Nat.le_of_ble_eq_true rfl, Nat.le_of_ble_eq_true rfl⟩) (iPV hK hP hD (by omega) (q4_cam.2.2.1) rfl [.int (nI 1)]) rfl rfl hl.1 rfl (lv_room (Nat.le_of_ble_eq_true rfl)) dL_isMended_207 ⟨Nat.le_of_ble_eq_true rfl, Nat.le_of_ble_eq_true rfl⟩) hD hS hA (fun r8 u8 H locs hw8 hP hD hS => ?_)
  obtain ⟨hr8, hc8, hs8⟩ := hw8
  refine lv_asI hr8 ?_
  obtain ⟨V5, rfl⟩ : ∃ V, V = u8 := ⟨_, rfl⟩
  have q5_cam := hc8
  refine lv_asI (y := wdI (exN (hoN hw (8 * y + x) 64) sh fac dr 20 2) (va_up mp (8 * y + x) true) (va_up e1 0 5, va_up e2 0 0, 1)) rfl ?_
  refine lv_istore (lv' := [(6, .int (wdI (exN (hoN hw (8 * y + x) 64) sh fac dr 20 2) (va_up mp (8 * y + x) true) (va_up e1 0 5, va_up e2 0 0, 1))), (5, .int (nI (colN x y))), (4, .int (nI (((((exN (hoN hw (8 * y + x) 64) sh fac dr 20 2) (8 * y + (x - 2))) + ((exN (hoN hw (8 * y + x) 64) sh fac dr 20 2) (8 * y + (x + 2)))) + ((exN (hoN hw (8 * y + x) 64) sh fac dr 20 2) (8 * (y - 2) + x))) + ((exN (hoN hw (8 * y + x) 64) sh fac dr 20 2) (8 * (y + 2) + x))))), (3, .ref (ad 1)), (1, .int (nI x)), (2, .int (nI y))]) hx hb dL_isMended_210 hl (by decide) rfl (fun ls hl => ?_)
  refine lv_aload_n hx hb dL_isMended_212 rfl (lv_at hl 3 rfl) ?_
  refine lv_iload_n hx hb dL_isMended_213 rfl (lv_at hl 4 rfl) ?_
  refine lv_iload_n hx hb dL_isMended_214 rfl (lv_at hl 5 rfl) ?_
  refine lv_iconst (v := nI 0) hx hb dL_isMended_215 (by decide) ?_
  refine lv_asI (y := if false then nI 1 else nI 0) rfl ?_
  refine iw_i (va_runV (As := [.int (nI x), .int (nI y), .int (if false then nI 1 else nI 0)]) (rest := []) ⟨hx, hb, hml, hown, hts⟩ (kX6_map l G (N) ad _ 1 (mkS sh fac gq (hoN hw (8 * y + x) 64) (va_up mp (8 * y + x) true) (drN dr 64) 2 fl (va_up (va_up (va_up fr 1 (r1, (e1, e2, 0), z1)) 1 ((exN (hoN hw (8 * y + x) 64) sh fac dr 20 2), (e1, e2, 0), nI 20, nI 2, z1.2.2)) 1 ((exN (hoN hw (8 * y + x) 64) sh fac dr 20 2), (va_up e1 0 5, va_up e2 0 0, 1), nI 20, nI 2, z1.2.2)) fi) (Cam_N q5_cam (by omega)) x y (by omega) (by omega) false _) (cwV 3 hts gL_isMended_X6_map rfl rfl rfl (by decide +kernel) ⟨Nat.le_of_ble_eq_true rfl, Nat.le_of_ble_eq_true rfl⟩) (iPV hK hP hD (by omega) (q5_cam.2.2.1) rfl [.int (nI x), .int (nI y), .int (if false then nI 1 else nI 0)]) rfl rfl hl.1 rfl (lv_room (Nat.le_of_ble_eq_true rfl)) dL_isMended_216 ⟨Nat.le_of_ble_eq_true rfl, Nat.le_of_ble_eq_true rfl⟩) hD hS hA (fun r8 u8 H locs hw8 hP hD hS => ?_)
  obtain ⟨hr8, hc8, hs8⟩ := hw8
  refine lv_asI hr8 ?_
  obtain ⟨V6, rfl⟩ : ∃ V, V = u8 := ⟨_, rfl⟩
  have q6_cam := hc8
  refine lv_asI (y := nI 0) (congrArg nI (ctN_none _ 64 m2)) ?_
  refine lv_if_ne (tgt := 288) hx hb dL_isMended_219 (by decide) (fun c9 => absurd (by decide) c9) (fun _ => ?_)
  refine lv_aload_n hx hb dL_isMended_222 rfl (lv_at hl 3 rfl) ?_
  refine lv_iconst (v := nI 1) hx hb dL_isMended_223 (by decide) ?_
  refine lv_iload_n hx hb dL_isMended_224 rfl (lv_at hl 4 rfl) ?_
  refine lv_iload_n hx hb dL_isMended_225 rfl (lv_at hl 5 rfl) ?_
  refine lv_iload hx hb dL_isMended_226 (lv_at hl 1 rfl) ?_
  refine iw_d (va_runV (As := [.int (nI 1), .int (nI x), .int (nI y), .int (nI (colN x y))]) (rest := []) ⟨hx, hb, hml, hown, hts⟩ (kX6_picture l G (N) ad _ 1 (mkS sh fac gq (hoN hw (8 * y + x) 64) (va_up (va_up mp (8 * y + x) true) (8 * y + x) false) (drN dr 64) 2 fl (va_up (va_up (va_up fr 1 (r1, (e1, e2, 0), z1)) 1 ((exN (hoN hw (8 * y + x) 64) sh fac dr 20 2), (e1, e2, 0), nI 20, nI 2, z1.2.2)) 1 ((exN (hoN hw (8 * y + x) 64) sh fac dr 20 2), (va_up e1 0 5, va_up e2 0 0, 1), nI 20, nI 2, z1.2.2)) fi) (Cam_N q6_cam (by omega)) 1 (by show 1 < 2; decide) x y (by omega) (by omega) (colN x y) (colN_lt x y) _) (cwV 4 hts gL_isMended_X6_picture rfl rfl rfl (by decide +kernel) ⟨Nat.le_of_ble_eq_true rfl, Nat.le_of_ble_eq_true rfl⟩) (iPV hK hP hD (by omega) (q6_cam.2.2.1) rfl [.int (nI 1), .int (nI x), .int (nI y), .int (nI (colN x y))]) rfl rfl hl.1 rfl (lv_room (Nat.le_of_ble_eq_true rfl)) dL_isMended_228 ⟨Nat.le_of_ble_eq_true rfl, Nat.le_of_ble_eq_true rfl⟩) hD hS hA (fun r8 u8 H locs hw8 hP hD hS => ?_)
  obtain ⟨hr8, hc8, hs8⟩ := hw8
  refine lv_asD hr8 ?_
  obtain ⟨V7, rfl⟩ : ∃ V, V = u8 := ⟨_, rfl⟩
  have q7_cam := hc8
  refine lv_asD (y := 4643176031446892544) ((pi_own (exN (hoN hw (8 * y + x) 64) sh fac dr 20 2) (va_up (va_up mp (8 * y + x) true) (8 * y + x) false) (E := (va_up e1 0 5, va_up e2 0 0, 1)) (Or.inr ⟨rfl, rfl⟩) (by omega) (by omega) ((mm_not _ _ _ _ (Or.inr (m2 _ (by omega)))).trans x0) (by decide)).trans d255) ?_
  refine lv_ldc2d hx hb hown (hts _ il_L_isMended_119) dL_isMended_231 ?_
  refine lv_dcmp hx hb dL_isMended_234 ?_
  refine lv_if_ne (tgt := 288) hx hb dL_isMended_235 (by decide) (fun c9 => absurd ((by decide +kernel)) c9) (fun _ => ?_)
  refine lv_aload_n hx hb dL_isMended_238 rfl (lv_at hl 3 rfl) ?_
  refine lv_iload_n hx hb dL_isMended_239 rfl (lv_at hl 4 rfl) ?_
  refine lv_iload_n hx hb dL_isMended_240 rfl (lv_at hl 5 rfl) ?_
  refine lv_iconst (v := nI 1) hx hb dL_isMended_241 (by decide) ?_
  refine lv_asI (y := if true then nI 1 else nI 0) rfl ?_
  refine iw_i (va_runV (As := [.int (nI x), .int (nI y), .int (if true then nI 1 else nI 0)]) (rest := []) ⟨hx, hb, hml, hown, hts⟩ (kX6_map l G (N) ad _ 1 (mkS sh fac gq (hoN hw (8 * y + x) 64) (va_up (va_up mp (8 * y + x) true) (8 * y + x) false) (drN dr 64) 2 fl (va_up (va_up (va_up fr 1 (r1, (e1, e2, 0), z1)) 1 ((exN (hoN hw (8 * y + x) 64) sh fac dr 20 2), (e1, e2, 0), nI 20, nI 2, z1.2.2)) 1 ((exN (hoN hw (8 * y + x) 64) sh fac dr 20 2), (va_up e1 0 5, va_up e2 0 0, 1), nI 20, nI 2, z1.2.2)) fi) (Cam_N q7_cam (by omega)) x y (by omega) (by omega) true _) (cwV 3 hts gL_isMended_X6_map rfl rfl rfl (by decide +kernel) ⟨Nat.le_of_ble_eq_true rfl, Nat.le_of_ble_eq_true rfl⟩) (iPV hK hP hD (by omega) (q7_cam.2.2.1) rfl [.int (nI x), .int (nI y), .int (if true then nI 1 else nI 0)]) rfl rfl hl.1 rfl (lv_room (Nat.le_of_ble_eq_true rfl)) dL_isMended_242 ⟨Nat.le_of_ble_eq_true rfl, Nat.le_of_ble_eq_true rfl⟩) hD hS hA (fun r8 u8 H locs hw8 hP hD hS => ?_)
  obtain ⟨hr8, hc8, hs8⟩ := hw8
  refine lv_asI hr8 ?_
  obtain ⟨V8, rfl⟩ : ∃ V, V = u8 := ⟨_, rfl⟩
  have q8_cam := hc8
  refine lv_asI (y := nI 1) (congrArg nI ((ctN_one _ (8 * y + x) 64 (by rw [m3]; exact m1)).trans (if_pos (by omega)))) ?_
  refine lv_iconst (v := nI 1) hx hb dL_isMended_245 (by decide) ?_
  refine lv_icmp_ne (tgt := 288) hx hb dL_isMended_246 (by decide) (fun c9 => absurd (by decide) c9) (fun _ => ?_)
  refine lv_aload_n hx hb dL_isMended_249 rfl (lv_at hl 3 rfl) ?_
  refine lv_iconst (v := nI 1) hx hb dL_isMended_250 (by decide) ?_
  refine iw_i (va_runV (As := [.int (nI 1)]) (rest := []) ⟨hx, hb, hml, hown, hts⟩ (kX6_word l G (N) ad _ 1 (mkS sh fac gq (hoN hw (8 * y + x) 64) (va_up (va_up (va_up mp (8 * y + x) true) (8 * y + x) false) (8 * y + x) true) (drN dr 64) 2 fl (va_up (va_up (va_up fr 1 (r1, (e1, e2, 0), z1)) 1 ((exN (hoN hw (8 * y + x) 64) sh fac dr 20 2), (e1, e2, 0), nI 20, nI 2, z1.2.2)) 1 ((exN (hoN hw (8 * y + x) 64) sh fac dr 20 2), (va_up e1 0 5, va_up e2 0 0, 1), nI 20, nI 2, z1.2.2)) fi) (Cam_N q8_cam (by omega)) 1 (by show 1 < 2; decide) _) (cwV 1 hts gL_isMended_X6_word rfl rfl rfl (by decide +kernel) ⟨Nat.le_of_ble_eq_true rfl, Nat.le_of_ble_eq_true rfl⟩) (iPV hK hP hD (by omega) (q8_cam.2.2.1) rfl [.int (nI 1)]) rfl rfl hl.1 rfl (lv_room (Nat.le_of_ble_eq_true rfl)) dL_isMended_251 ⟨Nat.le_of_ble_eq_true rfl, Nat.le_of_ble_eq_true rfl⟩) hD hS hA (fun r8 u8 H locs hw8 hP hD hS => ?_)
  obtain ⟨hr8, hc8, hs8⟩ := hw8
  refine lv_asI hr8 ?_
  obtain ⟨V9, rfl⟩ : ∃ V, V = u8 := ⟨_, rfl⟩
  have q9_cam := hc8
  refine lv_asI (y := wdI (exN (hoN hw (8 * y + x) 64) sh fac dr 20 2) (va_up (va_up (va_up mp (8 * y + x) true) (8 * y + x) false) (8 * y + x) true) (va_up e1 0 5, va_up e2 0 0, 1)) rfl ?_
  refine lv_iload hx hb dL_isMended_254 (lv_at hl 0 rfl) ?_
  refine lv_icmp_ne (tgt := 288) hx hb dL_isMended_256 (by decide) (fun c9 => absurd ((by rw [m3])) c9) (fun _ => ?_)
  refine lv_aload_n hx hb dL_isMended_259 rfl (lv_at hl 3 rfl) ?_
  refine lv_iconst (v := nI 1) hx hb dL_isMended_260 (by decide) ?_
  refine iw_i (va_runV (As := [.int (nI 1)]) (rest := []) ⟨hx, hb, hml, hown, hts⟩ (kX6_undo l G (N) ad _ 1 (mkS sh fac gq (hoN hw (8 * y + x) 64) (va_up (va_up (va_up mp (8 * y + x) true) (8 * y + x) false) (8 * y + x) true) (drN dr 64) 2 fl (va_up (va_up (va_up fr 1 (r1, (e1, e2, 0), z1)) 1 ((exN (hoN hw (8 * y + x) 64) sh fac dr 20 2), (e1, e2, 0), nI 20, nI 2, z1.2.2)) 1 ((exN (hoN hw (8 * y + x) 64) sh fac dr 20 2), (va_up e1 0 5, va_up e2 0 0, 1), nI 20, nI 2, z1.2.2)) fi) (Cam_N q9_cam (by omega)) 1 (by show 1 < 2; decide) _) (cwV 1 hts gL_isMended_X6_undo rfl rfl rfl (by decide +kernel) ⟨Nat.le_of_ble_eq_true rfl, Nat.le_of_ble_eq_true rfl⟩) (iPV hK hP hD (by omega) (q9_cam.2.2.1) rfl [.int (nI 1)]) rfl rfl hl.1 rfl (lv_room (Nat.le_of_ble_eq_true rfl)) dL_isMended_261 ⟨Nat.le_of_ble_eq_true rfl, Nat.le_of_ble_eq_true rfl⟩) hD hS hA (fun r8 u8 H locs hw8 hP hD hS => ?_)
  obtain ⟨hr8, hc8, hs8⟩ := hw8
  refine lv_asI hr8 ?_
  obtain ⟨V10, rfl⟩ : ∃ V, V = u8 := ⟨_, rfl⟩
  have q10_cam := hc8
  refine lv_asI (y := nI 5) rfl ?_
  refine lv_iconst (v := nI 5) hx hb dL_isMended_264 (by decide) ?_
  refine lv_icmp_ne (tgt := 288) hx hb dL_isMended_265 (by decide) (fun c9 => absurd (by decide) c9) (fun _ => ?_)
  refine lv_aload_n hx hb dL_isMended_268 rfl (lv_at hl 3 rfl) ?_
  refine lv_iconst (v := nI 1) hx hb dL_isMended_269 (by decide) ?_
  refine lv_iload_n hx hb dL_isMended_270 rfl (lv_at hl 4 rfl) ?_
  refine lv_iload_n hx hb dL_isMended_271 rfl (lv_at hl 5 rfl) ?_
  refine lv_iload hx hb dL_isMended_272 (lv_at hl 1 rfl) ?_
  refine iw_d (va_runV (As := [.int (nI 1), .int (nI x), .int (nI y), .int (nI (colN x y))]) (rest := []) ⟨hx, hb, hml, hown, hts⟩ (kX6_picture l G (N) ad _ 1 (mkS sh fac gq (hoN hw (8 * y + x) 64) (va_up (va_up (va_up mp (8 * y + x) true) (8 * y + x) false) (8 * y + x) true) (drN dr 64) 2 fl (va_up (va_up (va_up (va_up fr 1 (r1, (e1, e2, 0), z1)) 1 ((exN (hoN hw (8 * y + x) 64) sh fac dr 20 2), (e1, e2, 0), nI 20, nI 2, z1.2.2)) 1 ((exN (hoN hw (8 * y + x) 64) sh fac dr 20 2), (va_up e1 0 5, va_up e2 0 0, 1), nI 20, nI 2, z1.2.2)) 1 ((exN (hoN hw (8 * y + x) 64) sh fac dr 20 2), (va_up e1 0 5, va_up e2 0 0, 0), nI 20, nI 2, z1.2.2)) fi) (Cam_N q10_cam (by omega)) 1 (by show 1 < 2; decide) x y (by omega) (by omega) (colN x y) (colN_lt x y) _) (cwV 4 hts gL_isMended_X6_picture rfl rfl rfl (by decide +kernel) ⟨Nat.le_of_ble_eq_true rfl, Nat.le_of_ble_eq_true rfl⟩) (iPV hK hP hD (by omega) (q10_cam.2.2.1) rfl [.int (nI 1), .int (nI x), .int (nI y), .int (nI (colN x y))]) rfl rfl hl.1 rfl (lv_room (Nat.le_of_ble_eq_true rfl)) dL_isMended_274 ⟨Nat.le_of_ble_eq_true rfl, Nat.le_of_ble_eq_true rfl⟩) hD hS hA (fun r8 u8 H locs hw8 hP hD hS => ?_)
  obtain ⟨hr8, hc8, hs8⟩ := hw8
  refine lv_asD hr8 ?_
  obtain ⟨V11, rfl⟩ : ∃ V, V = u8 := ⟨_, rfl⟩
  have q11_cam := hc8
  refine lv_asD (y := 4643176031446892544) ((pi_own (exN (hoN hw (8 * y + x) 64) sh fac dr 20 2) (va_up (va_up (va_up mp (8 * y + x) true) (8 * y + x) false) (8 * y + x) true) (E := (va_up e1 0 5, va_up e2 0 0, 0)) (Or.inl rfl) (by omega) (by omega) ((mm_not _ _ _ _ (Or.inl rfl)).trans x0) (by decide)).trans d255) ?_
  refine lv_ldc2d hx hb hown (hts _ il_L_isMended_119) dL_isMended_277 ?_
  refine lv_dcmp hx hb dL_isMended_280 ?_
  refine lv_if_ne (tgt := 288) hx hb dL_isMended_281 (by decide) (fun c9 => absurd ((by decide +kernel)) c9) (fun _ => ?_)
  refine lv_iconst (v := nI 1) hx hb dL_isMended_284 (by decide) ?_
  refine lv_goto (tgt := 289) hx hb dL_isMended_285 (by decide) ?_
  refine W.widen (k := 0) (n := 0) (Nat.le_of_ble_eq_true rfl) (Nat.le_of_ble_eq_true rfl) ?_
  exact W.zret (v := (nI 1)) (ty := .boolean) hx hb hr (by decide) (fun t ht hW => ⟨⟨_, (ad, V11), rfl, ⟨rfl, trivial⟩, ⟨by rw [ht]; exact hP, hD⟩⟩, hS.F ht⟩) hS.2.2 dL_isMended_289
