set_option maxRecDepth 20000 in
theorem ggX7_light_X7_draw : GoodIn wsX7_light wsX7_draw := goodIn_r _ [7, 8, 9, 10, 11, 12, 13, 14, 15, 16, 40, 41, 42, 43, 44, 45, 46, 47, 48, 49, 50, 51] (by decide +kernel) (by decide +kernel)
set_option maxRecDepth 20000 in
theorem gX7_light_X7_draw : GoodIn wsX7_light (wsV RX7 68 RX7 yX7_draw wsX7_draw) := goodIn_app (goodIn_of _ (by decide +kernel)) ggX7_light_X7_draw
set_option maxRecDepth 20000 in
theorem ggX7_light_X6_lamp : GoodIn wsX7_light wsX6_lamp := goodIn_ca (goodIn_r _ [21, 22, 23, 24, 20, 25, 26, 27, 28, 29, 30, 31, 32, 33, 34, 35, 36, 37, 38, 39, 52, 53, 54, 55, 56, 57, 58, 59, 60, 61, 62, 63] (by decide +kernel) (by decide +kernel)) (goodIn_sub (fun _ h => List.mem_cons_of_mem _ (List.mem_append_right _ h)) (by decide +kernel))
set_option maxRecDepth 20000 in
theorem gX7_light_X6_lamp : GoodIn wsX7_light (wsV RX7 77 RX6 yX6_lamp wsX6_lamp) := goodIn_app (goodIn_of _ (by decide +kernel)) ggX7_light_X6_lamp
abbrev rmX7_light : Room := { frames := 2, cells := 0, slots := 0, locals := 47 }
set_option maxRecDepth 20000 in
theorem iu_X7_light_7 : ∀ w ∈ u_ws RX7 TX7 12, w ∈ wsX7_light := by decide +kernel
set_option maxRecDepth 20000 in
theorem il_X7_light_21 : (Cond.fieldLink RX7 21 "BayerGateLaw$Told" "lamp" "[I") ∈ wsX7_light := by decide +kernel
set_option maxRecDepth 20000 in
theorem il_X7_light_10 : (Cond.fieldLink RX7 10 "BayerGateLaw$Told" "m" "LBayerGate;") ∈ wsX7_light := by decide +kernel
set_option maxHeartbeats 4000000 in
set_option maxRecDepth 100000 in
theorem kX7_light (l : Launch) (G : iG) (N : Nat) (ad : Nat → Nat) (C : Nat → va_E) (b L : Nat) (xs : Nat → Int32) (h147 : 147 ≤ N) (S : St) (hcam : Cam G N ad C 1 S) (sn : Nat → Nat) (hts0 : isTs G ad C N sn) (d : Nat) (hd : d < 800) {dw : Int32} {a8 a9 a10 a11 : Nat} (h0 : C 0 = ob 7 [.ref (ad 1), .ref b, .int (nI d), .ref (ad 75), .ref (ad 140), .ref (ad 141), .ref (ad 142), .int dw, .ref a8, .ref a9, .ref a10, .ref a11]) {fl : Nat → Int32} {lp : Nat → Nat} (hfl0 : C 140 = ia G 3 fl) (hfl : ∀ i, i < 3 → fl i = nI (lp i)) (hgq : sGq S = lp 1) (sz : Nat) : Met l yX7_light wsX7_light rmX7_light (iPreX G (N) ad C b L xs sz [.ref (ad 0)]) (va_Qi (fun (r : Int32) (u : iU) => (r = nI 1) ∧ (∀ j, j < N → u.1 j = ad j) ∧ (∀ j, j < N → (75 < j ∧ j ≠ 140) → u.2 j = C j) ∧ ∃ q1 q2 q3 : Nat, (q1 < 16 ∧ q2 < 16 ∧ q3 < 16) ∧ Cam G N u.1 u.2 1 (mkS (sSh S) (vf_upd (vf_upd (vf_upd (sFac S) 0 (quF (1 + q1))) 1 (quF (1 + q2))) 2 (quF (1 + q3))) (1 + q2) (sHw S) (sMp S) (sDr S) (sFn S) (sFl S) (sFr S) (sFi S)) ∧ isTs G u.1 u.2 N sn ∧ u.2 0 = ob 7 [.ref (u.1 1), .ref b, .int (nI (d + 3)), .ref (u.1 75), .ref (u.1 140), .ref (u.1 141), .ref (u.1 142), .int dw, .ref a8, .ref a9, .ref a10, .ref a11] ∧ ∃ f : Nat → Int32, u.2 140 = ia G 3 f ∧ ∀ i, i < 3 → f i = nI (rw3 (1 + q1) (1 + q2) (1 + q3) i)) (iB2 G (N) (iA (N) ad sz)) (iA (N) ad sz)) 0 0 (iA (N) ad sz) := by
  refine Met.ofW (cc := cX7_light) (maxL := 3) (ret := (some .boolean)) (by decide) rfl ?_
  intro p e s m args below meth c s₁ B hml hv
  obtain ⟨rfl, ⟨hsz, hP, hK, hD0⟩, hV, hX⟩ := hv
  have hx := B.exec
  have hb := B.bytes
  have hr := B.returns
  have hts := atoms_spec (ws := wsX7_light) B.pre
  have hown : s.vm.findClass RX7 = some m.cls := findClass_of_methodNamed B.named
  have hlocks := B.notSynchronized
  subst hsz
  have hD := wl_self hD0 s.heap.size
  have hA : ∀ q : Nat, s.heap.size ≤ q → iA (N) ad s.heap.size q := fun q h => Or.inr h
  have hS : va_S (iA (N) ad s.heap.size) s.heap s.heap [] := va_S.rf
  have hP : va_P G.1 vwB (wl (N) ad C) s.heap := hP
  have hl := lv_entry ([.ref (ad 0)]) (n := 3) (Nat.le_of_ble_eq_true rfl)
  rw [lg_entry_eq]
  generalize (lg_sl ([.ref (ad 0)]) ++ List.replicate (3 - (lg_sl ([.ref (ad 0)])).length) Slot.unset).toArray = ls at hl ⊢
  have hl : lv_has ls 3 [(0, .ref (ad 0))] := hl
  have hbA := XS_out hX
  refine lv_aload_n hx hb dX7_light_0 rfl (lv_at hl 0 rfl) ?_
  refine iw_get hx hb hts iu_X7_light_7 hown hK hP (by omega) (h0) rfl 4 (by decide) (hts _ il_X7_light_21) (fun _ h9 => h9) rfl dX7_light_1 ?_
  refine lv_iconst (v := nI 1) hx hb dX7_light_4 (by decide) ?_
  refine iw_iald (v := fl 1) hx hb hK hP (by omega) (hfl0) (vp_in_nI (show 1 < 3 by omega) (by omega)) (congrArg fl (nI_clamp (by omega))) dX7_light_5 ?_
  refine lv_asI (y := nI (lp 1)) (hfl 1 (by omega)) ?_
  refine lv_istore_n (lv' := [(1, .int (nI (lp 1))), (0, .ref (ad 0))]) hx hb dX7_light_6 rfl hl (by decide) rfl (fun ls hl => ?_)
  refine lv_iconst (v := nI 0) hx hb dX7_light_7 (by decide) ?_
  refine lv_istore_n (lv' := [(2, .int (nI 0)), (1, .int (nI (lp 1))), (0, .ref (ad 0))]) hx hb dX7_light_8 rfl hl (by decide) rfl (fun ls hl => ?_)
  refine lv_iload_n hx hb dX7_light_9 rfl (lv_at hl 0 rfl) ?_
  refine lv_iconst (v := nI 3) hx hb dX7_light_10 (by decide) ?_
  refine lv_icmp_ge (tgt := 34) hx hb dX7_light_11 (by decide) (fun c9 => absurd c9 (by decide)) (fun _ => ?_)
  refine lv_aload_n hx hb dX7_light_14 rfl (lv_at hl 2 rfl) ?_
  refine iw_get hx hb hts iu_X7_light_7 hown hK hP (by omega) (h0) rfl 4 (by decide) (hts _ il_X7_light_21) (fun _ h9 => h9) rfl dX7_light_15 ?_
  refine lv_iload_n hx hb dX7_light_18 rfl (lv_at hl 0 rfl) ?_
  refine lv_iconst (v := nI 1) hx hb dX7_light_19 (by decide) ?_
  refine lv_aload_n hx hb dX7_light_20 rfl (lv_at hl 2 rfl) ?_
  refine lv_bipush (v := nI 16) hx hb dX7_light_21 (by decide) ?_
  refine iw_i (va_runV (As := [.int (nI 16)]) (rest := [.int (nI 1), .int (nI 0), .ref (ad 140)]) ⟨hx, hb, hml, hown, hts⟩ (kX7_draw l G (N) ad _ b L xs (t := 0) (by omega) (16) (by omega) (d) (by omega) (h0) _) (cwV 1 hts gX7_light_X7_draw rfl rfl rfl (by decide +kernel) ⟨Nat.le_of_ble_eq_true rfl, Nat.le_of_ble_eq_true rfl⟩) (iPVX hK hV hX hbA hS hP hD (by omega) (h0) rfl [.int (nI 16)]) rfl rfl hl.1 rfl (lv_room (Nat.le_of_ble_eq_true rfl)) dX7_light_23 ⟨Nat.le_of_ble_eq_true rfl, Nat.le_of_ble_eq_true rfl⟩) hD hS hA (fun r8 u8 H locs hw8 hP hD hS => ?_)
  obtain ⟨⟨q1, hq1, hr8⟩, hu8⟩ := hw8
  refine lv_asI hr8 ?_
  rw [hu8] at hP hD
  refine lv_iadd hx hb dX7_light_26 ?_
  refine lv_asI (y := nI (1 + q1)) (nI_add _ _) ?_
  refine iw_iast hx hb hK hP hD hS (by omega) ((va_un _ _ (by omega)).trans (hfl0)) (vp_in_nI (show 0 < 3 by omega) (by omega)) (nI_clamp (by omega)) dX7_light_27 (fun H locs hP hD hS => ?_)
  refine lv_iinc (v := nI 1) (lv' := [(2, .int (nI 1)), (1, .int (nI (lp 1))), (0, .ref (ad 0))]) hx hb dX7_light_28 hl (k := 0) rfl (iinc_nat _ 1) (by decide) rfl (fun ls hl => ?_)
  refine lv_goto (tgt := 9) hx hb dX7_light_31 (by decide) ?_
  refine lv_iload_n hx hb dX7_light_9 rfl (lv_at hl 0 rfl) ?_
  refine lv_iconst (v := nI 3) hx hb dX7_light_10 (by decide) ?_
  refine lv_icmp_ge (tgt := 34) hx hb dX7_light_11 (by decide) (fun c9 => absurd c9 (by decide)) (fun _ => ?_)
  refine lv_aload_n hx hb dX7_light_14 rfl (lv_at hl 2 rfl) ?_
  refine iw_get hx hb hts iu_X7_light_7 hown hK hP (by omega) ((va_un _ _ (by omega)).trans (va_us _ _ _)) rfl 4 (by decide) (hts _ il_X7_light_21) (fun _ h9 => h9) rfl dX7_light_15 ?_
  refine lv_iload_n hx hb dX7_light_18 rfl (lv_at hl 0 rfl) ?_
  refine lv_iconst (v := nI 1) hx hb dX7_light_19 (by decide) ?_
  refine lv_aload_n hx hb dX7_light_20 rfl (lv_at hl 2 rfl) ?_
  refine lv_bipush (v := nI 16) hx hb dX7_light_21 (by decide) ?_
  refine iw_i (va_runV (As := [.int (nI 16)]) (rest := [.int (nI 1), .int (nI 1), .ref (ad 140)]) ⟨hx, hb, hml, hown, hts⟩ (kX7_draw l G (N) ad _ b L xs (t := 0) (by omega) (16) (by omega) (d + 1) (by omega) ((va_un _ _ (by omega)).trans (va_us _ _ _)) _) (cwV 1 hts gX7_light_X7_draw rfl rfl rfl (by decide +kernel) ⟨Nat.le_of_ble_eq_true rfl, Nat.le_of_ble_eq_true rfl⟩) (iPVX hK hV hX hbA hS hP hD (by omega) ((va_un _ _ (by omega)).trans (va_us _ _ _)) rfl [.int (nI 16)]) rfl rfl hl.1 rfl (lv_room (Nat.le_of_ble_eq_true rfl)) dX7_light_23 ⟨Nat.le_of_ble_eq_true rfl, Nat.le_of_ble_eq_true rfl⟩) hD hS hA (fun r8 u8 H locs hw8 hP hD hS => ?_)
  obtain ⟨⟨q2, hq2, hr8⟩, hu8⟩ := hw8
  refine lv_asI hr8 ?_
  rw [hu8] at hP hD
  rw [va_u3 _ _ _ _ ((by omega))] at hP hD
  refine lv_iadd hx hb dX7_light_26 ?_
  refine lv_asI (y := nI (1 + q2)) (nI_add _ _) ?_
  refine iw_iast hx hb hK hP hD hS (by omega) (va_us _ _ _) (vp_in_nI (show 1 < 3 by omega) (by omega)) (nI_clamp (by omega)) dX7_light_27 (fun H locs hP hD hS => ?_)
  rw [va_uu _ _ _ _] at hP hD
  refine lv_iinc (v := nI 2) (lv' := [(2, .int (nI 2)), (1, .int (nI (lp 1))), (0, .ref (ad 0))]) hx hb dX7_light_28 hl (k := 0) rfl (iinc_nat _ 1) (by decide) rfl (fun ls hl => ?_)
  refine lv_goto (tgt := 9) hx hb dX7_light_31 (by decide) ?_
  refine lv_iload_n hx hb dX7_light_9 rfl (lv_at hl 0 rfl) ?_
  refine lv_iconst (v := nI 3) hx hb dX7_light_10 (by decide) ?_
  refine lv_icmp_ge (tgt := 34) hx hb dX7_light_11 (by decide) (fun c9 => absurd c9 (by decide)) (fun _ => ?_)
  refine lv_aload_n hx hb dX7_light_14 rfl (lv_at hl 2 rfl) ?_
  refine iw_get hx hb hts iu_X7_light_7 hown hK hP (by omega) ((va_un _ _ (by omega)).trans (va_us _ _ _)) rfl 4 (by decide) (hts _ il_X7_light_21) (fun _ h9 => h9) rfl dX7_light_15 ?_
  refine lv_iload_n hx hb dX7_light_18 rfl (lv_at hl 0 rfl) ?_
  refine lv_iconst (v := nI 1) hx hb dX7_light_19 (by decide) ?_
  refine lv_aload_n hx hb dX7_light_20 rfl (lv_at hl 2 rfl) ?_
  refine lv_bipush (v := nI 16) hx hb dX7_light_21 (by decide) ?_
  refine iw_i (va_runV (As := [.int (nI 16)]) (rest := [.int (nI 1), .int (nI 2), .ref (ad 140)]) ⟨hx, hb, hml, hown, hts⟩ (kX7_draw l G (N) ad _ b L xs (t := 0) (by omega) (16) (by omega) (d + 2) (by omega) ((va_un _ _ (by omega)).trans (va_us _ _ _)) _) (cwV 1 hts gX7_light_X7_draw rfl rfl rfl (by decide +kernel) ⟨Nat.le_of_ble_eq_true rfl, Nat.le_of_ble_eq_true rfl⟩) (iPVX hK hV hX hbA hS hP hD (by omega) ((va_un _ _ (by omega)).trans (va_us _ _ _)) rfl [.int (nI 16)]) rfl rfl hl.1 rfl (lv_room (Nat.le_of_ble_eq_true rfl)) dX7_light_23 ⟨Nat.le_of_ble_eq_true rfl, Nat.le_of_ble_eq_true rfl⟩) hD hS hA (fun r8 u8 H locs hw8 hP hD hS => ?_)
  obtain ⟨⟨q3, hq3, hr8⟩, hu8⟩ := hw8
  refine lv_asI hr8 ?_
  rw [hu8] at hP hD
  rw [va_u3 _ _ _ _ ((by omega))] at hP hD
  refine lv_iadd hx hb dX7_light_26 ?_
  refine lv_asI (y := nI (1 + q3)) (nI_add _ _) ?_
  refine iw_iast hx hb hK hP hD hS (by omega) (va_us _ _ _) (vp_in_nI (show 2 < 3 by omega) (by omega)) (nI_clamp (by omega)) dX7_light_27 (fun H locs hP hD hS => ?_)
  rw [va_uu _ _ _ _] at hP hD
  refine lv_iinc (v := nI 3) (lv' := [(2, .int (nI 3)), (1, .int (nI (lp 1))), (0, .ref (ad 0))]) hx hb dX7_light_28 hl (k := 0) rfl (iinc_nat _ 1) (by decide) rfl (fun ls hl => ?_)
  refine lv_goto (tgt := 9) hx hb dX7_light_31 (by decide) ?_
  refine lv_iload_n hx hb dX7_light_9 rfl (lv_at hl 0 rfl) ?_
  refine lv_iconst (v := nI 3) hx hb dX7_light_10 (by decide) ?_
  refine lv_icmp_ge (tgt := 34) hx hb dX7_light_11 (by decide) (fun _ => ?_) (fun c9 => absurd (by decide) c9)
  refine lv_aload_n hx hb dX7_light_34 rfl (lv_at hl 2 rfl) ?_
  refine iw_get hx hb hts iu_X7_light_7 hown hK hP (by omega) ((va_un _ _ (by omega)).trans (va_us _ _ _)) rfl 0 (by decide) (hts _ il_X7_light_10) (fun _ h9 => h9) rfl dX7_light_35 ?_
  refine lv_aload_n hx hb dX7_light_38 rfl (lv_at hl 2 rfl) ?_
  refine iw_get hx hb hts iu_X7_light_7 hown hK hP (by omega) ((va_un _ _ (by omega)).trans (va_us _ _ _)) rfl 4 (by decide) (hts _ il_X7_light_21) (fun _ h9 => h9) rfl dX7_light_39 ?_
  refine lv_iconst (v := nI 0) hx hb dX7_light_42 (by decide) ?_
  refine iw_iald (v := (upd (upd (upd fl 0 (nI (1 + q1))) 1 (nI (1 + q2))) 2 (nI (1 + q3))) 0) hx hb hK hP (by omega) (va_us _ _ _) (vp_in_nI (show 0 < 3 by omega) (by omega)) (congrArg (upd (upd (upd fl 0 (nI (1 + q1))) 1 (nI (1 + q2))) 2 (nI (1 + q3))) (nI_clamp (by omega))) dX7_light_43 ?_
  refine lv_asI (y := nI (1 + q1)) rfl ?_
  refine lv_aload_n hx hb dX7_light_44 rfl (lv_at hl 2 rfl) ?_
  refine iw_get hx hb hts iu_X7_light_7 hown hK hP (by omega) ((va_un _ _ (by omega)).trans (va_us _ _ _)) rfl 4 (by decide) (hts _ il_X7_light_21) (fun _ h9 => h9) rfl dX7_light_45 ?_
  refine lv_iconst (v := nI 1) hx hb dX7_light_48 (by decide) ?_
  refine iw_iald (v := (upd (upd (upd fl 0 (nI (1 + q1))) 1 (nI (1 + q2))) 2 (nI (1 + q3))) 1) hx hb hK hP (by omega) (va_us _ _ _) (vp_in_nI (show 1 < 3 by omega) (by omega)) (congrArg (upd (upd (upd fl 0 (nI (1 + q1))) 1 (nI (1 + q2))) 2 (nI (1 + q3))) (nI_clamp (by omega))) dX7_light_49 ?_
  refine lv_asI (y := nI (1 + q2)) rfl ?_
  refine lv_aload_n hx hb dX7_light_50 rfl (lv_at hl 2 rfl) ?_
  refine iw_get hx hb hts iu_X7_light_7 hown hK hP (by omega) ((va_un _ _ (by omega)).trans (va_us _ _ _)) rfl 4 (by decide) (hts _ il_X7_light_21) (fun _ h9 => h9) rfl dX7_light_51 ?_
  refine lv_iconst (v := nI 2) hx hb dX7_light_54 (by decide) ?_
  refine iw_iald (v := (upd (upd (upd fl 0 (nI (1 + q1))) 1 (nI (1 + q2))) 2 (nI (1 + q3))) 2) hx hb hK hP (by omega) (va_us _ _ _) (vp_in_nI (show 2 < 3 by omega) (by omega)) (congrArg (upd (upd (upd fl 0 (nI (1 + q1))) 1 (nI (1 + q2))) 2 (nI (1 + q3))) (nI_clamp (by omega))) dX7_light_55 ?_
  refine lv_asI (y := nI (1 + q3)) rfl ?_
  refine iw_i (va_runV (As := [.int (nI (1 + q1)), .int (nI (1 + q2)), .int (nI (1 + q3))]) (rest := []) ⟨hx, hb, hml, hown, hts⟩ (kX6_lamp l G (N) ad _ 1 S (Cam_N (Cam_up (Cam_up hcam (by omega)) (by omega)) (by omega)) (1 + q1) (1 + q2) (1 + q3) ⟨by omega, by omega⟩ ⟨by omega, by omega⟩ ⟨by omega, by omega⟩ _) (cwV 3 hts gX7_light_X6_lamp rfl rfl rfl (by decide +kernel) ⟨Nat.le_of_ble_eq_true rfl, Nat.le_of_ble_eq_true rfl⟩) (iPV hK hP hD (by omega) ((va_un _ _ (by omega)).trans ((va_un _ _ (by omega)).trans (hcam.2.2.1))) rfl [.int (nI (1 + q1)), .int (nI (1 + q2)), .int (nI (1 + q3))]) rfl rfl hl.1 rfl (lv_room (Nat.le_of_ble_eq_true rfl)) dX7_light_56 ⟨Nat.le_of_ble_eq_true rfl, Nat.le_of_ble_eq_true rfl⟩) hD hS hA (fun r8 u8 H locs hw8 hP hD hS => ?_)
  obtain ⟨hr8, hc8, hs8⟩ := hw8
  refine lv_asI hr8 ?_
  obtain ⟨V1, rfl⟩ : ∃ V, V = u8 := ⟨_, rfl⟩
  have k1_0 : V1 0 = ob 7 [.ref (ad 1), .ref b, .int (nI (d + 3)), .ref (ad 75), .ref (ad 140), .ref (ad 141), .ref (ad 142), .int dw, .ref a8, .ref a9, .ref a10, .ref a11] := (hs8 _ (by omega)).trans ((va_un _ _ (by omega)).trans (va_us _ _ _))
  have k1_140 : V1 140 = ia G 3 (upd (upd (upd fl 0 (nI (1 + q1))) 1 (nI (1 + q2))) 2 (nI (1 + q3))) := (hs8 _ (by omega)).trans (va_us _ _ _)
  have q1_ts := isTs_cam hs8 (by omega) (isTs_up (isTs_up hts0 (by omega)) (by omega))
  have q1_cam := hc8
  have ea1 : ∀ j, j < N → ad j = ad j := fun j h => rfl
  have ca1 : ∀ j, j < N → (75 < j ∧ j ≠ 140) → V1 j = C j := fun j h hx9 => (hs8 j (by omega)).trans ((va_un _ _ (by omega)).trans ((va_un _ _ (by omega)).trans (rfl)))
  refine lv_iload_n hx hb dX7_light_59 rfl (lv_at hl 1 rfl) ?_
  refine lv_icmp_ne (tgt := 67) hx hb dX7_light_60 (by decide) (fun c9 => absurd ((by rw [hgq])) c9) (fun _ => ?_)
  refine lv_iconst (v := nI 1) hx hb dX7_light_63 (by decide) ?_
  refine lv_goto (tgt := 68) hx hb dX7_light_64 (by decide) ?_
  refine W.widen (k := 0) (n := 0) (Nat.le_of_ble_eq_true rfl) (Nat.le_of_ble_eq_true rfl) ?_
  have z_0 : (V1) 0 = ob 7 [.ref (ad 1), .ref b, .int (nI (d + 3)), .ref (ad 75), .ref (ad 140), .ref (ad 141), .ref (ad 142), .int dw, .ref a8, .ref a9, .ref a10, .ref a11] := k1_0
  have z_140 : (V1) 140 = ia G 3 (upd (upd (upd fl 0 (nI (1 + q1))) 1 (nI (1 + q2))) 2 (nI (1 + q3))) := k1_140
  exact W.zret (v := (nI 1)) (ty := .boolean) hx hb hr (by decide) (fun t ht hW => ⟨⟨_, (ad, V1), rfl, ⟨rfl, ⟨ea1, fun j h hx9 => ca1 j h hx9, ⟨q1, q2, q3, ⟨hq1, hq2, hq3⟩, (Cam_N q1_cam (by omega)), q1_ts, z_0, upd (upd (upd fl 0 (nI (1 + q1))) 1 (nI (1 + q2))) 2 (nI (1 + q3)), z_140, fun i hi => by rcases (show i = 0 ∨ i = 1 ∨ i = 2 by omega) with rfl | rfl | rfl <;> rfl⟩⟩⟩, ⟨by rw [ht]; exact hP, hD⟩⟩, hS.F ht⟩) hS.2.2 dX7_light_68
