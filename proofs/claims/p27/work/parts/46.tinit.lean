set_option maxRecDepth 20000 in
theorem ggX7_init_X6_init : GoodIn wsX7_init wsX6_init := goodIn_r _ [24, 25, 2, 3, 26, 27, 28, 29, 30, 31, 32, 33, 34, 35, 36, 37, 38, 39, 40, 41, 42, 43, 44, 45, 46, 47, 48, 49, 50, 51, 52, 53, 9, 54, 55, 56, 57, 58, 59, 60, 61, 13, 62, 63, 64, 65, 66, 67, 68, 69, 70, 71, 72, 73, 74, 75, 76, 77, 78, 79, 80, 81, 82, 83, 84, 85, 86, 87, 88, 89, 90, 91, 92, 114, 115, 116, 93, 94, 95, 96, 97, 98, 99, 100, 101, 117, 118, 119, 120, 121, 122, 123, 124, 125, 126, 127, 128, 129, 130, 131, 132] (by decide +kernel) (by decide +kernel)
set_option maxRecDepth 20000 in
theorem gX7_init_X6_init : GoodIn wsX7_init (wsX6_init) := ggX7_init_X6_init
abbrev rmX7_init : Room := { frames := 4, cells := 146, slots := 1949, locals := 79 }
set_option maxRecDepth 20000 in
theorem il_X7_init_1 : (Cond.methodLink RX7 1 objectInit) ∈ wsX7_init := by decide +kernel
set_option maxRecDepth 20000 in
theorem il_X7_init_imobj : (Cond.instanceMethod objectInit) ∈ wsX7_init := by decide +kernel
set_option maxRecDepth 20000 in
theorem il_X7_init_codeobj : (Cond.code objectInit ⟨#[0xb1]⟩ 1 none) ∈ wsX7_init := by decide +kernel
set_option maxRecDepth 20000 in
theorem il_X7_init_7 : (Cond.classLink RX7 7 RX6) ∈ wsX7_init := by decide +kernel
set_option maxRecDepth 20000 in
theorem il_X7_init_instX6 : (Cond.instantiable RX6 9) ∈ wsX7_init := by decide +kernel
set_option maxRecDepth 20000 in
theorem il_X7_init_iniX6 : (Cond.initialized RX6) ∈ wsX7_init := by decide +kernel
set_option maxRecDepth 20000 in
theorem iu_X7_init_6 : ∀ w ∈ u_ws RX6 TX6 9, w ∈ wsX7_init := by decide +kernel
set_option maxRecDepth 20000 in
theorem il_X7_init_im_X6_init : (Cond.instanceMethod yX6_init) ∈ wsX7_init := by decide +kernel
set_option maxRecDepth 20000 in
theorem il_X7_init_9 : (Cond.methodLink RX7 9 yX6_init) ∈ wsX7_init := by decide +kernel
set_option maxRecDepth 20000 in
theorem il_X7_init_10 : (Cond.fieldLink RX7 10 "BayerGateLaw$Told" "m" "LBayerGate;") ∈ wsX7_init := by decide +kernel
set_option maxRecDepth 20000 in
theorem iu_X7_init_7 : ∀ w ∈ u_ws RX7 TX7 12, w ∈ wsX7_init := by decide +kernel
set_option maxRecDepth 20000 in
theorem il_X7_init_16 : (Cond.classLink RX7 16 "[[I") ∈ wsX7_init := by decide +kernel
set_option maxRecDepth 20000 in
theorem il_X7_init_arrint : (Cond.arrayClass .int) ∈ wsX7_init := by decide +kernel
set_option maxRecDepth 20000 in
theorem il_X7_init_18 : (Cond.fieldLink RX7 18 "BayerGateLaw$Told" "scene" "[[I") ∈ wsX7_init := by decide +kernel
set_option maxRecDepth 20000 in
theorem il_X7_init_21 : (Cond.fieldLink RX7 21 "BayerGateLaw$Told" "lamp" "[I") ∈ wsX7_init := by decide +kernel
set_option maxRecDepth 20000 in
theorem il_X7_init_25 : (Cond.fieldLink RX7 25 "BayerGateLaw$Told" "how" "[I") ∈ wsX7_init := by decide +kernel
set_option maxRecDepth 20000 in
theorem il_X7_init_arrboolean : (Cond.arrayClass .boolean) ∈ wsX7_init := by decide +kernel
set_option maxRecDepth 20000 in
theorem il_X7_init_28 : (Cond.fieldLink RX7 28 "BayerGateLaw$Told" "mapped" "[Z") ∈ wsX7_init := by decide +kernel
set_option maxRecDepth 20000 in
theorem il_X7_init_32 : (Cond.classLink RX7 32 "[I") ∈ wsX7_init := by decide +kernel
set_option maxRecDepth 20000 in
theorem il_X7_init_33 : (Cond.fieldLink RX7 33 "BayerGateLaw$Told" "raws" "[[I") ∈ wsX7_init := by decide +kernel
set_option maxRecDepth 20000 in
theorem il_X7_init_36 : (Cond.fieldLink RX7 36 "BayerGateLaw$Told" "frames" "[[I") ∈ wsX7_init := by decide +kernel
set_option maxRecDepth 20000 in
theorem il_X7_init_39 : (Cond.fieldLink RX7 39 "BayerGateLaw$Told" "edits" "[[I") ∈ wsX7_init := by decide +kernel
set_option maxRecDepth 20000 in
theorem il_X7_init_42 : (Cond.fieldLink RX7 42 "BayerGateLaw$Told" "files" "[[I") ∈ wsX7_init := by decide +kernel
set_option maxRecDepth 20000 in
theorem il_X7_init_45 : (Cond.fieldLink RX7 45 "BayerGateLaw$Told" "s" "[I") ∈ wsX7_init := by decide +kernel
set_option maxRecDepth 20000 in
theorem il_X7_init_48 : (Cond.fieldLink RX7 48 "BayerGateLaw$Told" "draws" "I") ∈ wsX7_init := by decide +kernel
set_option maxHeartbeats 4000000 in
set_option maxRecDepth 100000 in
theorem kX7_init (l : Launch) (G : iG) (ad : Nat → Nat) (C : Nat → va_E) (b L : Nat) (xs : Nat → Int32) (d : Nat) (h0 : C 0 = ob 7 [.null, .null, .int (nI 0), .null, .null, .null, .null, .int (nI 0), .null, .null, .null, .null]) (sz : Nat) : Met l yX7_init wsX7_init rmX7_init (iPreX G (1) ad C b L xs sz [.ref (ad 0), .ref b, .int (nI d)]) (va_Qv (fun (u : iU) => (∀ j, j < 1 → u.1 j = ad j) ∧ (∀ j, j < 0 → u.2 j = C j) ∧ Cam G 147 u.1 u.2 1 S0 ∧ isTs G u.1 u.2 140 (fun _ => 0) ∧ u.2 0 = ob 7 [.ref (u.1 1), .ref b, .int (nI d), .ref (u.1 75), .ref (u.1 140), .ref (u.1 141), .ref (u.1 142), .int (nI 0), .ref (u.1 143), .ref (u.1 144), .ref (u.1 145), .ref (u.1 146)] ∧ (∃ f : Nat → Int32, u.2 140 = ia G 3 f ∧ ∀ i, i < 3 → f i = nI 4) ∧ u.2 141 = ia G 64 (fun _ => nI 0) ∧ (∃ F : Nat → Option Nat, u.2 143 = ra G 5 0 F) ∧ (∃ F : Nat → Option Nat, u.2 144 = ra G 5 0 F) ∧ (∃ F : Nat → Option Nat, u.2 145 = ra G 5 0 F) ∧ ∃ F : Nat → Option Nat, u.2 146 = ra G 5 0 F) (iB2 G (147) (iA (1) ad sz)) (iA (1) ad sz)) 146 1949 (iA (1) ad sz) := by
  refine Met.ofW (cc := cX7_init) (maxL := 3) (ret := none) (by decide) rfl ?_
  intro p e s m args below meth c s₁ B hml hv
  obtain ⟨rfl, ⟨hsz, hP, hK, hD0⟩, hV, hX⟩ := hv
  have hx := B.exec
  have hb := B.bytes
  have hr := B.returns
  have hts := atoms_spec (ws := wsX7_init) B.pre
  have hown : s.vm.findClass RX7 = some m.cls := findClass_of_methodNamed B.named
  have hlocks := B.notSynchronized
  have hin : meth.name = "<init>" := (name_of_methodNamed B.named B.method).1
  subst hsz
  have hD := wl_self hD0 s.heap.size
  have hA : ∀ q : Nat, s.heap.size ≤ q → iA (1) ad s.heap.size q := fun q h => Or.inr h
  have hS : va_S (iA (1) ad s.heap.size) s.heap s.heap [] := va_S.rf
  have hP : va_P G.1 vwB (wl (1) ad C) s.heap := hP
  have hl := lv_entry ([.ref (ad 0), .ref b, .int (nI d)]) (n := 3) (Nat.le_of_ble_eq_true rfl)
  rw [lg_entry_eq]
  generalize (lg_sl ([.ref (ad 0), .ref b, .int (nI d)]) ++ List.replicate (3 - (lg_sl ([.ref (ad 0), .ref b, .int (nI d)])).length) Slot.unset).toArray = ls at hl ⊢
  have hl : lv_has ls 3 [(0, .ref (ad 0)), (1, .ref b), (2, .int (nI d))] := hl
  have hbA := XS_out hX
  refine lv_aload_n hx hb dX7_init_0 rfl (lv_at hl 0 rfl) ?_
  refine W.objInit hx hb hown (hts _ il_X7_init_1) (hts _ il_X7_init_imobj) (hts _ il_X7_init_codeobj) rfl (by rw [hml]; exact hl.1) rfl dX7_init_1 (Nat.le_of_ble_eq_true rfl) (Nat.le_of_ble_eq_true rfl) ?_
  refine W.eq (g2 := F0 m 4 ls []) rfl ?_
  refine lv_aload_n hx hb dX7_init_4 rfl (lv_at hl 0 rfl) ?_
  refine iw_new (ci := 6) (fs := [.null, .null, .null, .null, .int (nI 0), .int (nI 0), .null, .null, .null]) (T := TX6) (n := 9) hx hb hts iu_X7_init_6 tyX6 tyX6_ok hown (hts _ il_X7_init_7) (hts _ il_X7_init_instX6) (hts _ il_X7_init_iniX6) hK hP hD hS hA rfl (fun j hj => by rcases (show j = 0 ∨ j = 1 ∨ j = 2 ∨ j = 3 ∨ j = 4 ∨ j = 5 ∨ j = 6 ∨ j = 7 ∨ j = 8 by omega) with rfl | rfl | rfl | rfl | rfl | rfl | rfl | rfl | rfl <;> rfl) (Nat.le_of_ble_eq_true rfl) (Nat.le_of_ble_eq_true rfl) dX7_init_5 (fun ad1 C1 H e1 c1 n1 hP hD hS => ?_)
  have k1_0 : C1 0 = ob 7 [.null, .null, .int (nI 0), .null, .null, .null, .null, .int (nI 0), .null, .null, .null, .null] := (c1 _ (by omega)).trans (h0)
  have ea1 : ∀ j, j < 1 → ad1 j = ad j := fun j h => e1 j (by omega)
  have ca1 : ∀ j, j < 0 → C1 j = C j := fun j h => (c1 j (by omega)).trans (rfl)
  have hl : lv_has ls 3 [(0, .ref (ad1 0)), (1, .ref b), (2, .int (nI d))] := by rw [e1 0 (by omega)]; exact hl
  refine W.eq (g2 := F0 m 8 ls [.ref (ad1 1), .ref (ad1 0)]) (by first | (rw [e1 0 (by omega)]; done) | (rw [e1 0 (by omega)]; rfl)) ?_
  refine lv_dup hx hb dX7_init_8 rfl ?_
  refine iwg_v (va_runI (As := []) (rest := [.ref (ad1 1), .ref (ad1 0)]) ⟨hx, hb, hml, hown, hts⟩ (kX6_init l G 1 ad1 _ (n1) _) (cwI 0 hts gX7_init_X6_init rfl rfl rfl (hts _ il_X7_init_iniX6) (hts _ il_X7_init_9) (hts _ il_X7_init_im_X6_init) rfl (by decide +kernel) ⟨Nat.le_of_ble_eq_true rfl, Nat.le_of_ble_eq_true rfl⟩) (iPSV hK hV hP hD [.ref (ad1 1)])  rfl rfl hl.1 rfl (lv_room (Nat.le_of_ble_eq_true rfl)) dX7_init_9 ⟨Nat.le_of_ble_eq_true rfl, Nat.le_of_ble_eq_true rfl⟩) hD hS hA (fun ad2 C2 H locs hw8 hP hD hS => ?_)
  dsimp only at hw8
  obtain ⟨e2, c2, hc2⟩ := hw8
  have k2_0 : C2 0 = ob 7 [.null, .null, .int (nI 0), .null, .null, .null, .null, .int (nI 0), .null, .null, .null, .null] := (c2 _ (by omega)).trans (k1_0)
  have ea2 : ∀ j, j < 1 → ad2 j = ad j := fun j h => (e2 j (by omega)).trans (ea1 j h)
  have ca2 : ∀ j, j < 0 → C2 j = C j := fun j h => (c2 j (by omega)).trans (ca1 j h)
  have hl : lv_has ls 3 [(0, .ref (ad2 0)), (1, .ref b), (2, .int (nI d))] := by rw [e2 0 (by omega)]; exact hl
  refine W.eq (g2 := F0 m 12 ls [.ref (ad2 1), .ref (ad2 0)]) (by first | (rw [e2 0 (by omega), e2 1 (by omega)]; done) | (rw [e2 0 (by omega), e2 1 (by omega)]; rfl)) ?_
  refine iw_putF (ty := .object "BayerGate") hx hb hts iu_X7_init_7 tyX7 tyX7_ok nmX7 hown hK hP hD hS (by omega) (k2_0) rfl 0 (by decide) (hts _ il_X7_init_10) (fun _ h9 => h9) rfl hin rfl (by decide +kernel) rfl rfl (Nat.le_of_ble_eq_true rfl) rfl dX7_init_12 (fun H locs hP hD hS => ?_)
  refine lv_aload_n hx hb dX7_init_15 rfl (lv_at hl 0 rfl) ?_
  refine lv_bipush (v := nI 64) hx hb dX7_init_16 (by decide) ?_
  refine lv_iconst (v := nI 3) hx hb dX7_init_18 (by decide) ?_
  refine iw_multi hx hb hown (hts _ il_X7_init_16) (vx_ag hV) (hts _ il_X7_init_arrint) hK hP hD hS hA (Nat.le_of_ble_eq_true rfl) (Nat.le_of_ble_eq_true rfl) dX7_init_19 (fun ad3 C3 H e3 c3 n3 m3 hP hD hS => ?_)
  have k3_0 : C3 0 = ob 7 [.ref (ad3 1), .null, .int (nI 0), .null, .null, .null, .null, .int (nI 0), .null, .null, .null, .null] := (c3 _ (by omega)).trans ((va_us _ _ _).trans (by first | (rw [e3 1 (by omega)]; done) | (rw [e3 1 (by omega)]; rfl)))
  have q3_cam := Cam_gr e3 c3 (by omega) (by omega) (Cam_up hc2 (by omega))
  have ea3 : ∀ j, j < 1 → ad3 j = ad j := fun j h => (e3 j (by omega)).trans (ea2 j h)
  have ca3 : ∀ j, j < 0 → C3 j = C j := fun j h => (c3 j (by omega)).trans ((va_un _ _ (by omega)).trans (ca2 j h))
  have hl : lv_has ls 3 [(0, .ref (ad3 0)), (1, .ref b), (2, .int (nI d))] := by rw [e3 0 (by omega)]; exact hl
  refine W.eq (g2 := F0 m 23 ls [.ref (ad3 75), .ref (ad3 0)]) (by first | (rw [e3 0 (by omega)]; done) | (rw [e3 0 (by omega)]; rfl)) ?_
  have ts3 : isTs G ad3 C3 140 (fun _ => 0) := ⟨by omega, _, fun i => 76 + i, fun _ _ => nI 0, n3, fun i hi => ⟨rfl, (by show 76 ≤ 76 + i; omega), (by show 76 + i < 140; omega), Or.inl (by show 76 + i < 140; omega), m3 i hi, fun q hq => rfl⟩⟩
  refine iw_put (ty := .array (.array (.int))) hx hb hts iu_X7_init_7 tyX7 tyX7_ok nmX7 hown hK hP hD hS (by omega) (k3_0) rfl 3 (by decide) (hts _ il_X7_init_18) (fun _ h9 => h9) rfl (by decide +kernel) rfl rfl (Nat.le_of_ble_eq_true rfl) rfl dX7_init_23 (fun H locs hP hD hS => ?_)
  refine lv_aload_n hx hb dX7_init_26 rfl (lv_at hl 0 rfl) ?_
  refine lv_iconst (v := nI 3) hx hb dX7_init_27 (by decide) ?_
  refine iw_newI (N' := 3) hx hb (hts _ il_X7_init_arrint) hK hP hD hS hA (by decide) (by decide) (Nat.le_of_ble_eq_true rfl) (Nat.le_of_ble_eq_true rfl) (Nat.le_of_ble_eq_true rfl) dX7_init_28 (fun ad4 C4 H e4 c4 n4 hP hD hS => ?_)
  have k4_0 : C4 0 = ob 7 [.ref (ad4 1), .null, .int (nI 0), .ref (ad4 75), .null, .null, .null, .int (nI 0), .null, .null, .null, .null] := (c4 _ (by omega)).trans ((va_us _ _ _).trans (by first | (rw [e4 1 (by omega), e4 75 (by omega)]; done) | (rw [e4 1 (by omega), e4 75 (by omega)]; rfl)))
  have q4_cam := Cam_gr e4 c4 (by omega) (by omega) (Cam_up q3_cam (by omega))
  have q4_ts := isTs_gr e4 c4 (by omega) (by omega) (isTs_up ts3 (by omega))
  have ea4 : ∀ j, j < 1 → ad4 j = ad j := fun j h => (e4 j (by omega)).trans (ea3 j h)
  have ca4 : ∀ j, j < 0 → C4 j = C j := fun j h => (c4 j (by omega)).trans ((va_un _ _ (by omega)).trans (ca3 j h))
  have hl : lv_has ls 3 [(0, .ref (ad4 0)), (1, .ref b), (2, .int (nI d))] := by rw [e4 0 (by omega)]; exact hl
  refine W.eq (g2 := F0 m 30 ls [.ref (ad4 140), .ref (ad4 0)]) (by first | (rw [e4 0 (by omega)]; done) | (rw [e4 0 (by omega)]; rfl)) ?_
  refine lv_dup hx hb dX7_init_30 rfl ?_
  refine lv_iconst (v := nI 0) hx hb dX7_init_31 (by decide) ?_
  refine lv_iconst (v := nI 4) hx hb dX7_init_32 (by decide) ?_
  refine iw_iast hx hb hK hP hD hS (by omega) (n4) (vp_in_nI (show 0 < 3 by omega) (by omega)) (nI_clamp (by omega)) dX7_init_33 (fun H locs hP hD hS => ?_)
  refine lv_dup hx hb dX7_init_34 rfl ?_
  refine lv_iconst (v := nI 1) hx hb dX7_init_35 (by decide) ?_
  refine lv_iconst (v := nI 4) hx hb dX7_init_36 (by decide) ?_
  refine iw_iast hx hb hK hP hD hS (by omega) (va_us _ _ _) (vp_in_nI (show 1 < 3 by omega) (by omega)) (nI_clamp (by omega)) dX7_init_37 (fun H locs hP hD hS => ?_)
  rw [va_uu _ _ _ _] at hP hD
  refine lv_dup hx hb dX7_init_38 rfl ?_
  refine lv_iconst (v := nI 2) hx hb dX7_init_39 (by decide) ?_
  refine lv_iconst (v := nI 4) hx hb dX7_init_40 (by decide) ?_
  refine iw_iast hx hb hK hP hD hS (by omega) (va_us _ _ _) (vp_in_nI (show 2 < 3 by omega) (by omega)) (nI_clamp (by omega)) dX7_init_41 (fun H locs hP hD hS => ?_)
  rw [va_uu _ _ _ _] at hP hD
  refine iw_put (ty := .array (.int)) hx hb hts iu_X7_init_7 tyX7 tyX7_ok nmX7 hown hK hP hD hS (by omega) ((va_un _ _ (by omega)).trans (k4_0)) rfl 4 (by decide) (hts _ il_X7_init_21) (fun _ h9 => h9) rfl (by decide +kernel) rfl rfl (Nat.le_of_ble_eq_true rfl) rfl dX7_init_42 (fun H locs hP hD hS => ?_)
  refine lv_aload_n hx hb dX7_init_45 rfl (lv_at hl 0 rfl) ?_
  refine lv_bipush (v := nI 64) hx hb dX7_init_46 (by decide) ?_
  refine iw_newI (N' := 64) hx hb (hts _ il_X7_init_arrint) hK hP hD hS hA (by decide) (by decide) (Nat.le_of_ble_eq_true rfl) (Nat.le_of_ble_eq_true rfl) (Nat.le_of_ble_eq_true rfl) dX7_init_48 (fun ad5 C5 H e5 c5 n5 hP hD hS => ?_)
  have k5_0 : C5 0 = ob 7 [.ref (ad5 1), .null, .int (nI 0), .ref (ad5 75), .ref (ad5 140), .null, .null, .int (nI 0), .null, .null, .null, .null] := (c5 _ (by omega)).trans ((va_us _ _ _).trans (by first | (rw [e5 1 (by omega), e5 75 (by omega), e5 140 (by omega)]; done) | (rw [e5 1 (by omega), e5 75 (by omega), e5 140 (by omega)]; rfl)))
  have k5_140 : C5 140 = ia G 3 (upd (upd (upd (fun _ => nI 0) 0 (nI 4)) 1 (nI 4)) 2 (nI 4)) := (c5 _ (by omega)).trans ((va_un _ _ (by omega)).trans (va_us _ _ _))
  have q5_cam := Cam_gr e5 c5 (by omega) (by omega) (Cam_up (Cam_up q4_cam (by omega)) (by omega))
  have q5_ts := isTs_gr e5 c5 (by omega) (by omega) (isTs_up (isTs_up q4_ts (by omega)) (by omega))
  have ea5 : ∀ j, j < 1 → ad5 j = ad j := fun j h => (e5 j (by omega)).trans (ea4 j h)
  have ca5 : ∀ j, j < 0 → C5 j = C j := fun j h => (c5 j (by omega)).trans ((va_un _ _ (by omega)).trans ((va_un _ _ (by omega)).trans (ca4 j h)))
  have hl : lv_has ls 3 [(0, .ref (ad5 0)), (1, .ref b), (2, .int (nI d))] := by rw [e5 0 (by omega)]; exact hl
  refine W.eq (g2 := F0 m 50 ls [.ref (ad5 141), .ref (ad5 0)]) (by first | (rw [e5 0 (by omega)]; done) | (rw [e5 0 (by omega)]; rfl)) ?_
  refine iw_put (ty := .array (.int)) hx hb hts iu_X7_init_7 tyX7 tyX7_ok nmX7 hown hK hP hD hS (by omega) (k5_0) rfl 5 (by decide) (hts _ il_X7_init_25) (fun _ h9 => h9) rfl (by decide +kernel) rfl rfl (Nat.le_of_ble_eq_true rfl) rfl dX7_init_50 (fun H locs hP hD hS => ?_)
  refine lv_aload_n hx hb dX7_init_53 rfl (lv_at hl 0 rfl) ?_
  refine lv_bipush (v := nI 64) hx hb dX7_init_54 (by decide) ?_
  refine iw_newZ (N' := 64) hx hb (hts _ il_X7_init_arrboolean) hK hP hD hS hA (by decide) (by decide) (Nat.le_of_ble_eq_true rfl) (Nat.le_of_ble_eq_true rfl) (Nat.le_of_ble_eq_true rfl) dX7_init_56 (fun ad6 C6 H e6 c6 n6 hP hD hS => ?_)
  have k6_0 : C6 0 = ob 7 [.ref (ad6 1), .null, .int (nI 0), .ref (ad6 75), .ref (ad6 140), .ref (ad6 141), .null, .int (nI 0), .null, .null, .null, .null] := (c6 _ (by omega)).trans ((va_us _ _ _).trans (by first | (rw [e6 1 (by omega), e6 75 (by omega), e6 140 (by omega), e6 141 (by omega)]; done) | (rw [e6 1 (by omega), e6 75 (by omega), e6 140 (by omega), e6 141 (by omega)]; rfl)))
  have k6_140 : C6 140 = ia G 3 (upd (upd (upd (fun _ => nI 0) 0 (nI 4)) 1 (nI 4)) 2 (nI 4)) := (c6 _ (by omega)).trans ((va_un _ _ (by omega)).trans (k5_140))
  have k6_141 : C6 141 = ia G 64 (fun _ => nI 0) := (c6 _ (by omega)).trans ((va_un _ _ (by omega)).trans (n5))
  have q6_cam := Cam_gr e6 c6 (by omega) (by omega) (Cam_up q5_cam (by omega))
  have q6_ts := isTs_gr e6 c6 (by omega) (by omega) (isTs_up q5_ts (by omega))
  have ea6 : ∀ j, j < 1 → ad6 j = ad j := fun j h => (e6 j (by omega)).trans (ea5 j h)
  have ca6 : ∀ j, j < 0 → C6 j = C j := fun j h => (c6 j (by omega)).trans ((va_un _ _ (by omega)).trans (ca5 j h))
  have hl : lv_has ls 3 [(0, .ref (ad6 0)), (1, .ref b), (2, .int (nI d))] := by rw [e6 0 (by omega)]; exact hl
  refine W.eq (g2 := F0 m 58 ls [.ref (ad6 142), .ref (ad6 0)]) (by first | (rw [e6 0 (by omega)]; done) | (rw [e6 0 (by omega)]; rfl)) ?_
  refine iw_put (ty := .array (.boolean)) hx hb hts iu_X7_init_7 tyX7 tyX7_ok nmX7 hown hK hP hD hS (by omega) (k6_0) rfl 6 (by decide) (hts _ il_X7_init_28) (fun _ h9 => h9) rfl (by decide +kernel) rfl rfl (Nat.le_of_ble_eq_true rfl) rfl dX7_init_58 (fun H locs hP hD hS => ?_)
  refine lv_aload_n hx hb dX7_init_61 rfl (lv_at hl 0 rfl) ?_
  refine lv_iconst (v := nI 0) hx hb dX7_init_62 (by decide) ?_
  refine iw_newg (N' := 0) hx hb hown (hts _ il_X7_init_32) (vx_ag hV) hK hP hD hS hA (by decide) (by decide) (Nat.le_of_ble_eq_true rfl) (Nat.le_of_ble_eq_true rfl) (Nat.le_of_ble_eq_true rfl) dX7_init_63 (fun ad7 C7 H e7 c7 n7 hP hD hS => ?_)
  have k7_0 : C7 0 = ob 7 [.ref (ad7 1), .null, .int (nI 0), .ref (ad7 75), .ref (ad7 140), .ref (ad7 141), .ref (ad7 142), .int (nI 0), .null, .null, .null, .null] := (c7 _ (by omega)).trans ((va_us _ _ _).trans (by first | (rw [e7 1 (by omega), e7 75 (by omega), e7 140 (by omega), e7 141 (by omega), e7 142 (by omega)]; done) | (rw [e7 1 (by omega), e7 75 (by omega), e7 140 (by omega), e7 141 (by omega), e7 142 (by omega)]; rfl)))
  have k7_140 : C7 140 = ia G 3 (upd (upd (upd (fun _ => nI 0) 0 (nI 4)) 1 (nI 4)) 2 (nI 4)) := (c7 _ (by omega)).trans ((va_un _ _ (by omega)).trans (k6_140))
  have k7_141 : C7 141 = ia G 64 (fun _ => nI 0) := (c7 _ (by omega)).trans ((va_un _ _ (by omega)).trans (k6_141))
  have k7_142 : C7 142 = za G 64 (fun _ => nI 0) := (c7 _ (by omega)).trans ((va_un _ _ (by omega)).trans (n6))
  have q7_cam := Cam_gr e7 c7 (by omega) (by omega) (Cam_up q6_cam (by omega))
  have q7_ts := isTs_gr e7 c7 (by omega) (by omega) (isTs_up q6_ts (by omega))
  have ea7 : ∀ j, j < 1 → ad7 j = ad j := fun j h => (e7 j (by omega)).trans (ea6 j h)
  have ca7 : ∀ j, j < 0 → C7 j = C j := fun j h => (c7 j (by omega)).trans ((va_un _ _ (by omega)).trans (ca6 j h))
  have hl : lv_has ls 3 [(0, .ref (ad7 0)), (1, .ref b), (2, .int (nI d))] := by rw [e7 0 (by omega)]; exact hl
  refine W.eq (g2 := F0 m 66 ls [.ref (ad7 143), .ref (ad7 0)]) (by first | (rw [e7 0 (by omega)]; done) | (rw [e7 0 (by omega)]; rfl)) ?_
  refine iw_put (ty := .array (.array (.int))) hx hb hts iu_X7_init_7 tyX7 tyX7_ok nmX7 hown hK hP hD hS (by omega) (k7_0) rfl 8 (by decide) (hts _ il_X7_init_33) (fun _ h9 => h9) rfl (by decide +kernel) rfl rfl (Nat.le_of_ble_eq_true rfl) rfl dX7_init_66 (fun H locs hP hD hS => ?_)
  refine lv_aload_n hx hb dX7_init_69 rfl (lv_at hl 0 rfl) ?_
  refine lv_iconst (v := nI 0) hx hb dX7_init_70 (by decide) ?_
  refine iw_newg (N' := 0) hx hb hown (hts _ il_X7_init_32) (vx_ag hV) hK hP hD hS hA (by decide) (by decide) (Nat.le_of_ble_eq_true rfl) (Nat.le_of_ble_eq_true rfl) (Nat.le_of_ble_eq_true rfl) dX7_init_71 (fun ad8 C8 H e8 c8 n8 hP hD hS => ?_)
  have k8_0 : C8 0 = ob 7 [.ref (ad8 1), .null, .int (nI 0), .ref (ad8 75), .ref (ad8 140), .ref (ad8 141), .ref (ad8 142), .int (nI 0), .ref (ad8 143), .null, .null, .null] := (c8 _ (by omega)).trans ((va_us _ _ _).trans (by first | (rw [e8 1 (by omega), e8 75 (by omega), e8 140 (by omega), e8 141 (by omega), e8 142 (by omega), e8 143 (by omega)]; done) | (rw [e8 1 (by omega), e8 75 (by omega), e8 140 (by omega), e8 141 (by omega), e8 142 (by omega), e8 143 (by omega)]; rfl)))
  have k8_140 : C8 140 = ia G 3 (upd (upd (upd (fun _ => nI 0) 0 (nI 4)) 1 (nI 4)) 2 (nI 4)) := (c8 _ (by omega)).trans ((va_un _ _ (by omega)).trans (k7_140))
  have k8_141 : C8 141 = ia G 64 (fun _ => nI 0) := (c8 _ (by omega)).trans ((va_un _ _ (by omega)).trans (k7_141))
  have k8_142 : C8 142 = za G 64 (fun _ => nI 0) := (c8 _ (by omega)).trans ((va_un _ _ (by omega)).trans (k7_142))
  have k8_143 : C8 143 = ra G 5 0 (fun _ => none) := (c8 _ (by omega)).trans ((va_un _ _ (by omega)).trans (n7))
  have q8_cam := Cam_gr e8 c8 (by omega) (by omega) (Cam_up q7_cam (by omega))
  have q8_ts := isTs_gr e8 c8 (by omega) (by omega) (isTs_up q7_ts (by omega))
  have ea8 : ∀ j, j < 1 → ad8 j = ad j := fun j h => (e8 j (by omega)).trans (ea7 j h)
  have ca8 : ∀ j, j < 0 → C8 j = C j := fun j h => (c8 j (by omega)).trans ((va_un _ _ (by omega)).trans (ca7 j h))
  have hl : lv_has ls 3 [(0, .ref (ad8 0)), (1, .ref b), (2, .int (nI d))] := by rw [e8 0 (by omega)]; exact hl
  refine W.eq (g2 := F0 m 74 ls [.ref (ad8 144), .ref (ad8 0)]) (by first | (rw [e8 0 (by omega)]; done) | (rw [e8 0 (by omega)]; rfl)) ?_
  refine iw_put (ty := .array (.array (.int))) hx hb hts iu_X7_init_7 tyX7 tyX7_ok nmX7 hown hK hP hD hS (by omega) (k8_0) rfl 9 (by decide) (hts _ il_X7_init_36) (fun _ h9 => h9) rfl (by decide +kernel) rfl rfl (Nat.le_of_ble_eq_true rfl) rfl dX7_init_74 (fun H locs hP hD hS => ?_)
  refine lv_aload_n hx hb dX7_init_77 rfl (lv_at hl 0 rfl) ?_
  refine lv_iconst (v := nI 0) hx hb dX7_init_78 (by decide) ?_
  refine iw_newg (N' := 0) hx hb hown (hts _ il_X7_init_32) (vx_ag hV) hK hP hD hS hA (by decide) (by decide) (Nat.le_of_ble_eq_true rfl) (Nat.le_of_ble_eq_true rfl) (Nat.le_of_ble_eq_true rfl) dX7_init_79 (fun ad9 C9 H e9 c9 n9 hP hD hS => ?_)
  have k9_0 : C9 0 = ob 7 [.ref (ad9 1), .null, .int (nI 0), .ref (ad9 75), .ref (ad9 140), .ref (ad9 141), .ref (ad9 142), .int (nI 0), .ref (ad9 143), .ref (ad9 144), .null, .null] := (c9 _ (by omega)).trans ((va_us _ _ _).trans (by first | (rw [e9 1 (by omega), e9 75 (by omega), e9 140 (by omega), e9 141 (by omega), e9 142 (by omega), e9 143 (by omega), e9 144 (by omega)]; done) | (rw [e9 1 (by omega), e9 75 (by omega), e9 140 (by omega), e9 141 (by omega), e9 142 (by omega), e9 143 (by omega), e9 144 (by omega)]; rfl)))
  have k9_140 : C9 140 = ia G 3 (upd (upd (upd (fun _ => nI 0) 0 (nI 4)) 1 (nI 4)) 2 (nI 4)) := (c9 _ (by omega)).trans ((va_un _ _ (by omega)).trans (k8_140))
  have k9_141 : C9 141 = ia G 64 (fun _ => nI 0) := (c9 _ (by omega)).trans ((va_un _ _ (by omega)).trans (k8_141))
  have k9_142 : C9 142 = za G 64 (fun _ => nI 0) := (c9 _ (by omega)).trans ((va_un _ _ (by omega)).trans (k8_142))
  have k9_143 : C9 143 = ra G 5 0 (fun _ => none) := (c9 _ (by omega)).trans ((va_un _ _ (by omega)).trans (k8_143))
  have k9_144 : C9 144 = ra G 5 0 (fun _ => none) := (c9 _ (by omega)).trans ((va_un _ _ (by omega)).trans (n8))
  have q9_cam := Cam_gr e9 c9 (by omega) (by omega) (Cam_up q8_cam (by omega))
  have q9_ts := isTs_gr e9 c9 (by omega) (by omega) (isTs_up q8_ts (by omega))
  have ea9 : ∀ j, j < 1 → ad9 j = ad j := fun j h => (e9 j (by omega)).trans (ea8 j h)
  have ca9 : ∀ j, j < 0 → C9 j = C j := fun j h => (c9 j (by omega)).trans ((va_un _ _ (by omega)).trans (ca8 j h))
  have hl : lv_has ls 3 [(0, .ref (ad9 0)), (1, .ref b), (2, .int (nI d))] := by rw [e9 0 (by omega)]; exact hl
  refine W.eq (g2 := F0 m 82 ls [.ref (ad9 145), .ref (ad9 0)]) (by first | (rw [e9 0 (by omega)]; done) | (rw [e9 0 (by omega)]; rfl)) ?_
  refine iw_put (ty := .array (.array (.int))) hx hb hts iu_X7_init_7 tyX7 tyX7_ok nmX7 hown hK hP hD hS (by omega) (k9_0) rfl 10 (by decide) (hts _ il_X7_init_39) (fun _ h9 => h9) rfl (by decide +kernel) rfl rfl (Nat.le_of_ble_eq_true rfl) rfl dX7_init_82 (fun H locs hP hD hS => ?_)
  refine lv_aload_n hx hb dX7_init_85 rfl (lv_at hl 0 rfl) ?_
  refine lv_iconst (v := nI 0) hx hb dX7_init_86 (by decide) ?_
  refine iw_newg (N' := 0) hx hb hown (hts _ il_X7_init_32) (vx_ag hV) hK hP hD hS hA (by decide) (by decide) (Nat.le_of_ble_eq_true rfl) (Nat.le_of_ble_eq_true rfl) (Nat.le_of_ble_eq_true rfl) dX7_init_87 (fun ad10 C10 H e10 c10 n10 hP hD hS => ?_)
  have k10_0 : C10 0 = ob 7 [.ref (ad10 1), .null, .int (nI 0), .ref (ad10 75), .ref (ad10 140), .ref (ad10 141), .ref (ad10 142), .int (nI 0), .ref (ad10 143), .ref (ad10 144), .ref (ad10 145), .null] := (c10 _ (by omega)).trans ((va_us _ _ _).trans (by first | (rw [e10 1 (by omega), e10 75 (by omega), e10 140 (by omega), e10 141 (by omega), e10 142 (by omega), e10 143 (by omega), e10 144 (by omega), e10 145 (by omega)]; done) | (rw [e10 1 (by omega), e10 75 (by omega), e10 140 (by omega), e10 141 (by omega), e10 142 (by omega), e10 143 (by omega), e10 144 (by omega), e10 145 (by omega)]; rfl)))
  have k10_140 : C10 140 = ia G 3 (upd (upd (upd (fun _ => nI 0) 0 (nI 4)) 1 (nI 4)) 2 (nI 4)) := (c10 _ (by omega)).trans ((va_un _ _ (by omega)).trans (k9_140))
  have k10_141 : C10 141 = ia G 64 (fun _ => nI 0) := (c10 _ (by omega)).trans ((va_un _ _ (by omega)).trans (k9_141))
  have k10_142 : C10 142 = za G 64 (fun _ => nI 0) := (c10 _ (by omega)).trans ((va_un _ _ (by omega)).trans (k9_142))
  have k10_143 : C10 143 = ra G 5 0 (fun _ => none) := (c10 _ (by omega)).trans ((va_un _ _ (by omega)).trans (k9_143))
  have k10_144 : C10 144 = ra G 5 0 (fun _ => none) := (c10 _ (by omega)).trans ((va_un _ _ (by omega)).trans (k9_144))
  have k10_145 : C10 145 = ra G 5 0 (fun _ => none) := (c10 _ (by omega)).trans ((va_un _ _ (by omega)).trans (n9))
  have q10_cam := Cam_gr e10 c10 (by omega) (by omega) (Cam_up q9_cam (by omega))
  have q10_ts := isTs_gr e10 c10 (by omega) (by omega) (isTs_up q9_ts (by omega))
  have ea10 : ∀ j, j < 1 → ad10 j = ad j := fun j h => (e10 j (by omega)).trans (ea9 j h)
  have ca10 : ∀ j, j < 0 → C10 j = C j := fun j h => (c10 j (by omega)).trans ((va_un _ _ (by omega)).trans (ca9 j h))
  have hl : lv_has ls 3 [(0, .ref (ad10 0)), (1, .ref b), (2, .int (nI d))] := by rw [e10 0 (by omega)]; exact hl
  refine W.eq (g2 := F0 m 90 ls [.ref (ad10 146), .ref (ad10 0)]) (by first | (rw [e10 0 (by omega)]; done) | (rw [e10 0 (by omega)]; rfl)) ?_
  refine iw_put (ty := .array (.array (.int))) hx hb hts iu_X7_init_7 tyX7 tyX7_ok nmX7 hown hK hP hD hS (by omega) (k10_0) rfl 11 (by decide) (hts _ il_X7_init_42) (fun _ h9 => h9) rfl (by decide +kernel) rfl rfl (Nat.le_of_ble_eq_true rfl) rfl dX7_init_90 (fun H locs hP hD hS => ?_)
  refine lv_aload_n hx hb dX7_init_93 rfl (lv_at hl 0 rfl) ?_
  refine lv_aload_n hx hb dX7_init_94 rfl (lv_at hl 1 rfl) ?_
  refine iw_putF (ty := .array (.int)) hx hb hts iu_X7_init_7 tyX7 tyX7_ok nmX7 hown hK hP hD hS (by omega) (va_us _ _ _) rfl 1 (by decide) (hts _ il_X7_init_45) (fun _ h9 => h9) rfl hin rfl (by decide +kernel) rfl rfl (Nat.le_of_ble_eq_true rfl) rfl dX7_init_95 (fun H locs hP hD hS => ?_)
  rw [va_uu _ _ _ _] at hP hD
  refine lv_aload_n hx hb dX7_init_98 rfl (lv_at hl 0 rfl) ?_
  refine lv_iload_n hx hb dX7_init_99 rfl (lv_at hl 2 rfl) ?_
  refine iw_put (ty := .int) hx hb hts iu_X7_init_7 tyX7 tyX7_ok nmX7 hown hK hP hD hS (by omega) (va_us _ _ _) rfl 2 (by decide) (hts _ il_X7_init_48) (fun _ h9 => h9) rfl (by decide +kernel) rfl rfl (Nat.le_of_ble_eq_true rfl) rfl dX7_init_100 (fun H locs hP hD hS => ?_)
  rw [va_uu _ _ _ _] at hP hD
  refine W.widen (k := 146) (n := 1949) (Nat.le_of_ble_eq_true rfl) (Nat.le_of_ble_eq_true rfl) ?_
  have z_0 : (va_up C10 0 (ob 7 [.ref (ad10 1), .ref b, .int (nI d), .ref (ad10 75), .ref (ad10 140), .ref (ad10 141), .ref (ad10 142), .int (nI 0), .ref (ad10 143), .ref (ad10 144), .ref (ad10 145), .ref (ad10 146)])) 0 = ob 7 [.ref (ad10 1), .ref b, .int (nI d), .ref (ad10 75), .ref (ad10 140), .ref (ad10 141), .ref (ad10 142), .int (nI 0), .ref (ad10 143), .ref (ad10 144), .ref (ad10 145), .ref (ad10 146)] := va_us _ _ _
  have z_140 : (va_up C10 0 (ob 7 [.ref (ad10 1), .ref b, .int (nI d), .ref (ad10 75), .ref (ad10 140), .ref (ad10 141), .ref (ad10 142), .int (nI 0), .ref (ad10 143), .ref (ad10 144), .ref (ad10 145), .ref (ad10 146)])) 140 = ia G 3 (upd (upd (upd (fun _ => nI 0) 0 (nI 4)) 1 (nI 4)) 2 (nI 4)) := (va_un _ _ (by omega)).trans (k10_140)
  have z_141 : (va_up C10 0 (ob 7 [.ref (ad10 1), .ref b, .int (nI d), .ref (ad10 75), .ref (ad10 140), .ref (ad10 141), .ref (ad10 142), .int (nI 0), .ref (ad10 143), .ref (ad10 144), .ref (ad10 145), .ref (ad10 146)])) 141 = ia G 64 (fun _ => nI 0) := (va_un _ _ (by omega)).trans (k10_141)
  have z_143 : (va_up C10 0 (ob 7 [.ref (ad10 1), .ref b, .int (nI d), .ref (ad10 75), .ref (ad10 140), .ref (ad10 141), .ref (ad10 142), .int (nI 0), .ref (ad10 143), .ref (ad10 144), .ref (ad10 145), .ref (ad10 146)])) 143 = ra G 5 0 (fun _ => none) := (va_un _ _ (by omega)).trans (k10_143)
  have z_144 : (va_up C10 0 (ob 7 [.ref (ad10 1), .ref b, .int (nI d), .ref (ad10 75), .ref (ad10 140), .ref (ad10 141), .ref (ad10 142), .int (nI 0), .ref (ad10 143), .ref (ad10 144), .ref (ad10 145), .ref (ad10 146)])) 144 = ra G 5 0 (fun _ => none) := (va_un _ _ (by omega)).trans (k10_144)
  have z_145 : (va_up C10 0 (ob 7 [.ref (ad10 1), .ref b, .int (nI d), .ref (ad10 75), .ref (ad10 140), .ref (ad10 141), .ref (ad10 142), .int (nI 0), .ref (ad10 143), .ref (ad10 144), .ref (ad10 145), .ref (ad10 146)])) 145 = ra G 5 0 (fun _ => none) := (va_un _ _ (by omega)).trans (k10_145)
  have z_146 : (va_up C10 0 (ob 7 [.ref (ad10 1), .ref b, .int (nI d), .ref (ad10 75), .ref (ad10 140), .ref (ad10 141), .ref (ad10 142), .int (nI 0), .ref (ad10 143), .ref (ad10 144), .ref (ad10 145), .ref (ad10 146)])) 146 = ra G 5 0 (fun _ => none) := (va_un _ _ (by omega)).trans (n10)
  exact W.vret hx hb hr (fun t ht hW => ⟨⟨(ad10, va_up C10 0 (ob 7 [.ref (ad10 1), .ref b, .int (nI d), .ref (ad10 75), .ref (ad10 140), .ref (ad10 141), .ref (ad10 142), .int (nI 0), .ref (ad10 143), .ref (ad10 144), .ref (ad10 145), .ref (ad10 146)])), rfl, ⟨ea10, fun j h => (va_un _ _ (by omega)).trans (ca10 j h), (Cam_N (Cam_up q10_cam (by omega)) (by omega)), (isTs_up q10_ts (by omega)), z_0, ⟨upd (upd (upd (fun _ => nI 0) 0 (nI 4)) 1 (nI 4)) 2 (nI 4), z_140, fun i hi => by rcases (show i = 0 ∨ i = 1 ∨ i = 2 by omega) with rfl | rfl | rfl <;> rfl⟩, z_141, ⟨fun _ => none, z_143⟩, ⟨fun _ => none, z_144⟩, ⟨fun _ => none, z_145⟩, ⟨fun _ => none, z_146⟩⟩, ⟨by rw [ht]; exact hP, hD⟩⟩, hS.F ht⟩) hS.2.2 dX7_init_103
