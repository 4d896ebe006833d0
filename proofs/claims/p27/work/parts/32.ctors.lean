set_option maxRecDepth 20000 in
theorem ggX1_init_X0_init : GoodIn wsX1_init wsX0_init := goodIn_r _ [14, 15, 2, 3, 4, 16, 17, 18, 24, 25, 26] (by decide +kernel) (by decide +kernel)
set_option maxRecDepth 20000 in
theorem gX1_init_X0_init_n17 : GoodIn wsX1_init (wsX0_init) := ggX1_init_X0_init
set_option maxRecDepth 20000 in
theorem ggX5_init_X0_init : GoodIn wsX5_init wsX0_init := goodIn_r _ [11, 12, 2, 3, 13, 14, 15, 16, 17, 18, 19] (by decide +kernel) (by decide +kernel)
set_option maxRecDepth 20000 in
theorem gX5_init_X0_init_n9 : GoodIn wsX5_init (wsX0_init) := ggX5_init_X0_init
set_option maxRecDepth 20000 in
theorem ggX6_init_X3_init : GoodIn wsX6_init wsX3_init := goodIn_r _ [30, 31, 2, 3, 32, 33, 34, 35, 36, 73, 74, 75] (by decide +kernel) (by decide +kernel)
set_option maxRecDepth 20000 in
theorem gX6_init_X3_init : GoodIn wsX6_init (wsX3_init) := ggX6_init_X3_init
set_option maxRecDepth 20000 in
theorem ggX6_init_X4_init : GoodIn wsX6_init wsX4_init := goodIn_r _ [38, 39, 2, 3, 32, 40, 41, 42, 43, 85, 86, 87] (by decide +kernel) (by decide +kernel)
set_option maxRecDepth 20000 in
theorem gX6_init_X4_init_n18 : GoodIn wsX6_init (wsX4_init) := ggX6_init_X4_init
set_option maxRecDepth 20000 in
theorem ggX6_init_X1_init : GoodIn wsX6_init wsX1_init := goodIn_r _ [45, 46, 2, 3, 32, 47, 48, 49, 50, 51, 52, 53, 54, 55, 56, 57, 58, 59, 60, 88, 89, 90, 91, 92, 98, 99, 100] (by decide +kernel) (by decide +kernel)
set_option maxRecDepth 20000 in
theorem gX6_init_X1_init_n42 : GoodIn wsX6_init (wsX1_init) := ggX6_init_X1_init
set_option maxRecDepth 20000 in
theorem ggX6_init_X2_init : GoodIn wsX6_init wsX2_init := goodIn_r _ [62, 63, 2, 3, 34, 64, 32, 65, 93, 94] (by decide +kernel) (by decide +kernel)
set_option maxRecDepth 20000 in
theorem gX6_init_X2_init_n49 : GoodIn wsX6_init (wsX2_init) := ggX6_init_X2_init
set_option maxRecDepth 20000 in
theorem ggX6_init_X5_init : GoodIn wsX6_init wsX5_init := goodIn_r _ [67, 68, 2, 3, 69, 49, 50, 70, 71, 72, 55, 56, 57, 32, 58, 59, 60, 98, 99, 100, 95, 96, 97] (by decide +kernel) (by decide +kernel)
set_option maxRecDepth 20000 in
theorem gX6_init_X5_init_n57 : GoodIn wsX6_init (wsX5_init) := ggX6_init_X5_init
abbrev rmX0_init : Room := { frames := 1, cells := 2, slots := 12, locals := 18 }
set_option maxRecDepth 20000 in
theorem il_X0_init_3 : (Cond.methodLink RX0 3 objectInit) ∈ wsX0_init := by decide +kernel
set_option maxRecDepth 20000 in
theorem il_X0_init_imobj : (Cond.instanceMethod objectInit) ∈ wsX0_init := by decide +kernel
set_option maxRecDepth 20000 in
theorem il_X0_init_codeobj : (Cond.code objectInit ⟨#[0xb1]⟩ 1 none) ∈ wsX0_init := by decide +kernel
set_option maxRecDepth 20000 in
theorem il_X0_init_arrint : (Cond.arrayClass .int) ∈ wsX0_init := by decide +kernel
set_option maxRecDepth 20000 in
theorem il_X0_init_9 : (Cond.fieldLink RX0 9 "BayerGate$EditRow" "kinds" "[I") ∈ wsX0_init := by decide +kernel
set_option maxRecDepth 20000 in
theorem iu_X0_init_0 : ∀ w ∈ u_ws RX0 TX0 3, w ∈ wsX0_init := by decide +kernel
set_option maxRecDepth 20000 in
theorem il_X0_init_15 : (Cond.fieldLink RX0 15 "BayerGate$EditRow" "numbers" "[I") ∈ wsX0_init := by decide +kernel
set_option maxRecDepth 20000 in
theorem il_X0_init_18 : (Cond.fieldLink RX0 18 "BayerGate$EditRow" "length" "I") ∈ wsX0_init := by decide +kernel
set_option maxHeartbeats 4000000 in
set_option maxRecDepth 100000 in
theorem kX0_init (l : Launch) (G : iG) (N : Nat) (ad : Nat → Nat) (C : Nat → va_E) (h0 : C N = ob 0 [.null, .null, .int (nI 0)]) (sz : Nat) : Met l yX0_init wsX0_init rmX0_init (iPre G (N + 1) ad C sz [.ref (ad N)]) (va_Qv (fun (u : iU) => (∀ j, j < N + 1 → u.1 j = ad j) ∧ (∀ j, j < N → u.2 j = C j) ∧ isEr G u.1 u.2 N (fun _ => 0, fun _ => 0, 0)) (iB2 G (N + 3) (iA (N + 1) ad sz)) (iA (N + 1) ad sz)) 2 12 (iA (N + 1) ad sz) := by
  refine Met.ofW (cc := cX0_init) (maxL := 1) (ret := none) (by decide) rfl ?_
  intro p e s m args below meth c s₁ B hml hv
  obtain ⟨rfl, hsz, hP, hK, hD0⟩ := hv
  have hx := B.exec
  have hb := B.bytes
  have hr := B.returns
  have hts := atoms_spec (ws := wsX0_init) B.pre
  have hown : s.vm.findClass RX0 = some m.cls := findClass_of_methodNamed B.named
  have hlocks := B.notSynchronized
  have hin : meth.name = "<init>" := (name_of_methodNamed B.named B.method).1
  subst hsz
  have hD := wl_self hD0 s.heap.size
  have hA : ∀ q : Nat, s.heap.size ≤ q → iA (N + 1) ad s.heap.size q := fun q h => Or.inr h
  have hS : va_S (iA (N + 1) ad s.heap.size) s.heap s.heap [] := va_S.rf
  have hP : va_P G.1 vwB (wl (N + 1) ad C) s.heap := hP
  have hl := lv_entry ([.ref (ad N)]) (n := 1) (Nat.le_of_ble_eq_true rfl)
  rw [lg_entry_eq]
  generalize (lg_sl ([.ref (ad N)]) ++ List.replicate (1 - (lg_sl ([.ref (ad N)])).length) Slot.unset).toArray = ls at hl ⊢
  have hl : lv_has ls 1 [(0, .ref (ad N))] := hl
  refine lv_aload_n hx hb dX0_init_0 rfl (lv_at hl 0 rfl) ?_
  refine W.objInit hx hb hown (hts _ il_X0_init_3) (hts _ il_X0_init_imobj) (hts _ il_X0_init_codeobj) rfl (by rw [hml]; exact hl.1) rfl dX0_init_1 (Nat.le_of_ble_eq_true rfl) (Nat.le_of_ble_eq_true rfl) ?_
  refine W.eq (g2 := F0 m 4 ls []) rfl ?_
  refine lv_aload_n hx hb dX0_init_4 rfl (lv_at hl 0 rfl) ?_
  refine lv_bipush (v := nI 6) hx hb dX0_init_5 (by decide) ?_
  refine iw_newI (N' := 6) hx hb (hts _ il_X0_init_arrint) hK hP hD hS hA (by decide) (by decide) (Nat.le_of_ble_eq_true rfl) (Nat.le_of_ble_eq_true rfl) (Nat.le_of_ble_eq_true rfl) dX0_init_7 (fun ad1 C1 H e1 c1 n1 hP hD hS => ?_)
  have k1_N : C1 N = ob 0 [.null, .null, .int (nI 0)] := (c1 _ (by omega)).trans (h0)
  have ea1 : ∀ j, j < N + 1 → ad1 j = ad j := fun j h => e1 j (by omega)
  have ca1 : ∀ j, j < N → C1 j = C j := fun j h => (c1 j (by omega)).trans (rfl)
  have hl : lv_has ls 1 [(0, .ref (ad1 N))] := by rw [e1 N (by omega)]; exact hl
  refine W.eq (g2 := F0 m 9 ls [.ref (ad1 (N + 1)), .ref (ad1 N)]) (by first | (rw [e1 N (by omega)]; done) | (rw [e1 N (by omega)]; rfl)) ?_
  refine iw_putF (ty := .array (.int)) hx hb hts iu_X0_init_0 tyX0 tyX0_ok nmX0 hown hK hP hD hS (by omega) (k1_N) rfl 0 (by decide) (hts _ il_X0_init_9) (fun _ h9 => h9) rfl hin rfl (by decide +kernel) rfl rfl (Nat.le_of_ble_eq_true rfl) rfl dX0_init_9 (fun H locs hP hD hS => ?_)
  refine lv_aload_n hx hb dX0_init_12 rfl (lv_at hl 0 rfl) ?_
  refine lv_bipush (v := nI 6) hx hb dX0_init_13 (by decide) ?_
  refine iw_newI (N' := 6) hx hb (hts _ il_X0_init_arrint) hK hP hD hS hA (by decide) (by decide) (Nat.le_of_ble_eq_true rfl) (Nat.le_of_ble_eq_true rfl) (Nat.le_of_ble_eq_true rfl) dX0_init_15 (fun ad2 C2 H e2 c2 n2 hP hD hS => ?_)
  have k2_N : C2 N = ob 0 [.ref (ad2 (N + 1)), .null, .int (nI 0)] := (c2 _ (by omega)).trans ((va_us _ _ _).trans (by first | (rw [e2 (N + 1) (by omega)]; done) | (rw [e2 (N + 1) (by omega)]; rfl)))
  have k2_N_1 : C2 (N + 1) = ia G 6 (fun _ => nI 0) := (c2 _ (by omega)).trans ((va_un _ _ (by omega)).trans (n1))
  have ea2 : ∀ j, j < N + 1 → ad2 j = ad j := fun j h => (e2 j (by omega)).trans (ea1 j h)
  have ca2 : ∀ j, j < N → C2 j = C j := fun j h => (c2 j (by omega)).trans ((va_un _ _ (by omega)).trans (ca1 j h))
  have hl : lv_has ls 1 [(0, .ref (ad2 N))] := by rw [e2 N (by omega)]; exact hl
  refine W.eq (g2 := F0 m 17 ls [.ref (ad2 (N + 2)), .ref (ad2 N)]) (by first | (rw [e2 N (by omega)]; done) | (rw [e2 N (by omega)]; rfl)) ?_
  refine iw_putF (ty := .array (.int)) hx hb hts iu_X0_init_0 tyX0 tyX0_ok nmX0 hown hK hP hD hS (by omega) (k2_N) rfl 1 (by decide) (hts _ il_X0_init_15) (fun _ h9 => h9) rfl hin rfl (by decide +kernel) rfl rfl (Nat.le_of_ble_eq_true rfl) rfl dX0_init_17 (fun H locs hP hD hS => ?_)
  refine lv_aload_n hx hb dX0_init_20 rfl (lv_at hl 0 rfl) ?_
  refine lv_iconst (v := nI 0) hx hb dX0_init_21 (by decide) ?_
  refine iw_put (ty := .int) hx hb hts iu_X0_init_0 tyX0 tyX0_ok nmX0 hown hK hP hD hS (by omega) (va_us _ _ _) rfl 2 (by decide) (hts _ il_X0_init_18) (fun _ h9 => h9) rfl (by decide +kernel) rfl rfl (Nat.le_of_ble_eq_true rfl) rfl dX0_init_22 (fun H locs hP hD hS => ?_)
  rw [va_uu _ _ _ _] at hP hD
  refine W.widen (k := 2) (n := 12) (Nat.le_of_ble_eq_true rfl) (Nat.le_of_ble_eq_true rfl) ?_
  exact W.vret hx hb hr (fun t ht hW => ⟨⟨(ad2, va_up C2 N (ob 0 [.ref (ad2 (N + 1)), .ref (ad2 (N + 2)), .int (nI 0)])), rfl, ⟨ea2, fun j h => (va_un _ _ (by omega)).trans (ca2 j h), va_us _ _ _, (va_un _ _ (by omega)).trans (k2_N_1), (va_un _ _ (by omega)).trans (n2)⟩, ⟨by rw [ht]; exact hP, hD⟩⟩, hS.F ht⟩) hS.2.2 dX0_init_25
abbrev rmX1_init : Room := { frames := 2, cells := 4, slots := 79, locals := 38 }
set_option maxRecDepth 20000 in
theorem il_X1_init_3 : (Cond.methodLink RX1 3 objectInit) ∈ wsX1_init := by decide +kernel
set_option maxRecDepth 20000 in
theorem il_X1_init_imobj : (Cond.instanceMethod objectInit) ∈ wsX1_init := by decide +kernel
set_option maxRecDepth 20000 in
theorem il_X1_init_codeobj : (Cond.code objectInit ⟨#[0xb1]⟩ 1 none) ∈ wsX1_init := by decide +kernel
set_option maxRecDepth 20000 in
theorem il_X1_init_arrint : (Cond.arrayClass .int) ∈ wsX1_init := by decide +kernel
set_option maxRecDepth 20000 in
theorem il_X1_init_9 : (Cond.fieldLink RX1 9 "BayerGate$Frame" "rawRow" "[I") ∈ wsX1_init := by decide +kernel
set_option maxRecDepth 20000 in
theorem iu_X1_init_1 : ∀ w ∈ u_ws RX1 TX1 5, w ∈ wsX1_init := by decide +kernel
set_option maxRecDepth 20000 in
theorem il_X1_init_15 : (Cond.classLink RX1 15 RX0) ∈ wsX1_init := by decide +kernel
set_option maxRecDepth 20000 in
theorem il_X1_init_instX0 : (Cond.instantiable RX0 3) ∈ wsX1_init := by decide +kernel
set_option maxRecDepth 20000 in
theorem il_X1_init_iniX0 : (Cond.initialized RX0) ∈ wsX1_init := by decide +kernel
set_option maxRecDepth 20000 in
theorem iu_X1_init_0 : ∀ w ∈ u_ws RX0 TX0 3, w ∈ wsX1_init := by decide +kernel
set_option maxRecDepth 20000 in
theorem il_X1_init_im_X0_init : (Cond.instanceMethod yX0_init) ∈ wsX1_init := by decide +kernel
set_option maxRecDepth 20000 in
theorem il_X1_init_18 : (Cond.fieldLink RX1 18 "BayerGate$Frame" "edits" "LBayerGate$EditRow;") ∈ wsX1_init := by decide +kernel
set_option maxRecDepth 20000 in
theorem il_X1_init_22 : (Cond.fieldLink RX1 22 "BayerGate$Frame" "time" "I") ∈ wsX1_init := by decide +kernel
set_option maxRecDepth 20000 in
theorem il_X1_init_26 : (Cond.fieldLink RX1 26 "BayerGate$Frame" "gain" "I") ∈ wsX1_init := by decide +kernel
set_option maxRecDepth 20000 in
theorem il_X1_init_29 : (Cond.fieldLink RX1 29 "BayerGate$Frame" "ghosts" "I") ∈ wsX1_init := by decide +kernel
set_option maxHeartbeats 4000000 in
set_option maxRecDepth 100000 in
theorem kX1_init (l : Launch) (G : iG) (N : Nat) (ad : Nat → Nat) (C : Nat → va_E) (h0 : C N = ob 1 [.null, .null, .int (nI 0), .int (nI 0), .int (nI 0)]) (sz : Nat) : Met l yX1_init wsX1_init rmX1_init (iPre G (N + 1) ad C sz [.ref (ad N)]) (va_Qv (fun (u : iU) => (∀ j, j < N + 1 → u.1 j = ad j) ∧ (∀ j, j < N → u.2 j = C j) ∧ isFr G u.1 u.2 N (fun _ => 0, (fun _ => 0, fun _ => 0, 0), nI 0, nI 0, nI 0)) (iB2 G (N + 5) (iA (N + 1) ad sz)) (iA (N + 1) ad sz)) 4 79 (iA (N + 1) ad sz) := by
  refine Met.ofW (cc := cX1_init) (maxL := 1) (ret := none) (by decide) rfl ?_
  intro p e s m args below meth c s₁ B hml hv
  obtain ⟨rfl, hsz, hP, hK, hD0⟩ := hv
  have hx := B.exec
  have hb := B.bytes
  have hr := B.returns
  have hts := atoms_spec (ws := wsX1_init) B.pre
  have hown : s.vm.findClass RX1 = some m.cls := findClass_of_methodNamed B.named
  have hlocks := B.notSynchronized
  have hin : meth.name = "<init>" := (name_of_methodNamed B.named B.method).1
  subst hsz
  have hD := wl_self hD0 s.heap.size
  have hA : ∀ q : Nat, s.heap.size ≤ q → iA (N + 1) ad s.heap.size q := fun q h => Or.inr h
  have hS : va_S (iA (N + 1) ad s.heap.size) s.heap s.heap [] := va_S.rf
  have hP : va_P G.1 vwB (wl (N + 1) ad C) s.heap := hP
  have hl := lv_entry ([.ref (ad N)]) (n := 1) (Nat.le_of_ble_eq_true rfl)
  rw [lg_entry_eq]
  generalize (lg_sl ([.ref (ad N)]) ++ List.replicate (1 - (lg_sl ([.ref (ad N)])).length) Slot.unset).toArray = ls at hl ⊢
  have hl : lv_has ls 1 [(0, .ref (ad N))] := hl
  refine lv_aload_n hx hb dX1_init_0 rfl (lv_at hl 0 rfl) ?_
  refine W.objInit hx hb hown (hts _ il_X1_init_3) (hts _ il_X1_init_imobj) (hts _ il_X1_init_codeobj) rfl (by rw [hml]; exact hl.1) rfl dX1_init_1 (Nat.le_of_ble_eq_true rfl) (Nat.le_of_ble_eq_true rfl) ?_
  refine W.eq (g2 := F0 m 4 ls []) rfl ?_
  refine lv_aload_n hx hb dX1_init_4 rfl (lv_at hl 0 rfl) ?_
  refine lv_bipush (v := nI 64) hx hb dX1_init_5 (by decide) ?_
  refine iw_newI (N' := 64) hx hb (hts _ il_X1_init_arrint) hK hP hD hS hA (by decide) (by decide) (Nat.le_of_ble_eq_true rfl) (Nat.le_of_ble_eq_true rfl) (Nat.le_of_ble_eq_true rfl) dX1_init_7 (fun ad1 C1 H e1 c1 n1 hP hD hS => ?_)
  have k1_N : C1 N = ob 1 [.null, .null, .int (nI 0), .int (nI 0), .int (nI 0)] := (c1 _ (by omega)).trans (h0)
  have ea1 : ∀ j, j < N + 1 → ad1 j = ad j := fun j h => e1 j (by omega)
  have ca1 : ∀ j, j < N → C1 j = C j := fun j h => (c1 j (by omega)).trans (rfl)
  have hl : lv_has ls 1 [(0, .ref (ad1 N))] := by rw [e1 N (by omega)]; exact hl
  refine W.eq (g2 := F0 m 9 ls [.ref (ad1 (N + 1)), .ref (ad1 N)]) (by first | (rw [e1 N (by omega)]; done) | (rw [e1 N (by omega)]; rfl)) ?_
  refine iw_putF (ty := .array (.int)) hx hb hts iu_X1_init_1 tyX1 tyX1_ok nmX1 hown hK hP hD hS (by omega) (k1_N) rfl 0 (by decide) (hts _ il_X1_init_9) (fun _ h9 => h9) rfl hin rfl (by decide +kernel) rfl rfl (Nat.le_of_ble_eq_true rfl) rfl dX1_init_9 (fun H locs hP hD hS => ?_)
  refine lv_aload_n hx hb dX1_init_12 rfl (lv_at hl 0 rfl) ?_
  refine iw_new (ci := 0) (fs := [.null, .null, .int (nI 0)]) (T := TX0) (n := 3) hx hb hts iu_X1_init_0 tyX0 tyX0_ok hown (hts _ il_X1_init_15) (hts _ il_X1_init_instX0) (hts _ il_X1_init_iniX0) hK hP hD hS hA rfl (fun j hj => by rcases (show j = 0 ∨ j = 1 ∨ j = 2 by omega) with rfl | rfl | rfl <;> rfl) (Nat.le_of_ble_eq_true rfl) (Nat.le_of_ble_eq_true rfl) dX1_init_13 (fun ad2 C2 H e2 c2 n2 hP hD hS => ?_)
  have k2_N : C2 N = ob 1 [.ref (ad2 (N + 1)), .null, .int (nI 0), .int (nI 0), .int (nI 0)] := (c2 _ (by omega)).trans ((va_us _ _ _).trans (by first | (rw [e2 (N + 1) (by omega)]; done) | (rw [e2 (N + 1) (by omega)]; rfl)))
  have k2_N_1 : C2 (N + 1) = ia G 64 (fun _ => nI 0) := (c2 _ (by omega)).trans ((va_un _ _ (by omega)).trans (n1))
  have ea2 : ∀ j, j < N + 1 → ad2 j = ad j := fun j h => (e2 j (by omega)).trans (ea1 j h)
  have ca2 : ∀ j, j < N → C2 j = C j := fun j h => (c2 j (by omega)).trans ((va_un _ _ (by omega)).trans (ca1 j h))
  have hl : lv_has ls 1 [(0, .ref (ad2 N))] := by rw [e2 N (by omega)]; exact hl
  refine W.eq (g2 := F0 m 16 ls [.ref (ad2 (N + 2)), .ref (ad2 N)]) (by first | (rw [e2 N (by omega)]; done) | (rw [e2 N (by omega)]; rfl)) ?_
  refine lv_dup hx hb dX1_init_16 rfl ?_
  refine iwg_v (va_runIN (As := []) (rest := [.ref (ad2 (N + 2)), .ref (ad2 N)]) ⟨hx, hb, hml, hown, hts⟩ (kX0_init l G (N + 2) ad2 _ (n2) _) ⟨va_cnB (host := RX6) 0 hts gX1_init_X0_init_n17 rfl rfl rfl (nw_RX1_17 hK.2) (hts _ il_X1_init_iniX0) (by decide +kernel) ⟨Nat.le_of_ble_eq_true rfl, Nat.le_of_ble_eq_true rfl⟩, rfl, (hts _ il_X1_init_im_X0_init)⟩ (iPS hK hP hD [.ref (ad2 (N + 2))])  rfl rfl hl.1 rfl (lv_room (Nat.le_of_ble_eq_true rfl)) dX1_init_17 ⟨Nat.le_of_ble_eq_true rfl, Nat.le_of_ble_eq_true rfl⟩) hD hS hA (fun ad3 C3 H locs hw8 hP hD hS => ?_)
  dsimp only at hw8
  obtain ⟨e3, c3, q3_erN_2⟩ := hw8
  have k3_N : C3 N = ob 1 [.ref (ad3 (N + 1)), .null, .int (nI 0), .int (nI 0), .int (nI 0)] := (c3 _ (by omega)).trans ((k2_N).trans (by first | (rw [e3 (N + 1) (by omega)]; done) | (rw [e3 (N + 1) (by omega)]; rfl)))
  have k3_N_1 : C3 (N + 1) = ia G 64 (fun _ => nI 0) := (c3 _ (by omega)).trans (k2_N_1)
  have ea3 : ∀ j, j < N + 1 → ad3 j = ad j := fun j h => (e3 j (by omega)).trans (ea2 j h)
  have ca3 : ∀ j, j < N → C3 j = C j := fun j h => (c3 j (by omega)).trans (ca2 j h)
  have hl : lv_has ls 1 [(0, .ref (ad3 N))] := by rw [e3 N (by omega)]; exact hl
  refine W.eq (g2 := F0 m 20 ls [.ref (ad3 (N + 2)), .ref (ad3 N)]) (by first | (rw [e3 N (by omega), e3 (N + 2) (by omega)]; done) | (rw [e3 N (by omega), e3 (N + 2) (by omega)]; rfl)) ?_
  refine iw_putF (ty := .object "BayerGate$EditRow") hx hb hts iu_X1_init_1 tyX1 tyX1_ok nmX1 hown hK hP hD hS (by omega) (k3_N) rfl 1 (by decide) (hts _ il_X1_init_18) (fun _ h9 => h9) rfl hin rfl (by decide +kernel) rfl rfl (Nat.le_of_ble_eq_true rfl) rfl dX1_init_20 (fun H locs hP hD hS => ?_)
  refine lv_aload_n hx hb dX1_init_23 rfl (lv_at hl 0 rfl) ?_
  refine lv_iconst (v := nI 0) hx hb dX1_init_24 (by decide) ?_
  refine iw_put (ty := .int) hx hb hts iu_X1_init_1 tyX1 tyX1_ok nmX1 hown hK hP hD hS (by omega) (va_us _ _ _) rfl 2 (by decide) (hts _ il_X1_init_22) (fun _ h9 => h9) rfl (by decide +kernel) rfl rfl (Nat.le_of_ble_eq_true rfl) rfl dX1_init_25 (fun H locs hP hD hS => ?_)
  rw [va_uu _ _ _ _] at hP hD
  refine lv_aload_n hx hb dX1_init_28 rfl (lv_at hl 0 rfl) ?_
  refine lv_iconst (v := nI 0) hx hb dX1_init_29 (by decide) ?_
  refine iw_put (ty := .int) hx hb hts iu_X1_init_1 tyX1 tyX1_ok nmX1 hown hK hP hD hS (by omega) (va_us _ _ _) rfl 3 (by decide) (hts _ il_X1_init_26) (fun _ h9 => h9) rfl (by decide +kernel) rfl rfl (Nat.le_of_ble_eq_true rfl) rfl dX1_init_30 (fun H locs hP hD hS => ?_)
  rw [va_uu _ _ _ _] at hP hD
  refine lv_aload_n hx hb dX1_init_33 rfl (lv_at hl 0 rfl) ?_
  refine lv_iconst (v := nI 0) hx hb dX1_init_34 (by decide) ?_
  refine iw_put (ty := .int) hx hb hts iu_X1_init_1 tyX1 tyX1_ok nmX1 hown hK hP hD hS (by omega) (va_us _ _ _) rfl 4 (by decide) (hts _ il_X1_init_29) (fun _ h9 => h9) rfl (by decide +kernel) rfl rfl (Nat.le_of_ble_eq_true rfl) rfl dX1_init_35 (fun H locs hP hD hS => ?_)
  rw [va_uu _ _ _ _] at hP hD
  refine W.widen (k := 4) (n := 79) (Nat.le_of_ble_eq_true rfl) (Nat.le_of_ble_eq_true rfl) ?_
  exact W.vret hx hb hr (fun t ht hW => ⟨⟨(ad3, va_up C3 N (ob 1 [.ref (ad3 (N + 1)), .ref (ad3 (N + 2)), .int (nI 0), .int (nI 0), .int (nI 0)])), rfl, ⟨ea3, fun j h => (va_un _ _ (by omega)).trans (ca3 j h), va_us _ _ _, (va_un _ _ (by omega)).trans (k3_N_1), (isEr_up q3_erN_2 (by omega))⟩, ⟨by rw [ht]; exact hP, hD⟩⟩, hS.F ht⟩) hS.2.2 dX1_init_38
abbrev rmX5_init : Room := { frames := 2, cells := 3, slots := 15, locals := 38 }
set_option maxRecDepth 20000 in
theorem il_X5_init_1 : (Cond.methodLink RX5 1 objectInit) ∈ wsX5_init := by decide +kernel
set_option maxRecDepth 20000 in
theorem il_X5_init_imobj : (Cond.instanceMethod objectInit) ∈ wsX5_init := by decide +kernel
set_option maxRecDepth 20000 in
theorem il_X5_init_codeobj : (Cond.code objectInit ⟨#[0xb1]⟩ 1 none) ∈ wsX5_init := by decide +kernel
set_option maxRecDepth 20000 in
theorem il_X5_init_7 : (Cond.classLink RX5 7 RX0) ∈ wsX5_init := by decide +kernel
set_option maxRecDepth 20000 in
theorem il_X5_init_instX0 : (Cond.instantiable RX0 3) ∈ wsX5_init := by decide +kernel
set_option maxRecDepth 20000 in
theorem il_X5_init_iniX0 : (Cond.initialized RX0) ∈ wsX5_init := by decide +kernel
set_option maxRecDepth 20000 in
theorem iu_X5_init_0 : ∀ w ∈ u_ws RX0 TX0 3, w ∈ wsX5_init := by decide +kernel
set_option maxRecDepth 20000 in
theorem il_X5_init_im_X0_init : (Cond.instanceMethod yX0_init) ∈ wsX5_init := by decide +kernel
set_option maxRecDepth 20000 in
theorem il_X5_init_10 : (Cond.fieldLink RX5 10 "BayerGate$StoredFile" "edits" "LBayerGate$EditRow;") ∈ wsX5_init := by decide +kernel
set_option maxRecDepth 20000 in
theorem iu_X5_init_5 : ∀ w ∈ u_ws RX5 TX5 3, w ∈ wsX5_init := by decide +kernel
set_option maxRecDepth 20000 in
theorem il_X5_init_16 : (Cond.fieldLink RX5 16 "BayerGate$StoredFile" "frame" "I") ∈ wsX5_init := by decide +kernel
set_option maxRecDepth 20000 in
theorem il_X5_init_20 : (Cond.fieldLink RX5 20 "BayerGate$StoredFile" "version" "I") ∈ wsX5_init := by decide +kernel
set_option maxHeartbeats 4000000 in
set_option maxRecDepth 100000 in
theorem kX5_init (l : Launch) (G : iG) (N : Nat) (ad : Nat → Nat) (C : Nat → va_E) (h0 : C N = ob 5 [.null, .int (nI 0), .int (nI 0)]) (sz : Nat) : Met l yX5_init wsX5_init rmX5_init (iPre G (N + 1) ad C sz [.ref (ad N)]) (va_Qv (fun (u : iU) => (∀ j, j < N + 1 → u.1 j = ad j) ∧ (∀ j, j < N → u.2 j = C j) ∧ isFi G u.1 u.2 N ((fun _ => 0, fun _ => 0, 0), 0, 0)) (iB2 G (N + 4) (iA (N + 1) ad sz)) (iA (N + 1) ad sz)) 3 15 (iA (N + 1) ad sz) := by
  refine Met.ofW (cc := cX5_init) (maxL := 1) (ret := none) (by decide) rfl ?_
  intro p e s m args below meth c s₁ B hml hv
  obtain ⟨rfl, hsz, hP, hK, hD0⟩ := hv
  have hx := B.exec
  have hb := B.bytes
  have hr := B.returns
  have hts := atoms_spec (ws := wsX5_init) B.pre
  have hown : s.vm.findClass RX5 = some m.cls := findClass_of_methodNamed B.named
  have hlocks := B.notSynchronized
  have hin : meth.name = "<init>" := (name_of_methodNamed B.named B.method).1
  subst hsz
  have hD := wl_self hD0 s.heap.size
  have hA : ∀ q : Nat, s.heap.size ≤ q → iA (N + 1) ad s.heap.size q := fun q h => Or.inr h
  have hS : va_S (iA (N + 1) ad s.heap.size) s.heap s.heap [] := va_S.rf
  have hP : va_P G.1 vwB (wl (N + 1) ad C) s.heap := hP
  have hl := lv_entry ([.ref (ad N)]) (n := 1) (Nat.le_of_ble_eq_true rfl)
  rw [lg_entry_eq]
  generalize (lg_sl ([.ref (ad N)]) ++ List.replicate (1 - (lg_sl ([.ref (ad N)])).length) Slot.unset).toArray = ls at hl ⊢
  have hl : lv_has ls 1 [(0, .ref (ad N))] := hl
  refine lv_aload_n hx hb dX5_init_0 rfl (lv_at hl 0 rfl) ?_
  refine W.objInit hx hb hown (hts _ il_X5_init_1) (hts _ il_X5_init_imobj) (hts _ il_X5_init_codeobj) rfl (by rw [hml]; exact hl.1) rfl dX5_init_1 (Nat.le_of_ble_eq_true rfl) (Nat.le_of_ble_eq_true rfl) ?_
  refine W.eq (g2 := F0 m 4 ls []) rfl ?_
  refine lv_aload_n hx hb dX5_init_4 rfl (lv_at hl 0 rfl) ?_
  refine iw_new (ci := 0) (fs := [.null, .null, .int (nI 0)]) (T := TX0) (n := 3) hx hb hts iu_X5_init_0 tyX0 tyX0_ok hown (hts _ il_X5_init_7) (hts _ il_X5_init_instX0) (hts _ il_X5_init_iniX0) hK hP hD hS hA rfl (fun j hj => by rcases (show j = 0 ∨ j = 1 ∨ j = 2 by omega) with rfl | rfl | rfl <;> rfl) (Nat.le_of_ble_eq_true rfl) (Nat.le_of_ble_eq_true rfl) dX5_init_5 (fun ad1 C1 H e1 c1 n1 hP hD hS => ?_)
  have k1_N : C1 N = ob 5 [.null, .int (nI 0), .int (nI 0)] := (c1 _ (by omega)).trans (h0)
  have ea1 : ∀ j, j < N + 1 → ad1 j = ad j := fun j h => e1 j (by omega)
  have ca1 : ∀ j, j < N → C1 j = C j := fun j h => (c1 j (by omega)).trans (rfl)
  have hl : lv_has ls 1 [(0, .ref (ad1 N))] := by rw [e1 N (by omega)]; exact hl
  refine W.eq (g2 := F0 m 8 ls [.ref (ad1 (N + 1)), .ref (ad1 N)]) (by first | (rw [e1 N (by omega)]; done) | (rw [e1 N (by omega)]; rfl)) ?_
  refine lv_dup hx hb dX5_init_8 rfl ?_
  refine iwg_v (va_runIN (As := []) (rest := [.ref (ad1 (N + 1)), .ref (ad1 N)]) ⟨hx, hb, hml, hown, hts⟩ (kX0_init l G (N + 1) ad1 _ (n1) _) ⟨va_cnB (host := RX6) 0 hts gX5_init_X0_init_n9 rfl rfl rfl (nw_RX5_9 hK.2) (hts _ il_X5_init_iniX0) (by decide +kernel) ⟨Nat.le_of_ble_eq_true rfl, Nat.le_of_ble_eq_true rfl⟩, rfl, (hts _ il_X5_init_im_X0_init)⟩ (iPS hK hP hD [.ref (ad1 (N + 1))])  rfl rfl hl.1 rfl (lv_room (Nat.le_of_ble_eq_true rfl)) dX5_init_9 ⟨Nat.le_of_ble_eq_true rfl, Nat.le_of_ble_eq_true rfl⟩) hD hS hA (fun ad2 C2 H locs hw8 hP hD hS => ?_)
  dsimp only at hw8
  obtain ⟨e2, c2, q2_erN_1⟩ := hw8
  have k2_N : C2 N = ob 5 [.null, .int (nI 0), .int (nI 0)] := (c2 _ (by omega)).trans (k1_N)
  have ea2 : ∀ j, j < N + 1 → ad2 j = ad j := fun j h => (e2 j (by omega)).trans (ea1 j h)
  have ca2 : ∀ j, j < N → C2 j = C j := fun j h => (c2 j (by omega)).trans (ca1 j h)
  have hl : lv_has ls 1 [(0, .ref (ad2 N))] := by rw [e2 N (by omega)]; exact hl
  refine W.eq (g2 := F0 m 12 ls [.ref (ad2 (N + 1)), .ref (ad2 N)]) (by first | (rw [e2 N (by omega), e2 (N + 1) (by omega)]; done) | (rw [e2 N (by omega), e2 (N + 1) (by omega)]; rfl)) ?_
  refine iw_putF (ty := .object "BayerGate$EditRow") hx hb hts iu_X5_init_5 tyX5 tyX5_ok nmX5 hown hK hP hD hS (by omega) (k2_N) rfl 0 (by decide) (hts _ il_X5_init_10) (fun _ h9 => h9) rfl hin rfl (by decide +kernel) rfl rfl (Nat.le_of_ble_eq_true rfl) rfl dX5_init_12 (fun H locs hP hD hS => ?_)
  refine lv_aload_n hx hb dX5_init_15 rfl (lv_at hl 0 rfl) ?_
  refine lv_iconst (v := nI 0) hx hb dX5_init_16 (by decide) ?_
  refine iw_put (ty := .int) hx hb hts iu_X5_init_5 tyX5 tyX5_ok nmX5 hown hK hP hD hS (by omega) (va_us _ _ _) rfl 1 (by decide) (hts _ il_X5_init_16) (fun _ h9 => h9) rfl (by decide +kernel) rfl rfl (Nat.le_of_ble_eq_true rfl) rfl dX5_init_17 (fun H locs hP hD hS => ?_)
  rw [va_uu _ _ _ _] at hP hD
  refine lv_aload_n hx hb dX5_init_20 rfl (lv_at hl 0 rfl) ?_
  refine lv_iconst (v := nI 0) hx hb dX5_init_21 (by decide) ?_
  refine iw_put (ty := .int) hx hb hts iu_X5_init_5 tyX5 tyX5_ok nmX5 hown hK hP hD hS (by omega) (va_us _ _ _) rfl 2 (by decide) (hts _ il_X5_init_20) (fun _ h9 => h9) rfl (by decide +kernel) rfl rfl (Nat.le_of_ble_eq_true rfl) rfl dX5_init_22 (fun H locs hP hD hS => ?_)
  rw [va_uu _ _ _ _] at hP hD
  refine W.widen (k := 3) (n := 15) (Nat.le_of_ble_eq_true rfl) (Nat.le_of_ble_eq_true rfl) ?_
  exact W.vret hx hb hr (fun t ht hW => ⟨⟨(ad2, va_up C2 N (ob 5 [.ref (ad2 (N + 1)), .int (nI 0), .int (nI 0)])), rfl, ⟨ea2, fun j h => (va_un _ _ (by omega)).trans (ca2 j h), va_us _ _ _, (isEr_up q2_erN_1 (by omega))⟩, ⟨by rw [ht]; exact hP, hD⟩⟩, hS.F ht⟩) hS.2.2 dX5_init_25
abbrev rmX2_init : Room := { frames := 1, cells := 2, slots := 256, locals := 18 }
set_option maxRecDepth 20000 in
theorem il_X2_init_3 : (Cond.methodLink RX2 3 objectInit) ∈ wsX2_init := by decide +kernel
set_option maxRecDepth 20000 in
theorem il_X2_init_imobj : (Cond.instanceMethod objectInit) ∈ wsX2_init := by decide +kernel
set_option maxRecDepth 20000 in
theorem il_X2_init_codeobj : (Cond.code objectInit ⟨#[0xb1]⟩ 1 none) ∈ wsX2_init := by decide +kernel
set_option maxRecDepth 20000 in
theorem il_X2_init_arrfloat : (Cond.arrayClass .float) ∈ wsX2_init := by decide +kernel
set_option maxRecDepth 20000 in
theorem il_X2_init_9 : (Cond.fieldLink RX2 9 "BayerGate$Picture" "numbers" "[F") ∈ wsX2_init := by decide +kernel
set_option maxRecDepth 20000 in
theorem iu_X2_init_2 : ∀ w ∈ u_ws RX2 TX2 2, w ∈ wsX2_init := by decide +kernel
set_option maxRecDepth 20000 in
theorem il_X2_init_arrint : (Cond.arrayClass .int) ∈ wsX2_init := by decide +kernel
set_option maxRecDepth 20000 in
theorem il_X2_init_15 : (Cond.fieldLink RX2 15 "BayerGate$Picture" "mended" "[I") ∈ wsX2_init := by decide +kernel
set_option maxHeartbeats 4000000 in
set_option maxRecDepth 100000 in
theorem kX2_init (l : Launch) (G : iG) (N : Nat) (ad : Nat → Nat) (C : Nat → va_E) (h0 : C N = ob 2 [.null, .null]) (sz : Nat) : Met l yX2_init wsX2_init rmX2_init (iPre G (N + 1) ad C sz [.ref (ad N)]) (va_Qv (fun (u : iU) => (∀ j, j < N + 1 → u.1 j = ad j) ∧ (∀ j, j < N → u.2 j = C j) ∧ isPi G u.1 u.2 N (fun _ => 0, fun _ => 0)) (iB2 G (N + 3) (iA (N + 1) ad sz)) (iA (N + 1) ad sz)) 2 256 (iA (N + 1) ad sz) := by
  refine Met.ofW (cc := cX2_init) (maxL := 1) (ret := none) (by decide) rfl ?_
  intro p e s m args below meth c s₁ B hml hv
  obtain ⟨rfl, hsz, hP, hK, hD0⟩ := hv
  have hx := B.exec
  have hb := B.bytes
  have hr := B.returns
  have hts := atoms_spec (ws := wsX2_init) B.pre
  have hown : s.vm.findClass RX2 = some m.cls := findClass_of_methodNamed B.named
  have hlocks := B.notSynchronized
  have hin : meth.name = "<init>" := (name_of_methodNamed B.named B.method).1
  subst hsz
  have hD := wl_self hD0 s.heap.size
  have hA : ∀ q : Nat, s.heap.size ≤ q → iA (N + 1) ad s.heap.size q := fun q h => Or.inr h
  have hS : va_S (iA (N + 1) ad s.heap.size) s.heap s.heap [] := va_S.rf
  have hP : va_P G.1 vwB (wl (N + 1) ad C) s.heap := hP
  have hl := lv_entry ([.ref (ad N)]) (n := 1) (Nat.le_of_ble_eq_true rfl)
  rw [lg_entry_eq]
  generalize (lg_sl ([.ref (ad N)]) ++ List.replicate (1 - (lg_sl ([.ref (ad N)])).length) Slot.unset).toArray = ls at hl ⊢
  have hl : lv_has ls 1 [(0, .ref (ad N))] := hl
  refine lv_aload_n hx hb dX2_init_0 rfl (lv_at hl 0 rfl) ?_
  refine W.objInit hx hb hown (hts _ il_X2_init_3) (hts _ il_X2_init_imobj) (hts _ il_X2_init_codeobj) rfl (by rw [hml]; exact hl.1) rfl dX2_init_1 (Nat.le_of_ble_eq_true rfl) (Nat.le_of_ble_eq_true rfl) ?_
  refine W.eq (g2 := F0 m 4 ls []) rfl ?_
  refine lv_aload_n hx hb dX2_init_4 rfl (lv_at hl 0 rfl) ?_
  refine lv_sipush (v := nI 192) hx hb dX2_init_5 (by decide) ?_
  refine iw_newF (N' := 192) hx hb (hts _ il_X2_init_arrfloat) hK hP hD hS hA (by decide) (by decide) (Nat.le_of_ble_eq_true rfl) (Nat.le_of_ble_eq_true rfl) (Nat.le_of_ble_eq_true rfl) dX2_init_8 (fun ad1 C1 H e1 c1 n1 hP hD hS => ?_)
  have k1_N : C1 N = ob 2 [.null, .null] := (c1 _ (by omega)).trans (h0)
  have ea1 : ∀ j, j < N + 1 → ad1 j = ad j := fun j h => e1 j (by omega)
  have ca1 : ∀ j, j < N → C1 j = C j := fun j h => (c1 j (by omega)).trans (rfl)
  have hl : lv_has ls 1 [(0, .ref (ad1 N))] := by rw [e1 N (by omega)]; exact hl
  refine W.eq (g2 := F0 m 10 ls [.ref (ad1 (N + 1)), .ref (ad1 N)]) (by first | (rw [e1 N (by omega)]; done) | (rw [e1 N (by omega)]; rfl)) ?_
  refine iw_putF (ty := .array (.float)) hx hb hts iu_X2_init_2 tyX2 tyX2_ok nmX2 hown hK hP hD hS (by omega) (k1_N) rfl 0 (by decide) (hts _ il_X2_init_9) (fun _ h9 => h9) rfl hin rfl (by decide +kernel) rfl rfl (Nat.le_of_ble_eq_true rfl) rfl dX2_init_10 (fun H locs hP hD hS => ?_)
  refine lv_aload_n hx hb dX2_init_13 rfl (lv_at hl 0 rfl) ?_
  refine lv_bipush (v := nI 64) hx hb dX2_init_14 (by decide) ?_
  refine iw_newI (N' := 64) hx hb (hts _ il_X2_init_arrint) hK hP hD hS hA (by decide) (by decide) (Nat.le_of_ble_eq_true rfl) (Nat.le_of_ble_eq_true rfl) (Nat.le_of_ble_eq_true rfl) dX2_init_16 (fun ad2 C2 H e2 c2 n2 hP hD hS => ?_)
  have k2_N : C2 N = ob 2 [.ref (ad2 (N + 1)), .null] := (c2 _ (by omega)).trans ((va_us _ _ _).trans (by first | (rw [e2 (N + 1) (by omega)]; done) | (rw [e2 (N + 1) (by omega)]; rfl)))
  have k2_N_1 : C2 (N + 1) = fa G 192 (fun _ => 0) := (c2 _ (by omega)).trans ((va_un _ _ (by omega)).trans (n1))
  have ea2 : ∀ j, j < N + 1 → ad2 j = ad j := fun j h => (e2 j (by omega)).trans (ea1 j h)
  have ca2 : ∀ j, j < N → C2 j = C j := fun j h => (c2 j (by omega)).trans ((va_un _ _ (by omega)).trans (ca1 j h))
  have hl : lv_has ls 1 [(0, .ref (ad2 N))] := by rw [e2 N (by omega)]; exact hl
  refine W.eq (g2 := F0 m 18 ls [.ref (ad2 (N + 2)), .ref (ad2 N)]) (by first | (rw [e2 N (by omega)]; done) | (rw [e2 N (by omega)]; rfl)) ?_
  refine iw_putF (ty := .array (.int)) hx hb hts iu_X2_init_2 tyX2 tyX2_ok nmX2 hown hK hP hD hS (by omega) (k2_N) rfl 1 (by decide) (hts _ il_X2_init_15) (fun _ h9 => h9) rfl hin rfl (by decide +kernel) rfl rfl (Nat.le_of_ble_eq_true rfl) rfl dX2_init_18 (fun H locs hP hD hS => ?_)
  refine W.widen (k := 2) (n := 256) (Nat.le_of_ble_eq_true rfl) (Nat.le_of_ble_eq_true rfl) ?_
  exact W.vret hx hb hr (fun t ht hW => ⟨⟨(ad2, va_up C2 N (ob 2 [.ref (ad2 (N + 1)), .ref (ad2 (N + 2))])), rfl, ⟨ea2, fun j h => (va_un _ _ (by omega)).trans (ca2 j h), va_us _ _ _, (va_un _ _ (by omega)).trans (k2_N_1), (va_un _ _ (by omega)).trans (n2)⟩, ⟨by rw [ht]; exact hP, hD⟩⟩, hS.F ht⟩) hS.2.2 dX2_init_21
abbrev rmX3_init : Room := { frames := 1, cells := 2, slots := 195, locals := 18 }
set_option maxRecDepth 20000 in
theorem il_X3_init_3 : (Cond.methodLink RX3 3 objectInit) ∈ wsX3_init := by decide +kernel
set_option maxRecDepth 20000 in
theorem il_X3_init_imobj : (Cond.instanceMethod objectInit) ∈ wsX3_init := by decide +kernel
set_option maxRecDepth 20000 in
theorem il_X3_init_codeobj : (Cond.code objectInit ⟨#[0xb1]⟩ 1 none) ∈ wsX3_init := by decide +kernel
set_option maxRecDepth 20000 in
theorem il_X3_init_arrint : (Cond.arrayClass .int) ∈ wsX3_init := by decide +kernel
set_option maxRecDepth 20000 in
theorem il_X3_init_9 : (Cond.fieldLink RX3 9 "BayerGate$Scene" "shades" "[I") ∈ wsX3_init := by decide +kernel
set_option maxRecDepth 20000 in
theorem iu_X3_init_3 : ∀ w ∈ u_ws RX3 TX3 3, w ∈ wsX3_init := by decide +kernel
set_option maxRecDepth 20000 in
theorem il_X3_init_arrfloat : (Cond.arrayClass .float) ∈ wsX3_init := by decide +kernel
set_option maxRecDepth 20000 in
theorem il_X3_init_15 : (Cond.fieldLink RX3 15 "BayerGate$Scene" "factors" "[F") ∈ wsX3_init := by decide +kernel
set_option maxRecDepth 20000 in
theorem il_X3_init_19 : (Cond.fieldLink RX3 19 "BayerGate$Scene" "quartersOfGreen" "I") ∈ wsX3_init := by decide +kernel
set_option maxHeartbeats 4000000 in
set_option maxRecDepth 100000 in
theorem kX3_init (l : Launch) (G : iG) (N : Nat) (ad : Nat → Nat) (C : Nat → va_E) (h0 : C N = ob 3 [.null, .null, .int (nI 0)]) (sz : Nat) : Met l yX3_init wsX3_init rmX3_init (iPre G (N + 1) ad C sz [.ref (ad N)]) (va_Qv (fun (u : iU) => (∀ j, j < N + 1 → u.1 j = ad j) ∧ (∀ j, j < N → u.2 j = C j) ∧ isSc G u.1 u.2 N (fun _ => 0, vf_upd (vf_upd (vf_upd (fun _ => 0) 0 FP.fconst1) 1 FP.fconst1) 2 FP.fconst1, 4)) (iB2 G (N + 3) (iA (N + 1) ad sz)) (iA (N + 1) ad sz)) 2 195 (iA (N + 1) ad sz) := by
  refine Met.ofW (cc := cX3_init) (maxL := 2) (ret := none) (by decide) rfl ?_
  intro p e s m args below meth c s₁ B hml hv
  obtain ⟨rfl, hsz, hP, hK, hD0⟩ := hv
  have hx := B.exec
  have hb := B.bytes
  have hr := B.returns
  have hts := atoms_spec (ws := wsX3_init) B.pre
  have hown : s.vm.findClass RX3 = some m.cls := findClass_of_methodNamed B.named
  have hlocks := B.notSynchronized
  have hin : meth.name = "<init>" := (name_of_methodNamed B.named B.method).1
  subst hsz
  have hD := wl_self hD0 s.heap.size
  have hA : ∀ q : Nat, s.heap.size ≤ q → iA (N + 1) ad s.heap.size q := fun q h => Or.inr h
  have hS : va_S (iA (N + 1) ad s.heap.size) s.heap s.heap [] := va_S.rf
  have hP : va_P G.1 vwB (wl (N + 1) ad C) s.heap := hP
  have hl := lv_entry ([.ref (ad N)]) (n := 2) (Nat.le_of_ble_eq_true rfl)
  rw [lg_entry_eq]
  generalize (lg_sl ([.ref (ad N)]) ++ List.replicate (2 - (lg_sl ([.ref (ad N)])).length) Slot.unset).toArray = ls at hl ⊢
  have hl : lv_has ls 2 [(0, .ref (ad N))] := hl
  refine lv_aload_n hx hb dX3_init_0 rfl (lv_at hl 0 rfl) ?_
  refine W.objInit hx hb hown (hts _ il_X3_init_3) (hts _ il_X3_init_imobj) (hts _ il_X3_init_codeobj) rfl (by rw [hml]; exact hl.1) rfl dX3_init_1 (Nat.le_of_ble_eq_true rfl) (Nat.le_of_ble_eq_true rfl) ?_
  refine W.eq (g2 := F0 m 4 ls []) rfl ?_
  refine lv_aload_n hx hb dX3_init_4 rfl (lv_at hl 0 rfl) ?_
  refine lv_sipush (v := nI 192) hx hb dX3_init_5 (by decide) ?_
  refine iw_newI (N' := 192) hx hb (hts _ il_X3_init_arrint) hK hP hD hS hA (by decide) (by decide) (Nat.le_of_ble_eq_true rfl) (Nat.le_of_ble_eq_true rfl) (Nat.le_of_ble_eq_true rfl) dX3_init_8 (fun ad1 C1 H e1 c1 n1 hP hD hS => ?_)
  have k1_N : C1 N = ob 3 [.null, .null, .int (nI 0)] := (c1 _ (by omega)).trans (h0)
  have ea1 : ∀ j, j < N + 1 → ad1 j = ad j := fun j h => e1 j (by omega)
  have ca1 : ∀ j, j < N → C1 j = C j := fun j h => (c1 j (by omega)).trans (rfl)
  have hl : lv_has ls 2 [(0, .ref (ad1 N))] := by rw [e1 N (by omega)]; exact hl
  refine W.eq (g2 := F0 m 10 ls [.ref (ad1 (N + 1)), .ref (ad1 N)]) (by first | (rw [e1 N (by omega)]; done) | (rw [e1 N (by omega)]; rfl)) ?_
  refine iw_putF (ty := .array (.int)) hx hb hts iu_X3_init_3 tyX3 tyX3_ok nmX3 hown hK hP hD hS (by omega) (k1_N) rfl 0 (by decide) (hts _ il_X3_init_9) (fun _ h9 => h9) rfl hin rfl (by decide +kernel) rfl rfl (Nat.le_of_ble_eq_true rfl) rfl dX3_init_10 (fun H locs hP hD hS => ?_)
  refine lv_aload_n hx hb dX3_init_13 rfl (lv_at hl 0 rfl) ?_
  refine lv_iconst (v := nI 3) hx hb dX3_init_14 (by decide) ?_
  refine iw_newF (N' := 3) hx hb (hts _ il_X3_init_arrfloat) hK hP hD hS hA (by decide) (by decide) (Nat.le_of_ble_eq_true rfl) (Nat.le_of_ble_eq_true rfl) (Nat.le_of_ble_eq_true rfl) dX3_init_15 (fun ad2 C2 H e2 c2 n2 hP hD hS => ?_)
  have k2_N : C2 N = ob 3 [.ref (ad2 (N + 1)), .null, .int (nI 0)] := (c2 _ (by omega)).trans ((va_us _ _ _).trans (by first | (rw [e2 (N + 1) (by omega)]; done) | (rw [e2 (N + 1) (by omega)]; rfl)))
  have k2_N_1 : C2 (N + 1) = ia G 192 (fun _ => nI 0) := (c2 _ (by omega)).trans ((va_un _ _ (by omega)).trans (n1))
  have ea2 : ∀ j, j < N + 1 → ad2 j = ad j := fun j h => (e2 j (by omega)).trans (ea1 j h)
  have ca2 : ∀ j, j < N → C2 j = C j := fun j h => (c2 j (by omega)).trans ((va_un _ _ (by omega)).trans (ca1 j h))
  have hl : lv_has ls 2 [(0, .ref (ad2 N))] := by rw [e2 N (by omega)]; exact hl
  refine W.eq (g2 := F0 m 17 ls [.ref (ad2 (N + 2)), .ref (ad2 N)]) (by first | (rw [e2 N (by omega)]; done) | (rw [e2 N (by omega)]; rfl)) ?_
  refine iw_putF (ty := .array (.float)) hx hb hts iu_X3_init_3 tyX3 tyX3_ok nmX3 hown hK hP hD hS (by omega) (k2_N) rfl 1 (by decide) (hts _ il_X3_init_15) (fun _ h9 => h9) rfl hin rfl (by decide +kernel) rfl rfl (Nat.le_of_ble_eq_true rfl) rfl dX3_init_17 (fun H locs hP hD hS => ?_)
  refine lv_aload_n hx hb dX3_init_20 rfl (lv_at hl 0 rfl) ?_
  refine lv_iconst (v := nI 4) hx hb dX3_init_21 (by decide) ?_
  refine iw_put (ty := .int) hx hb hts iu_X3_init_3 tyX3 tyX3_ok nmX3 hown hK hP hD hS (by omega) (va_us _ _ _) rfl 2 (by decide) (hts _ il_X3_init_19) (fun _ h9 => h9) rfl (by decide +kernel) rfl rfl (Nat.le_of_ble_eq_true rfl) rfl dX3_init_22 (fun H locs hP hD hS => ?_)
  rw [va_uu _ _ _ _] at hP hD
  refine lv_iconst (v := nI 0) hx hb dX3_init_25 (by decide) ?_
  refine lv_istore_n (lv' := [(1, .int (nI 0)), (0, .ref (ad2 N))]) hx hb dX3_init_26 rfl hl (by decide) rfl (fun ls hl => ?_)
  refine lv_iload_n hx hb dX3_init_27 rfl (lv_at hl 0 rfl) ?_
  refine lv_iconst (v := nI 3) hx hb dX3_init_28 (by decide) ?_
  refine lv_icmp_ge (tgt := 45) hx hb dX3_init_29 (by decide) (fun c9 => absurd c9 (by decide)) (fun _ => ?_)
  refine lv_aload_n hx hb dX3_init_32 rfl (lv_at hl 1 rfl) ?_
  refine iw_get hx hb hts iu_X3_init_3 hown hK hP (by omega) (va_us _ _ _) rfl 1 (by decide) (hts _ il_X3_init_15) (fun _ h9 => h9) rfl dX3_init_33 ?_
  refine lv_iload_n hx hb dX3_init_36 rfl (lv_at hl 0 rfl) ?_
  refine lv_fconst1 hx hb dX3_init_37 ?_
  refine iw_fast hx hb hK hP hD hS (by omega) ((va_un _ _ (by omega)).trans (n2)) (vp_in_nI (show 0 < 3 by omega) (by omega)) (nI_clamp (by omega)) dX3_init_38 (fun H locs hP hD hS => ?_)
  refine lv_iinc (v := nI 1) (lv' := [(1, .int (nI 1)), (0, .ref (ad2 N))]) hx hb dX3_init_39 hl (k := 0) rfl (iinc_nat _ 1) (by decide) rfl (fun ls hl => ?_)
  refine lv_goto (tgt := 27) hx hb dX3_init_42 (by decide) ?_
  refine lv_iload_n hx hb dX3_init_27 rfl (lv_at hl 0 rfl) ?_
  refine lv_iconst (v := nI 3) hx hb dX3_init_28 (by decide) ?_
  refine lv_icmp_ge (tgt := 45) hx hb dX3_init_29 (by decide) (fun c9 => absurd c9 (by decide)) (fun _ => ?_)
  refine lv_aload_n hx hb dX3_init_32 rfl (lv_at hl 1 rfl) ?_
  refine iw_get hx hb hts iu_X3_init_3 hown hK hP (by omega) ((va_un _ _ (by omega)).trans (va_us _ _ _)) rfl 1 (by decide) (hts _ il_X3_init_15) (fun _ h9 => h9) rfl dX3_init_33 ?_
  refine lv_iload_n hx hb dX3_init_36 rfl (lv_at hl 0 rfl) ?_
  refine lv_fconst1 hx hb dX3_init_37 ?_
  refine iw_fast hx hb hK hP hD hS (by omega) (va_us _ _ _) (vp_in_nI (show 1 < 3 by omega) (by omega)) (nI_clamp (by omega)) dX3_init_38 (fun H locs hP hD hS => ?_)
  rw [va_uu _ _ _ _] at hP hD
  refine lv_iinc (v := nI 2) (lv' := [(1, .int (nI 2)), (0, .ref (ad2 N))]) hx hb dX3_init_39 hl (k := 0) rfl (iinc_nat _ 1) (by decide) rfl (fun ls hl => ?_)
  refine lv_goto (tgt := 27) hx hb dX3_init_42 (by decide) ?_
  refine lv_iload_n hx hb dX3_init_27 rfl (lv_at hl 0 rfl) ?_
  refine lv_iconst (v := nI 3) hx hb dX3_init_28 (by decide) ?_
  refine lv_icmp_ge (tgt := 45) hx hb dX3_init_29 (by decide) (fun c9 => absurd c9 (by decide)) (fun _ => ?_)
  refine lv_aload_n hx hb dX3_init_32 rfl (lv_at hl 1 rfl) ?_
  refine iw_get hx hb hts iu_X3_init_3 hown hK hP (by omega) ((va_un _ _ (by omega)).trans (va_us _ _ _)) rfl 1 (by decide) (hts _ il_X3_init_15) (fun _ h9 => h9) rfl dX3_init_33 ?_
  refine lv_iload_n hx hb dX3_init_36 rfl (lv_at hl 0 rfl) ?_
  refine lv_fconst1 hx hb dX3_init_37 ?_
  refine iw_fast hx hb hK hP hD hS (by omega) (va_us _ _ _) (vp_in_nI (show 2 < 3 by omega) (by omega)) (nI_clamp (by omega)) dX3_init_38 (fun H locs hP hD hS => ?_)
  rw [va_uu _ _ _ _] at hP hD
  refine lv_iinc (v := nI 3) (lv' := [(1, .int (nI 3)), (0, .ref (ad2 N))]) hx hb dX3_init_39 hl (k := 0) rfl (iinc_nat _ 1) (by decide) rfl (fun ls hl => ?_)
  refine lv_goto (tgt := 27) hx hb dX3_init_42 (by decide) ?_
  refine lv_iload_n hx hb dX3_init_27 rfl (lv_at hl 0 rfl) ?_
  refine lv_iconst (v := nI 3) hx hb dX3_init_28 (by decide) ?_
  refine lv_icmp_ge (tgt := 45) hx hb dX3_init_29 (by decide) (fun _ => ?_) (fun c9 => absurd (by decide) c9)
  refine W.widen (k := 2) (n := 195) (Nat.le_of_ble_eq_true rfl) (Nat.le_of_ble_eq_true rfl) ?_
  exact W.vret hx hb hr (fun t ht hW => ⟨⟨(ad2, va_up (va_up C2 N (ob 3 [.ref (ad2 (N + 1)), .ref (ad2 (N + 2)), .int (nI 4)])) (N + 2) (fa G 3 (vf_upd (vf_upd (vf_upd (fun _ => 0) 0 FP.fconst1) 1 FP.fconst1) 2 FP.fconst1))), rfl, ⟨ea2, fun j h => (va_un _ _ (by omega)).trans ((va_un _ _ (by omega)).trans (ca2 j h)), (va_un _ _ (by omega)).trans (va_us _ _ _), (va_un _ _ (by omega)).trans ((va_un _ _ (by omega)).trans (k2_N_1)), va_us _ _ _⟩, ⟨by rw [ht]; exact hP, hD⟩⟩, hS.F ht⟩) hS.2.2 dX3_init_45
theorem bI_f : bI (fun _ => false) = fun _ => nI 0 := by funext k; rfl
abbrev rmX4_init : Room := { frames := 1, cells := 2, slots := 128, locals := 18 }
set_option maxRecDepth 20000 in
theorem il_X4_init_3 : (Cond.methodLink RX4 3 objectInit) ∈ wsX4_init := by decide +kernel
set_option maxRecDepth 20000 in
theorem il_X4_init_imobj : (Cond.instanceMethod objectInit) ∈ wsX4_init := by decide +kernel
set_option maxRecDepth 20000 in
theorem il_X4_init_codeobj : (Cond.code objectInit ⟨#[0xb1]⟩ 1 none) ∈ wsX4_init := by decide +kernel
set_option maxRecDepth 20000 in
theorem il_X4_init_arrint : (Cond.arrayClass .int) ∈ wsX4_init := by decide +kernel
set_option maxRecDepth 20000 in
theorem il_X4_init_9 : (Cond.fieldLink RX4 9 "BayerGate$Sensor" "hows" "[I") ∈ wsX4_init := by decide +kernel
set_option maxRecDepth 20000 in
theorem iu_X4_init_4 : ∀ w ∈ u_ws RX4 TX4 3, w ∈ wsX4_init := by decide +kernel
set_option maxRecDepth 20000 in
theorem il_X4_init_arrboolean : (Cond.arrayClass .boolean) ∈ wsX4_init := by decide +kernel
set_option maxRecDepth 20000 in
theorem il_X4_init_15 : (Cond.fieldLink RX4 15 "BayerGate$Sensor" "mapped" "[Z") ∈ wsX4_init := by decide +kernel
set_option maxRecDepth 20000 in
theorem il_X4_init_19 : (Cond.fieldLink RX4 19 "BayerGate$Sensor" "draw" "I") ∈ wsX4_init := by decide +kernel
set_option maxHeartbeats 4000000 in
set_option maxRecDepth 100000 in
theorem kX4_init (l : Launch) (G : iG) (N : Nat) (ad : Nat → Nat) (C : Nat → va_E) (h0 : C N = ob 4 [.null, .null, .int (nI 0)]) (sz : Nat) : Met l yX4_init wsX4_init rmX4_init (iPre G (N + 1) ad C sz [.ref (ad N)]) (va_Qv (fun (u : iU) => (∀ j, j < N + 1 → u.1 j = ad j) ∧ (∀ j, j < N → u.2 j = C j) ∧ isSe G u.1 u.2 N (fun _ => 0, fun _ => false, 0)) (iB2 G (N + 3) (iA (N + 1) ad sz)) (iA (N + 1) ad sz)) 2 128 (iA (N + 1) ad sz) := by
  refine Met.ofW (cc := cX4_init) (maxL := 1) (ret := none) (by decide) rfl ?_
  intro p e s m args below meth c s₁ B hml hv
  obtain ⟨rfl, hsz, hP, hK, hD0⟩ := hv
  have hx := B.exec
  have hb := B.bytes
  have hr := B.returns
  have hts := atoms_spec (ws := wsX4_init) B.pre
  have hown : s.vm.findClass RX4 = some m.cls := findClass_of_methodNamed B.named
  have hlocks := B.notSynchronized
  have hin : meth.name = "<init>" := (name_of_methodNamed B.named B.method).1
  subst hsz
  have hD := wl_self hD0 s.heap.size
  have hA : ∀ q : Nat, s.heap.size ≤ q → iA (N + 1) ad s.heap.size q := fun q h => Or.inr h
  have hS : va_S (iA (N + 1) ad s.heap.size) s.heap s.heap [] := va_S.rf
  have hP : va_P G.1 vwB (wl (N + 1) ad C) s.heap := hP
  have hl := lv_entry ([.ref (ad N)]) (n := 1) (Nat.le_of_ble_eq_true rfl)
  rw [lg_entry_eq]
  generalize (lg_sl ([.ref (ad N)]) ++ List.replicate (1 - (lg_sl ([.ref (ad N)])).length) Slot.unset).toArray = ls at hl ⊢
  have hl : lv_has ls 1 [(0, .ref (ad N))] := hl
  refine lv_aload_n hx hb dX4_init_0 rfl (lv_at hl 0 rfl) ?_
  refine W.objInit hx hb hown (hts _ il_X4_init_3) (hts _ il_X4_init_imobj) (hts _ il_X4_init_codeobj) rfl (by rw [hml]; exact hl.1) rfl dX4_init_1 (Nat.le_of_ble_eq_true rfl) (Nat.le_of_ble_eq_true rfl) ?_
  refine W.eq (g2 := F0 m 4 ls []) rfl ?_
  refine lv_aload_n hx hb dX4_init_4 rfl (lv_at hl 0 rfl) ?_
  refine lv_bipush (v := nI 64) hx hb dX4_init_5 (by decide) ?_
  refine iw_newI (N' := 64) hx hb (hts _ il_X4_init_arrint) hK hP hD hS hA (by decide) (by decide) (Nat.le_of_ble_eq_true rfl) (Nat.le_of_ble_eq_true rfl) (Nat.le_of_ble_eq_true rfl) dX4_init_7 (fun ad1 C1 H e1 c1 n1 hP hD hS => ?_)
  have k1_N : C1 N = ob 4 [.null, .null, .int (nI 0)] := (c1 _ (by omega)).trans (h0)
  have ea1 : ∀ j, j < N + 1 → ad1 j = ad j := fun j h => e1 j (by omega)
  have ca1 : ∀ j, j < N → C1 j = C j := fun j h => (c1 j (by omega)).trans (rfl)
  have hl : lv_has ls 1 [(0, .ref (ad1 N))] := by rw [e1 N (by omega)]; exact hl
  refine W.eq (g2 := F0 m 9 ls [.ref (ad1 (N + 1)), .ref (ad1 N)]) (by first | (rw [e1 N (by omega)]; done) | (rw [e1 N (by omega)]; rfl)) ?_
  refine iw_putF (ty := .array (.int)) hx hb hts iu_X4_init_4 tyX4 tyX4_ok nmX4 hown hK hP hD hS (by omega) (k1_N) rfl 0 (by decide) (hts _ il_X4_init_9) (fun _ h9 => h9) rfl hin rfl (by decide +kernel) rfl rfl (Nat.le_of_ble_eq_true rfl) rfl dX4_init_9 (fun H locs hP hD hS => ?_)
  refine lv_aload_n hx hb dX4_init_12 rfl (lv_at hl 0 rfl) ?_
  refine lv_bipush (v := nI 64) hx hb dX4_init_13 (by decide) ?_
  refine iw_newZ (N' := 64) hx hb (hts _ il_X4_init_arrboolean) hK hP hD hS hA (by decide) (by decide) (Nat.le_of_ble_eq_true rfl) (Nat.le_of_ble_eq_true rfl) (Nat.le_of_ble_eq_true rfl) dX4_init_15 (fun ad2 C2 H e2 c2 n2 hP hD hS => ?_)
  have k2_N : C2 N = ob 4 [.ref (ad2 (N + 1)), .null, .int (nI 0)] := (c2 _ (by omega)).trans ((va_us _ _ _).trans (by first | (rw [e2 (N + 1) (by omega)]; done) | (rw [e2 (N + 1) (by omega)]; rfl)))
  have k2_N_1 : C2 (N + 1) = ia G 64 (fun _ => nI 0) := (c2 _ (by omega)).trans ((va_un _ _ (by omega)).trans (n1))
  have ea2 : ∀ j, j < N + 1 → ad2 j = ad j := fun j h => (e2 j (by omega)).trans (ea1 j h)
  have ca2 : ∀ j, j < N → C2 j = C j := fun j h => (c2 j (by omega)).trans ((va_un _ _ (by omega)).trans (ca1 j h))
  have hl : lv_has ls 1 [(0, .ref (ad2 N))] := by rw [e2 N (by omega)]; exact hl
  refine W.eq (g2 := F0 m 17 ls [.ref (ad2 (N + 2)), .ref (ad2 N)]) (by first | (rw [e2 N (by omega)]; done) | (rw [e2 N (by omega)]; rfl)) ?_
  refine iw_putF (ty := .array (.boolean)) hx hb hts iu_X4_init_4 tyX4 tyX4_ok nmX4 hown hK hP hD hS (by omega) (k2_N) rfl 1 (by decide) (hts _ il_X4_init_15) (fun _ h9 => h9) rfl hin rfl (by decide +kernel) rfl rfl (Nat.le_of_ble_eq_true rfl) rfl dX4_init_17 (fun H locs hP hD hS => ?_)
  refine lv_aload_n hx hb dX4_init_20 rfl (lv_at hl 0 rfl) ?_
  refine lv_iconst (v := nI 0) hx hb dX4_init_21 (by decide) ?_
  refine iw_put (ty := .int) hx hb hts iu_X4_init_4 tyX4 tyX4_ok nmX4 hown hK hP hD hS (by omega) (va_us _ _ _) rfl 2 (by decide) (hts _ il_X4_init_19) (fun _ h9 => h9) rfl (by decide +kernel) rfl rfl (Nat.le_of_ble_eq_true rfl) rfl dX4_init_22 (fun H locs hP hD hS => ?_)
  rw [va_uu _ _ _ _] at hP hD
  refine W.widen (k := 2) (n := 128) (Nat.le_of_ble_eq_true rfl) (Nat.le_of_ble_eq_true rfl) ?_
  exact W.vret hx hb hr (fun t ht hW => ⟨⟨(ad2, va_up C2 N (ob 4 [.ref (ad2 (N + 1)), .ref (ad2 (N + 2)), .int (nI 0)])), rfl, ⟨ea2, fun j h => (va_un _ _ (by omega)).trans (ca2 j h), va_us _ _ _, (va_un _ _ (by omega)).trans (k2_N_1), ((va_un _ _ (by omega)).trans (n2)).trans (by rw [bI_f])⟩, ⟨by rw [ht]; exact hP, hD⟩⟩, hS.F ht⟩) hS.2.2 dX4_init_25
/-- the new camera -/
def S0 : St := mkS (fun _ => 0) (vf_upd (vf_upd (vf_upd (fun _ => 0) 0 FP.fconst1) 1 FP.fconst1) 2 FP.fconst1) 4 (fun _ => 0) (fun _ => false) 0 0 0 (fun _ => (fun _ => 0, (fun _ => 0, fun _ => 0, 0), nI 0, nI 0, nI 0)) (fun _ => ((fun _ => 0, fun _ => 0, 0), 0, 0))
theorem okE0 : okEr (fun _ => 0, fun _ => 0, 0) := ⟨Nat.zero_le _, fun i hi => absurd hi (Nat.not_lt_zero _)⟩
theorem okS0 : okS S0 := by
  refine ⟨fun _ _ => by show 0 < 256; omega, fun k hk => ?_, by show 4 < 17; omega, fun _ _ => by show 0 < 3; omega, by show 0 < 61; omega, by show 0 ≤ 6; omega, by show 0 ≤ 6; omega, fun k hk => ⟨fun i hi => by show 0 ≤ 255; omega, okE0⟩, fun k hk => ⟨okE0, by show 0 < 6; omega⟩⟩
  show fin32 (vf_upd (vf_upd (vf_upd (fun _ => 0) 0 FP.fconst1) 1 FP.fconst1) 2 FP.fconst1 k)
  rcases (show k = 0 ∨ k = 1 ∨ k = 2 by omega) with rfl | rfl | rfl <;> exact finz32_fin f1_ok
theorem wl_ra {D : va_G} {cl : List vw_C} {N : Nat} {ad : Nat → Nat} {C : Nat → va_E} {H : Heap} {G : iG} {j t n : Nat} {f g : Nat → Option Nat} (hP : va_P D cl (wl N ad (va_up C j (ra G t n f))) H) (h : ∀ k, k < n → f k = g k) : va_P D cl (wl N ad (va_up C j (ra G t n g))) H := by
  refine wl_congr hP (fun i hi ha => ?_)
  by_cases e : i = j
  · subst e
    rw [va_us] at ha ⊢
    have e9 : vp_cell (G.2 t) (n, .inr (.inr (.inr (.inr f)))) = vp_cell (G.2 t) (n, .inr (.inr (.inr (.inr g)))) := arrV_congr _ (fun k hk => congrArg va_rf (h k hk))
    show H[ad i]? = some (vp_cell (G.2 t) (n, .inr (.inr (.inr (.inr g)))))
    rw [← e9]
    exact ha
  · rw [va_un _ _ e] at ha ⊢
    exact ha
abbrev rmX6_init : Room := { frames := 3, cells := 73, slots := 1553, locals := 58 }
set_option maxRecDepth 20000 in
theorem il_X6_init_3 : (Cond.methodLink RX6 3 objectInit) ∈ wsX6_init := by decide +kernel
set_option maxRecDepth 20000 in
theorem il_X6_init_imobj : (Cond.instanceMethod objectInit) ∈ wsX6_init := by decide +kernel
set_option maxRecDepth 20000 in
theorem il_X6_init_codeobj : (Cond.code objectInit ⟨#[0xb1]⟩ 1 none) ∈ wsX6_init := by decide +kernel
set_option maxRecDepth 20000 in
theorem il_X6_init_9 : (Cond.classLink RX6 9 RX3) ∈ wsX6_init := by decide +kernel
set_option maxRecDepth 20000 in
theorem il_X6_init_instX3 : (Cond.instantiable RX3 3) ∈ wsX6_init := by decide +kernel
set_option maxRecDepth 20000 in
theorem il_X6_init_iniX3 : (Cond.initialized RX3) ∈ wsX6_init := by decide +kernel
set_option maxRecDepth 20000 in
theorem iu_X6_init_3 : ∀ w ∈ u_ws RX3 TX3 3, w ∈ wsX6_init := by decide +kernel
set_option maxRecDepth 20000 in
theorem il_X6_init_im_X3_init : (Cond.instanceMethod yX3_init) ∈ wsX6_init := by decide +kernel
set_option maxRecDepth 20000 in
theorem il_X6_init_11 : (Cond.methodLink RX6 11 yX3_init) ∈ wsX6_init := by decide +kernel
set_option maxRecDepth 20000 in
theorem il_X6_init_12 : (Cond.fieldLink RX6 12 "BayerGate" "scene" "LBayerGate$Scene;") ∈ wsX6_init := by decide +kernel
set_option maxRecDepth 20000 in
theorem iu_X6_init_6 : ∀ w ∈ u_ws RX6 TX6 9, w ∈ wsX6_init := by decide +kernel
set_option maxRecDepth 20000 in
theorem il_X6_init_16 : (Cond.classLink RX6 16 RX4) ∈ wsX6_init := by decide +kernel
set_option maxRecDepth 20000 in
theorem il_X6_init_instX4 : (Cond.instantiable RX4 3) ∈ wsX6_init := by decide +kernel
set_option maxRecDepth 20000 in
theorem il_X6_init_iniX4 : (Cond.initialized RX4) ∈ wsX6_init := by decide +kernel
set_option maxRecDepth 20000 in
theorem iu_X6_init_4 : ∀ w ∈ u_ws RX4 TX4 3, w ∈ wsX6_init := by decide +kernel
set_option maxRecDepth 20000 in
theorem il_X6_init_im_X4_init : (Cond.instanceMethod yX4_init) ∈ wsX6_init := by decide +kernel
set_option maxRecDepth 20000 in
theorem il_X6_init_19 : (Cond.fieldLink RX6 19 "BayerGate" "sensor" "LBayerGate$Sensor;") ∈ wsX6_init := by decide +kernel
set_option maxRecDepth 20000 in
theorem il_X6_init_23 : (Cond.classLink RX6 23 RX1) ∈ wsX6_init := by decide +kernel
set_option maxRecDepth 20000 in
theorem il_X6_init_25 : (Cond.fieldLink RX6 25 "BayerGate" "frameRow" "[LBayerGate$Frame;") ∈ wsX6_init := by decide +kernel
set_option maxRecDepth 20000 in
theorem il_X6_init_29 : (Cond.classLink RX6 29 RX5) ∈ wsX6_init := by decide +kernel
set_option maxRecDepth 20000 in
theorem il_X6_init_31 : (Cond.fieldLink RX6 31 "BayerGate" "fileRow" "[LBayerGate$StoredFile;") ∈ wsX6_init := by decide +kernel
set_option maxRecDepth 20000 in
theorem il_X6_init_35 : (Cond.fieldLink RX6 35 "BayerGate" "frameCount" "I") ∈ wsX6_init := by decide +kernel
set_option maxRecDepth 20000 in
theorem il_X6_init_39 : (Cond.fieldLink RX6 39 "BayerGate" "fileCount" "I") ∈ wsX6_init := by decide +kernel
set_option maxRecDepth 20000 in
theorem il_X6_init_instX1 : (Cond.instantiable RX1 5) ∈ wsX6_init := by decide +kernel
set_option maxRecDepth 20000 in
theorem il_X6_init_iniX1 : (Cond.initialized RX1) ∈ wsX6_init := by decide +kernel
set_option maxRecDepth 20000 in
theorem iu_X6_init_1 : ∀ w ∈ u_ws RX1 TX1 5, w ∈ wsX6_init := by decide +kernel
set_option maxRecDepth 20000 in
theorem il_X6_init_im_X1_init : (Cond.instanceMethod yX1_init) ∈ wsX6_init := by decide +kernel
set_option maxRecDepth 20000 in
theorem il_X6_init_43 : (Cond.fieldLink RX6 43 "BayerGate" "trial" "LBayerGate$Frame;") ∈ wsX6_init := by decide +kernel
set_option maxRecDepth 20000 in
theorem il_X6_init_47 : (Cond.classLink RX6 47 RX2) ∈ wsX6_init := by decide +kernel
set_option maxRecDepth 20000 in
theorem il_X6_init_instX2 : (Cond.instantiable RX2 2) ∈ wsX6_init := by decide +kernel
set_option maxRecDepth 20000 in
theorem il_X6_init_iniX2 : (Cond.initialized RX2) ∈ wsX6_init := by decide +kernel
set_option maxRecDepth 20000 in
theorem iu_X6_init_2 : ∀ w ∈ u_ws RX2 TX2 2, w ∈ wsX6_init := by decide +kernel
set_option maxRecDepth 20000 in
theorem il_X6_init_im_X2_init : (Cond.instanceMethod yX2_init) ∈ wsX6_init := by decide +kernel
set_option maxRecDepth 20000 in
theorem il_X6_init_50 : (Cond.fieldLink RX6 50 "BayerGate" "developed" "LBayerGate$Picture;") ∈ wsX6_init := by decide +kernel
set_option maxRecDepth 20000 in
theorem il_X6_init_54 : (Cond.fieldLink RX6 54 "BayerGate" "compared" "LBayerGate$Picture;") ∈ wsX6_init := by decide +kernel
set_option maxRecDepth 20000 in
theorem il_X6_init_instX5 : (Cond.instantiable RX5 3) ∈ wsX6_init := by decide +kernel
set_option maxRecDepth 20000 in
theorem il_X6_init_iniX5 : (Cond.initialized RX5) ∈ wsX6_init := by decide +kernel
set_option maxRecDepth 20000 in
theorem iu_X6_init_5 : ∀ w ∈ u_ws RX5 TX5 3, w ∈ wsX6_init := by decide +kernel
set_option maxRecDepth 20000 in
theorem il_X6_init_im_X5_init : (Cond.instanceMethod yX5_init) ∈ wsX6_init := by decide +kernel
set_option maxHeartbeats 4000000 in
set_option maxRecDepth 100000 in
theorem kX6_init (l : Launch) (G : iG) (N : Nat) (ad : Nat → Nat) (C : Nat → va_E) (h0 : C N = ob 6 [.null, .null, .null, .null, .int (nI 0), .int (nI 0), .null, .null, .null]) (sz : Nat) : Met l yX6_init wsX6_init rmX6_init (iPreV G (N + 1) ad C sz [.ref (ad N)]) (va_Qv (fun (u : iU) => (∀ j, j < N + 1 → u.1 j = ad j) ∧ (∀ j, j < N → u.2 j = C j) ∧ Cam G (N + 74) u.1 u.2 N S0) (iB2 G (N + 74) (iA (N + 1) ad sz)) (iA (N + 1) ad sz)) 73 1553 (iA (N + 1) ad sz) := by
  refine Met.ofW (cc := cX6_init) (maxL := 2) (ret := none) (by decide) rfl ?_
  intro p e s m args below meth c s₁ B hml hv
  obtain ⟨rfl, ⟨hsz, hP, hK, hD0⟩, hV⟩ := hv
  have hx := B.exec
  have hb := B.bytes
  have hr := B.returns
  have hts := atoms_spec (ws := wsX6_init) B.pre
  have hown : s.vm.findClass RX6 = some m.cls := findClass_of_methodNamed B.named
  have hlocks := B.notSynchronized
  have hin : meth.name = "<init>" := (name_of_methodNamed B.named B.method).1
  subst hsz
  have hD := wl_self hD0 s.heap.size
  have hA : ∀ q : Nat, s.heap.size ≤ q → iA (N + 1) ad s.heap.size q := fun q h => Or.inr h
  have hS : va_S (iA (N + 1) ad s.heap.size) s.heap s.heap [] := va_S.rf
  have hP : va_P G.1 vwB (wl (N + 1) ad C) s.heap := hP
  have hl := lv_entry ([.ref (ad N)]) (n := 2) (Nat.le_of_ble_eq_true rfl)
  rw [lg_entry_eq]
  generalize (lg_sl ([.ref (ad N)]) ++ List.replicate (2 - (lg_sl ([.ref (ad N)])).length) Slot.unset).toArray = ls at hl ⊢
  have hl : lv_has ls 2 [(0, .ref (ad N))] := hl
  refine lv_aload_n hx hb dX6_init_0 rfl (lv_at hl 0 rfl) ?_
  refine W.objInit hx hb hown (hts _ il_X6_init_3) (hts _ il_X6_init_imobj) (hts _ il_X6_init_codeobj) rfl (by rw [hml]; exact hl.1) rfl dX6_init_1 (Nat.le_of_ble_eq_true rfl) (Nat.le_of_ble_eq_true rfl) ?_
  refine W.eq (g2 := F0 m 4 ls []) rfl ?_
  refine lv_aload_n hx hb dX6_init_4 rfl (lv_at hl 0 rfl) ?_
  refine iw_new (ci := 3) (fs := [.null, .null, .int (nI 0)]) (T := TX3) (n := 3) hx hb hts iu_X6_init_3 tyX3 tyX3_ok hown (hts _ il_X6_init_9) (hts _ il_X6_init_instX3) (hts _ il_X6_init_iniX3) hK hP hD hS hA rfl (fun j hj => by rcases (show j = 0 ∨ j = 1 ∨ j = 2 by omega) with rfl | rfl | rfl <;> rfl) (Nat.le_of_ble_eq_true rfl) (Nat.le_of_ble_eq_true rfl) dX6_init_5 (fun ad1 C1 H e1 c1 n1 hP hD hS => ?_)
  have k1_N : C1 N = ob 6 [.null, .null, .null, .null, .int (nI 0), .int (nI 0), .null, .null, .null] := (c1 _ (by omega)).trans (h0)
  have ea1 : ∀ j, j < N + 1 → ad1 j = ad j := fun j h => e1 j (by omega)
  have ca1 : ∀ j, j < N → C1 j = C j := fun j h => (c1 j (by omega)).trans (rfl)
  have hl : lv_has ls 2 [(0, .ref (ad1 N))] := by rw [e1 N (by omega)]; exact hl
  refine W.eq (g2 := F0 m 8 ls [.ref (ad1 (N + 1)), .ref (ad1 N)]) (by first | (rw [e1 N (by omega)]; done) | (rw [e1 N (by omega)]; rfl)) ?_
  refine lv_dup hx hb dX6_init_8 rfl ?_
  refine iwg_v (va_runI (As := []) (rest := [.ref (ad1 (N + 1)), .ref (ad1 N)]) ⟨hx, hb, hml, hown, hts⟩ (kX3_init l G (N + 1) ad1 _ (n1) _) (cwI 0 hts gX6_init_X3_init rfl rfl rfl (hts _ il_X6_init_iniX3) (hts _ il_X6_init_11) (hts _ il_X6_init_im_X3_init) rfl (by decide +kernel) ⟨Nat.le_of_ble_eq_true rfl, Nat.le_of_ble_eq_true rfl⟩) (iPS hK hP hD [.ref (ad1 (N + 1))])  rfl rfl hl.1 rfl (lv_room (Nat.le_of_ble_eq_true rfl)) dX6_init_9 ⟨Nat.le_of_ble_eq_true rfl, Nat.le_of_ble_eq_true rfl⟩) hD hS hA (fun ad2 C2 H locs hw8 hP hD hS => ?_)
  dsimp only at hw8
  obtain ⟨e2, c2, q2_scN_1⟩ := hw8
  have k2_N : C2 N = ob 6 [.null, .null, .null, .null, .int (nI 0), .int (nI 0), .null, .null, .null] := (c2 _ (by omega)).trans (k1_N)
  have ea2 : ∀ j, j < N + 1 → ad2 j = ad j := fun j h => (e2 j (by omega)).trans (ea1 j h)
  have ca2 : ∀ j, j < N → C2 j = C j := fun j h => (c2 j (by omega)).trans (ca1 j h)
  have hl : lv_has ls 2 [(0, .ref (ad2 N))] := by rw [e2 N (by omega)]; exact hl
  refine W.eq (g2 := F0 m 12 ls [.ref (ad2 (N + 1)), .ref (ad2 N)]) (by first | (rw [e2 N (by omega), e2 (N + 1) (by omega)]; done) | (rw [e2 N (by omega), e2 (N + 1) (by omega)]; rfl)) ?_
  refine iw_putF (ty := .object "BayerGate$Scene") hx hb hts iu_X6_init_6 tyX6 tyX6_ok nmX6 hown hK hP hD hS (by omega) (k2_N) rfl 0 (by decide) (hts _ il_X6_init_12) (fun _ h9 => h9) rfl hin rfl (by decide +kernel) rfl rfl (Nat.le_of_ble_eq_true rfl) rfl dX6_init_12 (fun H locs hP hD hS => ?_)
  refine lv_aload_n hx hb dX6_init_15 rfl (lv_at hl 0 rfl) ?_
  refine iw_new (ci := 4) (fs := [.null, .null, .int (nI 0)]) (T := TX4) (n := 3) hx hb hts iu_X6_init_4 tyX4 tyX4_ok hown (hts _ il_X6_init_16) (hts _ il_X6_init_instX4) (hts _ il_X6_init_iniX4) hK hP hD hS hA rfl (fun j hj => by rcases (show j = 0 ∨ j = 1 ∨ j = 2 by omega) with rfl | rfl | rfl <;> rfl) (Nat.le_of_ble_eq_true rfl) (Nat.le_of_ble_eq_true rfl) dX6_init_16 (fun ad3 C3 H e3 c3 n3 hP hD hS => ?_)
  have k3_N : C3 N = ob 6 [.ref (ad3 (N + 1)), .null, .null, .null, .int (nI 0), .int (nI 0), .null, .null, .null] := (c3 _ (by omega)).trans ((va_us _ _ _).trans (by first | (rw [e3 (N + 1) (by omega)]; done) | (rw [e3 (N + 1) (by omega)]; rfl)))
  have q3_scN_1 := isSc_gr e3 c3 (by omega) (by omega) (isSc_up q2_scN_1 (by omega))
  have ea3 : ∀ j, j < N + 1 → ad3 j = ad j := fun j h => (e3 j (by omega)).trans (ea2 j h)
  have ca3 : ∀ j, j < N → C3 j = C j := fun j h => (c3 j (by omega)).trans ((va_un _ _ (by omega)).trans (ca2 j h))
  have hl : lv_has ls 2 [(0, .ref (ad3 N))] := by rw [e3 N (by omega)]; exact hl
  refine W.eq (g2 := F0 m 19 ls [.ref (ad3 (N + 4)), .ref (ad3 N)]) (by first | (rw [e3 N (by omega)]; done) | (rw [e3 N (by omega)]; rfl)) ?_
  refine lv_dup hx hb dX6_init_19 rfl ?_
  refine iwg_v (va_runIN (As := []) (rest := [.ref (ad3 (N + 4)), .ref (ad3 N)]) ⟨hx, hb, hml, hown, hts⟩ (kX4_init l G (N + 4) ad3 _ (n3) _) ⟨va_cnB (host := RX6) 0 hts gX6_init_X4_init_n18 rfl rfl rfl (nw_RX6_18 hK.2) (hts _ il_X6_init_iniX4) (by decide +kernel) ⟨Nat.le_of_ble_eq_true rfl, Nat.le_of_ble_eq_true rfl⟩, rfl, (hts _ il_X6_init_im_X4_init)⟩ (iPS hK hP hD [.ref (ad3 (N + 4))])  rfl rfl hl.1 rfl (lv_room (Nat.le_of_ble_eq_true rfl)) dX6_init_20 ⟨Nat.le_of_ble_eq_true rfl, Nat.le_of_ble_eq_true rfl⟩) hD hS hA (fun ad4 C4 H locs hw8 hP hD hS => ?_)
  dsimp only at hw8
  obtain ⟨e4, c4, q4_seN_4⟩ := hw8
  have k4_N : C4 N = ob 6 [.ref (ad4 (N + 1)), .null, .null, .null, .int (nI 0), .int (nI 0), .null, .null, .null] := (c4 _ (by omega)).trans ((k3_N).trans (by first | (rw [e4 (N + 1) (by omega)]; done) | (rw [e4 (N + 1) (by omega)]; rfl)))
  have q4_scN_1 := isSc_gr e4 c4 (by omega) (by omega) q3_scN_1
  have ea4 : ∀ j, j < N + 1 → ad4 j = ad j := fun j h => (e4 j (by omega)).trans (ea3 j h)
  have ca4 : ∀ j, j < N → C4 j = C j := fun j h => (c4 j (by omega)).trans (ca3 j h)
  have hl : lv_has ls 2 [(0, .ref (ad4 N))] := by rw [e4 N (by omega)]; exact hl
  refine W.eq (g2 := F0 m 23 ls [.ref (ad4 (N + 4)), .ref (ad4 N)]) (by first | (rw [e4 N (by omega), e4 (N + 4) (by omega)]; done) | (rw [e4 N (by omega), e4 (N + 4) (by omega)]; rfl)) ?_
  refine iw_putF (ty := .object "BayerGate$Sensor") hx hb hts iu_X6_init_6 tyX6 tyX6_ok nmX6 hown hK hP hD hS (by omega) (k4_N) rfl 1 (by decide) (hts _ il_X6_init_19) (fun _ h9 => h9) rfl hin rfl (by decide +kernel) rfl rfl (Nat.le_of_ble_eq_true rfl) rfl dX6_init_23 (fun H locs hP hD hS => ?_)
  refine lv_aload_n hx hb dX6_init_26 rfl (lv_at hl 0 rfl) ?_
  refine lv_bipush (v := nI 6) hx hb dX6_init_27 (by decide) ?_
  refine iw_newq (t := 3) (N' := 6) hx hb hown (hts _ il_X6_init_23) (vx_ao1 hV) hK rfl hP hD hS hA (by decide) (by decide) (Nat.le_of_ble_eq_true rfl) (Nat.le_of_ble_eq_true rfl) (Nat.le_of_ble_eq_true rfl) dX6_init_29 (fun ad5 C5 H e5 c5 n5 hP hD hS => ?_)
  have k5_N : C5 N = ob 6 [.ref (ad5 (N + 1)), .ref (ad5 (N + 4)), .null, .null, .int (nI 0), .int (nI 0), .null, .null, .null] := (c5 _ (by omega)).trans ((va_us _ _ _).trans (by first | (rw [e5 (N + 1) (by omega), e5 (N + 4) (by omega)]; done) | (rw [e5 (N + 1) (by omega), e5 (N + 4) (by omega)]; rfl)))
  have q5_scN_1 := isSc_gr e5 c5 (by omega) (by omega) (isSc_up q4_scN_1 (by omega))
  have q5_seN_4 := isSe_gr e5 c5 (by omega) (by omega) (isSe_up q4_seN_4 (by omega))
  have ea5 : ∀ j, j < N + 1 → ad5 j = ad j := fun j h => (e5 j (by omega)).trans (ea4 j h)
  have ca5 : ∀ j, j < N → C5 j = C j := fun j h => (c5 j (by omega)).trans ((va_un _ _ (by omega)).trans (ca4 j h))
  have hl : lv_has ls 2 [(0, .ref (ad5 N))] := by rw [e5 N (by omega)]; exact hl
  refine W.eq (g2 := F0 m 32 ls [.ref (ad5 (N + 7)), .ref (ad5 N)]) (by first | (rw [e5 N (by omega)]; done) | (rw [e5 N (by omega)]; rfl)) ?_
  refine iw_putF (ty := .array (.object "BayerGate$Frame")) hx hb hts iu_X6_init_6 tyX6 tyX6_ok nmX6 hown hK hP hD hS (by omega) (k5_N) rfl 2 (by decide) (hts _ il_X6_init_25) (fun _ h9 => h9) rfl hin rfl (by decide +kernel) rfl rfl (Nat.le_of_ble_eq_true rfl) rfl dX6_init_32 (fun H locs hP hD hS => ?_)
  refine lv_aload_n hx hb dX6_init_35 rfl (lv_at hl 0 rfl) ?_
  refine lv_bipush (v := nI 6) hx hb dX6_init_36 (by decide) ?_
  refine iw_newq (t := 4) (N' := 6) hx hb hown (hts _ il_X6_init_29) (vx_ao5 hV) hK rfl hP hD hS hA (by decide) (by decide) (Nat.le_of_ble_eq_true rfl) (Nat.le_of_ble_eq_true rfl) (Nat.le_of_ble_eq_true rfl) dX6_init_38 (fun ad6 C6 H e6 c6 n6 hP hD hS => ?_)
  have k6_N : C6 N = ob 6 [.ref (ad6 (N + 1)), .ref (ad6 (N + 4)), .ref (ad6 (N + 7)), .null, .int (nI 0), .int (nI 0), .null, .null, .null] := (c6 _ (by omega)).trans ((va_us _ _ _).trans (by first | (rw [e6 (N + 1) (by omega), e6 (N + 4) (by omega), e6 (N + 7) (by omega)]; done) | (rw [e6 (N + 1) (by omega), e6 (N + 4) (by omega), e6 (N + 7) (by omega)]; rfl)))
  have k6_N_7 : C6 (N + 7) = ra G 3 6 (fun _ => none) := (c6 _ (by omega)).trans ((va_un _ _ (by omega)).trans (n5))
  have q6_scN_1 := isSc_gr e6 c6 (by omega) (by omega) (isSc_up q5_scN_1 (by omega))
  have q6_seN_4 := isSe_gr e6 c6 (by omega) (by omega) (isSe_up q5_seN_4 (by omega))
  have ea6 : ∀ j, j < N + 1 → ad6 j = ad j := fun j h => (e6 j (by omega)).trans (ea5 j h)
  have ca6 : ∀ j, j < N → C6 j = C j := fun j h => (c6 j (by omega)).trans ((va_un _ _ (by omega)).trans (ca5 j h))
  have hl : lv_has ls 2 [(0, .ref (ad6 N))] := by rw [e6 N (by omega)]; exact hl
  refine W.eq (g2 := F0 m 41 ls [.ref (ad6 (N + 8)), .ref (ad6 N)]) (by first | (rw [e6 N (by omega)]; done) | (rw [e6 N (by omega)]; rfl)) ?_
  refine iw_putF (ty := .array (.object "BayerGate$StoredFile")) hx hb hts iu_X6_init_6 tyX6 tyX6_ok nmX6 hown hK hP hD hS (by omega) (k6_N) rfl 3 (by decide) (hts _ il_X6_init_31) (fun _ h9 => h9) rfl hin rfl (by decide +kernel) rfl rfl (Nat.le_of_ble_eq_true rfl) rfl dX6_init_41 (fun H locs hP hD hS => ?_)
  refine lv_aload_n hx hb dX6_init_44 rfl (lv_at hl 0 rfl) ?_
  refine lv_iconst (v := nI 0) hx hb dX6_init_45 (by decide) ?_
  refine iw_put (ty := .int) hx hb hts iu_X6_init_6 tyX6 tyX6_ok nmX6 hown hK hP hD hS (by omega) (va_us _ _ _) rfl 4 (by decide) (hts _ il_X6_init_35) (fun _ h9 => h9) rfl (by decide +kernel) rfl rfl (Nat.le_of_ble_eq_true rfl) rfl dX6_init_46 (fun H locs hP hD hS => ?_)
  rw [va_uu _ _ _ _] at hP hD
  refine lv_aload_n hx hb dX6_init_49 rfl (lv_at hl 0 rfl) ?_
  refine lv_iconst (v := nI 0) hx hb dX6_init_50 (by decide) ?_
  refine iw_put (ty := .int) hx hb hts iu_X6_init_6 tyX6 tyX6_ok nmX6 hown hK hP hD hS (by omega) (va_us _ _ _) rfl 5 (by decide) (hts _ il_X6_init_39) (fun _ h9 => h9) rfl (by decide +kernel) rfl rfl (Nat.le_of_ble_eq_true rfl) rfl dX6_init_51 (fun H locs hP hD hS => ?_)
  rw [va_uu _ _ _ _] at hP hD
  refine lv_aload_n hx hb dX6_init_54 rfl (lv_at hl 0 rfl) ?_
  refine iw_new (ci := 1) (fs := [.null, .null, .int (nI 0), .int (nI 0), .int (nI 0)]) (T := TX1) (n := 5) hx hb hts iu_X6_init_1 tyX1 tyX1_ok hown (hts _ il_X6_init_23) (hts _ il_X6_init_instX1) (hts _ il_X6_init_iniX1) hK hP hD hS hA rfl (fun j hj => by rcases (show j = 0 ∨ j = 1 ∨ j = 2 ∨ j = 3 ∨ j = 4 by omega) with rfl | rfl | rfl | rfl | rfl <;> rfl) (Nat.le_of_ble_eq_true rfl) (Nat.le_of_ble_eq_true rfl) dX6_init_55 (fun ad7 C7 H e7 c7 n7 hP hD hS => ?_)
  have k7_N : C7 N = ob 6 [.ref (ad7 (N + 1)), .ref (ad7 (N + 4)), .ref (ad7 (N + 7)), .ref (ad7 (N + 8)), .int (nI 0), .int (nI 0), .null, .null, .null] := (c7 _ (by omega)).trans ((va_us _ _ _).trans (by first | (rw [e7 (N + 1) (by omega), e7 (N + 4) (by omega), e7 (N + 7) (by omega), e7 (N + 8) (by omega)]; done) | (rw [e7 (N + 1) (by omega), e7 (N + 4) (by omega), e7 (N + 7) (by omega), e7 (N + 8) (by omega)]; rfl)))
  have k7_N_7 : C7 (N + 7) = ra G 3 6 (fun _ => none) := (c7 _ (by omega)).trans ((va_un _ _ (by omega)).trans (k6_N_7))
  have k7_N_8 : C7 (N + 8) = ra G 4 6 (fun _ => none) := (c7 _ (by omega)).trans ((va_un _ _ (by omega)).trans (n6))
  have q7_scN_1 := isSc_gr e7 c7 (by omega) (by omega) (isSc_up q6_scN_1 (by omega))
  have q7_seN_4 := isSe_gr e7 c7 (by omega) (by omega) (isSe_up q6_seN_4 (by omega))
  have ea7 : ∀ j, j < N + 1 → ad7 j = ad j := fun j h => (e7 j (by omega)).trans (ea6 j h)
  have ca7 : ∀ j, j < N → C7 j = C j := fun j h => (c7 j (by omega)).trans ((va_un _ _ (by omega)).trans (ca6 j h))
  have hl : lv_has ls 2 [(0, .ref (ad7 N))] := by rw [e7 N (by omega)]; exact hl
  refine W.eq (g2 := F0 m 58 ls [.ref (ad7 (N + 9)), .ref (ad7 N)]) (by first | (rw [e7 N (by omega)]; done) | (rw [e7 N (by omega)]; rfl)) ?_
  refine lv_dup hx hb dX6_init_58 rfl ?_
  refine iwg_v (va_runIN (As := []) (rest := [.ref (ad7 (N + 9)), .ref (ad7 N)]) ⟨hx, hb, hml, hown, hts⟩ (kX1_init l G (N + 9) ad7 _ (n7) _) ⟨va_cnB (host := RX6) 0 hts gX6_init_X1_init_n42 rfl rfl rfl (nw_RX6_42 hK.2) (hts _ il_X6_init_iniX1) (by decide +kernel) ⟨Nat.le_of_ble_eq_true rfl, Nat.le_of_ble_eq_true rfl⟩, rfl, (hts _ il_X6_init_im_X1_init)⟩ (iPS hK hP hD [.ref (ad7 (N + 9))])  rfl rfl hl.1 rfl (lv_room (Nat.le_of_ble_eq_true rfl)) dX6_init_59 ⟨Nat.le_of_ble_eq_true rfl, Nat.le_of_ble_eq_true rfl⟩) hD hS hA (fun ad8 C8 H locs hw8 hP hD hS => ?_)
  dsimp only at hw8
  obtain ⟨e8, c8, q8_frN_9⟩ := hw8
  have k8_N : C8 N = ob 6 [.ref (ad8 (N + 1)), .ref (ad8 (N + 4)), .ref (ad8 (N + 7)), .ref (ad8 (N + 8)), .int (nI 0), .int (nI 0), .null, .null, .null] := (c8 _ (by omega)).trans ((k7_N).trans (by first | (rw [e8 (N + 1) (by omega), e8 (N + 4) (by omega), e8 (N + 7) (by omega), e8 (N + 8) (by omega)]; done) | (rw [e8 (N + 1) (by omega), e8 (N + 4) (by omega), e8 (N + 7) (by omega), e8 (N + 8) (by omega)]; rfl)))
  have k8_N_7 : C8 (N + 7) = ra G 3 6 (fun _ => none) := (c8 _ (by omega)).trans (k7_N_7)
  have k8_N_8 : C8 (N + 8) = ra G 4 6 (fun _ => none) := (c8 _ (by omega)).trans (k7_N_8)
  have q8_scN_1 := isSc_gr e8 c8 (by omega) (by omega) q7_scN_1
  have q8_seN_4 := isSe_gr e8 c8 (by omega) (by omega) q7_seN_4
  have ea8 : ∀ j, j < N + 1 → ad8 j = ad j := fun j h => (e8 j (by omega)).trans (ea7 j h)
  have ca8 : ∀ j, j < N → C8 j = C j := fun j h => (c8 j (by omega)).trans (ca7 j h)
  have hl : lv_has ls 2 [(0, .ref (ad8 N))] := by rw [e8 N (by omega)]; exact hl
  refine W.eq (g2 := F0 m 62 ls [.ref (ad8 (N + 9)), .ref (ad8 N)]) (by first | (rw [e8 N (by omega), e8 (N + 9) (by omega)]; done) | (rw [e8 N (by omega), e8 (N + 9) (by omega)]; rfl)) ?_
  refine iw_putF (ty := .object "BayerGate$Frame") hx hb hts iu_X6_init_6 tyX6 tyX6_ok nmX6 hown hK hP hD hS (by omega) (k8_N) rfl 6 (by decide) (hts _ il_X6_init_43) (fun _ h9 => h9) rfl hin rfl (by decide +kernel) rfl rfl (Nat.le_of_ble_eq_true rfl) rfl dX6_init_62 (fun H locs hP hD hS => ?_)
  refine lv_aload_n hx hb dX6_init_65 rfl (lv_at hl 0 rfl) ?_
  refine iw_new (ci := 2) (fs := [.null, .null]) (T := TX2) (n := 2) hx hb hts iu_X6_init_2 tyX2 tyX2_ok hown (hts _ il_X6_init_47) (hts _ il_X6_init_instX2) (hts _ il_X6_init_iniX2) hK hP hD hS hA rfl (fun j hj => by rcases (show j = 0 ∨ j = 1 by omega) with rfl | rfl <;> rfl) (Nat.le_of_ble_eq_true rfl) (Nat.le_of_ble_eq_true rfl) dX6_init_66 (fun ad9 C9 H e9 c9 n9 hP hD hS => ?_)
  have k9_N : C9 N = ob 6 [.ref (ad9 (N + 1)), .ref (ad9 (N + 4)), .ref (ad9 (N + 7)), .ref (ad9 (N + 8)), .int (nI 0), .int (nI 0), .ref (ad9 (N + 9)), .null, .null] := (c9 _ (by omega)).trans ((va_us _ _ _).trans (by first | (rw [e9 (N + 1) (by omega), e9 (N + 4) (by omega), e9 (N + 7) (by omega), e9 (N + 8) (by omega), e9 (N + 9) (by omega)]; done) | (rw [e9 (N + 1) (by omega), e9 (N + 4) (by omega), e9 (N + 7) (by omega), e9 (N + 8) (by omega), e9 (N + 9) (by omega)]; rfl)))
  have k9_N_7 : C9 (N + 7) = ra G 3 6 (fun _ => none) := (c9 _ (by omega)).trans ((va_un _ _ (by omega)).trans (k8_N_7))
  have k9_N_8 : C9 (N + 8) = ra G 4 6 (fun _ => none) := (c9 _ (by omega)).trans ((va_un _ _ (by omega)).trans (k8_N_8))
  have q9_scN_1 := isSc_gr e9 c9 (by omega) (by omega) (isSc_up q8_scN_1 (by omega))
  have q9_seN_4 := isSe_gr e9 c9 (by omega) (by omega) (isSe_up q8_seN_4 (by omega))
  have q9_frN_9 := isFr_gr e9 c9 (by omega) (by omega) (isFr_up q8_frN_9 (by omega))
  have ea9 : ∀ j, j < N + 1 → ad9 j = ad j := fun j h => (e9 j (by omega)).trans (ea8 j h)
  have ca9 : ∀ j, j < N → C9 j = C j := fun j h => (c9 j (by omega)).trans ((va_un _ _ (by omega)).trans (ca8 j h))
  have hl : lv_has ls 2 [(0, .ref (ad9 N))] := by rw [e9 N (by omega)]; exact hl
  refine W.eq (g2 := F0 m 69 ls [.ref (ad9 (N + 14)), .ref (ad9 N)]) (by first | (rw [e9 N (by omega)]; done) | (rw [e9 N (by omega)]; rfl)) ?_
  refine lv_dup hx hb dX6_init_69 rfl ?_
  refine iwg_v (va_runIN (As := []) (rest := [.ref (ad9 (N + 14)), .ref (ad9 N)]) ⟨hx, hb, hml, hown, hts⟩ (kX2_init l G (N + 14) ad9 _ (n9) _) ⟨va_cnB (host := RX6) 0 hts gX6_init_X2_init_n49 rfl rfl rfl (nw_RX6_49 hK.2) (hts _ il_X6_init_iniX2) (by decide +kernel) ⟨Nat.le_of_ble_eq_true rfl, Nat.le_of_ble_eq_true rfl⟩, rfl, (hts _ il_X6_init_im_X2_init)⟩ (iPS hK hP hD [.ref (ad9 (N + 14))])  rfl rfl hl.1 rfl (lv_room (Nat.le_of_ble_eq_true rfl)) dX6_init_70 ⟨Nat.le_of_ble_eq_true rfl, Nat.le_of_ble_eq_true rfl⟩) hD hS hA (fun ad10 C10 H locs hw8 hP hD hS => ?_)
  dsimp only at hw8
  obtain ⟨e10, c10, q10_piN_14⟩ := hw8
  have k10_N : C10 N = ob 6 [.ref (ad10 (N + 1)), .ref (ad10 (N + 4)), .ref (ad10 (N + 7)), .ref (ad10 (N + 8)), .int (nI 0), .int (nI 0), .ref (ad10 (N + 9)), .null, .null] := (c10 _ (by omega)).trans ((k9_N).trans (by first | (rw [e10 (N + 1) (by omega), e10 (N + 4) (by omega), e10 (N + 7) (by omega), e10 (N + 8) (by omega), e10 (N + 9) (by omega)]; done) | (rw [e10 (N + 1) (by omega), e10 (N + 4) (by omega), e10 (N + 7) (by omega), e10 (N + 8) (by omega), e10 (N + 9) (by omega)]; rfl)))
  have k10_N_7 : C10 (N + 7) = ra G 3 6 (fun _ => none) := (c10 _ (by omega)).trans (k9_N_7)
  have k10_N_8 : C10 (N + 8) = ra G 4 6 (fun _ => none) := (c10 _ (by omega)).trans (k9_N_8)
  have q10_scN_1 := isSc_gr e10 c10 (by omega) (by omega) q9_scN_1
  have q10_seN_4 := isSe_gr e10 c10 (by omega) (by omega) q9_seN_4
  have q10_frN_9 := isFr_gr e10 c10 (by omega) (by omega) q9_frN_9
  have ea10 : ∀ j, j < N + 1 → ad10 j = ad j := fun j h => (e10 j (by omega)).trans (ea9 j h)
  have ca10 : ∀ j, j < N → C10 j = C j := fun j h => (c10 j (by omega)).trans (ca9 j h)
  have hl : lv_has ls 2 [(0, .ref (ad10 N))] := by rw [e10 N (by omega)]; exact hl
  refine W.eq (g2 := F0 m 73 ls [.ref (ad10 (N + 14)), .ref (ad10 N)]) (by first | (rw [e10 N (by omega), e10 (N + 14) (by omega)]; done) | (rw [e10 N (by omega), e10 (N + 14) (by omega)]; rfl)) ?_
  refine iw_putF (ty := .object "BayerGate$Picture") hx hb hts iu_X6_init_6 tyX6 tyX6_ok nmX6 hown hK hP hD hS (by omega) (k10_N) rfl 7 (by decide) (hts _ il_X6_init_50) (fun _ h9 => h9) rfl hin rfl (by decide +kernel) rfl rfl (Nat.le_of_ble_eq_true rfl) rfl dX6_init_73 (fun H locs hP hD hS => ?_)
  refine lv_aload_n hx hb dX6_init_76 rfl (lv_at hl 0 rfl) ?_
  refine iw_new (ci := 2) (fs := [.null, .null]) (T := TX2) (n := 2) hx hb hts iu_X6_init_2 tyX2 tyX2_ok hown (hts _ il_X6_init_47) (hts _ il_X6_init_instX2) (hts _ il_X6_init_iniX2) hK hP hD hS hA rfl (fun j hj => by rcases (show j = 0 ∨ j = 1 by omega) with rfl | rfl <;> rfl) (Nat.le_of_ble_eq_true rfl) (Nat.le_of_ble_eq_true rfl) dX6_init_77 (fun ad11 C11 H e11 c11 n11 hP hD hS => ?_)
  have k11_N : C11 N = ob 6 [.ref (ad11 (N + 1)), .ref (ad11 (N + 4)), .ref (ad11 (N + 7)), .ref (ad11 (N + 8)), .int (nI 0), .int (nI 0), .ref (ad11 (N + 9)), .ref (ad11 (N + 14)), .null] := (c11 _ (by omega)).trans ((va_us _ _ _).trans (by first | (rw [e11 (N + 1) (by omega), e11 (N + 4) (by omega), e11 (N + 7) (by omega), e11 (N + 8) (by omega), e11 (N + 9) (by omega), e11 (N + 14) (by omega)]; done) | (rw [e11 (N + 1) (by omega), e11 (N + 4) (by omega), e11 (N + 7) (by omega), e11 (N + 8) (by omega), e11 (N + 9) (by omega), e11 (N + 14) (by omega)]; rfl)))
  have k11_N_7 : C11 (N + 7) = ra G 3 6 (fun _ => none) := (c11 _ (by omega)).trans ((va_un _ _ (by omega)).trans (k10_N_7))
  have k11_N_8 : C11 (N + 8) = ra G 4 6 (fun _ => none) := (c11 _ (by omega)).trans ((va_un _ _ (by omega)).trans (k10_N_8))
  have q11_scN_1 := isSc_gr e11 c11 (by omega) (by omega) (isSc_up q10_scN_1 (by omega))
  have q11_seN_4 := isSe_gr e11 c11 (by omega) (by omega) (isSe_up q10_seN_4 (by omega))
  have q11_frN_9 := isFr_gr e11 c11 (by omega) (by omega) (isFr_up q10_frN_9 (by omega))
  have q11_piN_14 := isPi_gr e11 c11 (by omega) (by omega) (isPi_up q10_piN_14 (by omega))
  have ea11 : ∀ j, j < N + 1 → ad11 j = ad j := fun j h => (e11 j (by omega)).trans (ea10 j h)
  have ca11 : ∀ j, j < N → C11 j = C j := fun j h => (c11 j (by omega)).trans ((va_un _ _ (by omega)).trans (ca10 j h))
  have hl : lv_has ls 2 [(0, .ref (ad11 N))] := by rw [e11 N (by omega)]; exact hl
  refine W.eq (g2 := F0 m 80 ls [.ref (ad11 (N + 17)), .ref (ad11 N)]) (by first | (rw [e11 N (by omega)]; done) | (rw [e11 N (by omega)]; rfl)) ?_
  refine lv_dup hx hb dX6_init_80 rfl ?_
  refine iwg_v (va_runIN (As := []) (rest := [.ref (ad11 (N + 17)), .ref (ad11 N)]) ⟨hx, hb, hml, hown, hts⟩ (kX2_init l G (N + 17) ad11 _ (n11) _) ⟨va_cnB (host := RX6) 0 hts gX6_init_X2_init_n49 rfl rfl rfl (nw_RX6_49 hK.2) (hts _ il_X6_init_iniX2) (by decide +kernel) ⟨Nat.le_of_ble_eq_true rfl, Nat.le_of_ble_eq_true rfl⟩, rfl, (hts _ il_X6_init_im_X2_init)⟩ (iPS hK hP hD [.ref (ad11 (N + 17))])  rfl rfl hl.1 rfl (lv_room (Nat.le_of_ble_eq_true rfl)) dX6_init_81 ⟨Nat.le_of_ble_eq_true rfl, Nat.le_of_ble_eq_true rfl⟩) hD hS hA (fun ad12 C12 H locs hw8 hP hD hS => ?_)
  dsimp only at hw8
  obtain ⟨e12, c12, q12_piN_17⟩ := hw8
  have k12_N : C12 N = ob 6 [.ref (ad12 (N + 1)), .ref (ad12 (N + 4)), .ref (ad12 (N + 7)), .ref (ad12 (N + 8)), .int (nI 0), .int (nI 0), .ref (ad12 (N + 9)), .ref (ad12 (N + 14)), .null] := (c12 _ (by omega)).trans ((k11_N).trans (by first | (rw [e12 (N + 1) (by omega), e12 (N + 4) (by omega), e12 (N + 7) (by omega), e12 (N + 8) (by omega), e12 (N + 9) (by omega), e12 (N + 14) (by omega)]; done) | (rw [e12 (N + 1) (by omega), e12 (N + 4) (by omega), e12 (N + 7) (by omega), e12 (N + 8) (by omega), e12 (N + 9) (by omega), e12 (N + 14) (by omega)]; rfl)))
  have k12_N_7 : C12 (N + 7) = ra G 3 6 (fun _ => none) := (c12 _ (by omega)).trans (k11_N_7)
  have k12_N_8 : C12 (N + 8) = ra G 4 6 (fun _ => none) := (c12 _ (by omega)).trans (k11_N_8)
  have q12_scN_1 := isSc_gr e12 c12 (by omega) (by omega) q11_scN_1
  have q12_seN_4 := isSe_gr e12 c12 (by omega) (by omega) q11_seN_4
  have q12_frN_9 := isFr_gr e12 c12 (by omega) (by omega) q11_frN_9
  have q12_piN_14 := isPi_gr e12 c12 (by omega) (by omega) q11_piN_14
  have ea12 : ∀ j, j < N + 1 → ad12 j = ad j := fun j h => (e12 j (by omega)).trans (ea11 j h)
  have ca12 : ∀ j, j < N → C12 j = C j := fun j h => (c12 j (by omega)).trans (ca11 j h)
  have hl : lv_has ls 2 [(0, .ref (ad12 N))] := by rw [e12 N (by omega)]; exact hl
  refine W.eq (g2 := F0 m 84 ls [.ref (ad12 (N + 17)), .ref (ad12 N)]) (by first | (rw [e12 N (by omega), e12 (N + 17) (by omega)]; done) | (rw [e12 N (by omega), e12 (N + 17) (by omega)]; rfl)) ?_
  refine iw_putF (ty := .object "BayerGate$Picture") hx hb hts iu_X6_init_6 tyX6 tyX6_ok nmX6 hown hK hP hD hS (by omega) (k12_N) rfl 8 (by decide) (hts _ il_X6_init_54) (fun _ h9 => h9) rfl hin rfl (by decide +kernel) rfl rfl (Nat.le_of_ble_eq_true rfl) rfl dX6_init_84 (fun H locs hP hD hS => ?_)
  refine lv_iconst (v := nI 0) hx hb dX6_init_87 (by decide) ?_
  refine lv_istore_n (lv' := [(1, .int (nI 0)), (0, .ref (ad12 N))]) hx hb dX6_init_88 rfl hl (by decide) rfl (fun ls hl => ?_)
  refine lv_iload_n hx hb dX6_init_89 rfl (lv_at hl 0 rfl) ?_
  refine lv_bipush (v := nI 6) hx hb dX6_init_90 (by decide) ?_
  refine lv_icmp_ge (tgt := 114) hx hb dX6_init_92 (by decide) (fun c9 => absurd c9 (by decide)) (fun _ => ?_)
  refine lv_aload_n hx hb dX6_init_95 rfl (lv_at hl 1 rfl) ?_
  refine iw_get hx hb hts iu_X6_init_6 hown hK hP (by omega) (va_us _ _ _) rfl 2 (by decide) (hts _ il_X6_init_25) (fun _ h9 => h9) rfl dX6_init_96 ?_
  refine lv_iload_n hx hb dX6_init_99 rfl (lv_at hl 0 rfl) ?_
  refine iw_new (ci := 1) (fs := [.null, .null, .int (nI 0), .int (nI 0), .int (nI 0)]) (T := TX1) (n := 5) hx hb hts iu_X6_init_1 tyX1 tyX1_ok hown (hts _ il_X6_init_23) (hts _ il_X6_init_instX1) (hts _ il_X6_init_iniX1) hK hP hD hS hA rfl (fun j hj => by rcases (show j = 0 ∨ j = 1 ∨ j = 2 ∨ j = 3 ∨ j = 4 by omega) with rfl | rfl | rfl | rfl | rfl <;> rfl) (Nat.le_of_ble_eq_true rfl) (Nat.le_of_ble_eq_true rfl) dX6_init_100 (fun ad13 C13 H e13 c13 n13 hP hD hS => ?_)
  have k13_N : C13 N = ob 6 [.ref (ad13 (N + 1)), .ref (ad13 (N + 4)), .ref (ad13 (N + 7)), .ref (ad13 (N + 8)), .int (nI 0), .int (nI 0), .ref (ad13 (N + 9)), .ref (ad13 (N + 14)), .ref (ad13 (N + 17))] := (c13 _ (by omega)).trans ((va_us _ _ _).trans (by first | (rw [e13 (N + 1) (by omega), e13 (N + 4) (by omega), e13 (N + 7) (by omega), e13 (N + 8) (by omega), e13 (N + 9) (by omega), e13 (N + 14) (by omega), e13 (N + 17) (by omega)]; done) | (rw [e13 (N + 1) (by omega), e13 (N + 4) (by omega), e13 (N + 7) (by omega), e13 (N + 8) (by omega), e13 (N + 9) (by omega), e13 (N + 14) (by omega), e13 (N + 17) (by omega)]; rfl)))
  have k13_N_7 : C13 (N + 7) = ra G 3 6 (fun _ => none) := (c13 _ (by omega)).trans ((va_un _ _ (by omega)).trans (k12_N_7))
  have k13_N_8 : C13 (N + 8) = ra G 4 6 (fun _ => none) := (c13 _ (by omega)).trans ((va_un _ _ (by omega)).trans (k12_N_8))
  have q13_scN_1 := isSc_gr e13 c13 (by omega) (by omega) (isSc_up q12_scN_1 (by omega))
  have q13_seN_4 := isSe_gr e13 c13 (by omega) (by omega) (isSe_up q12_seN_4 (by omega))
  have q13_frN_9 := isFr_gr e13 c13 (by omega) (by omega) (isFr_up q12_frN_9 (by omega))
  have q13_piN_14 := isPi_gr e13 c13 (by omega) (by omega) (isPi_up q12_piN_14 (by omega))
  have q13_piN_17 := isPi_gr e13 c13 (by omega) (by omega) (isPi_up q12_piN_17 (by omega))
  have ea13 : ∀ j, j < N + 1 → ad13 j = ad j := fun j h => (e13 j (by omega)).trans (ea12 j h)
  have ca13 : ∀ j, j < N → C13 j = C j := fun j h => (c13 j (by omega)).trans ((va_un _ _ (by omega)).trans (ca12 j h))
  have hl : lv_has ls 2 [(1, .int (nI 0)), (0, .ref (ad13 N))] := by rw [e13 N (by omega)]; exact hl
  refine W.eq (g2 := F0 m 103 ls [.ref (ad13 (N + 20)), .int (nI 0), .ref (ad13 (N + 7))]) (by first | (rw [e13 (N + 7) (by omega)]; done) | (rw [e13 (N + 7) (by omega)]; rfl)) ?_
  refine lv_dup hx hb dX6_init_103 rfl ?_
  refine iwg_v (va_runIN (As := []) (rest := [.ref (ad13 (N + 20)), .int (nI 0), .ref (ad13 (N + 7))]) ⟨hx, hb, hml, hown, hts⟩ (kX1_init l G (N + 20) ad13 _ (n13) _) ⟨va_cnB (host := RX6) 0 hts gX6_init_X1_init_n42 rfl rfl rfl (nw_RX6_42 hK.2) (hts _ il_X6_init_iniX1) (by decide +kernel) ⟨Nat.le_of_ble_eq_true rfl, Nat.le_of_ble_eq_true rfl⟩, rfl, (hts _ il_X6_init_im_X1_init)⟩ (iPS hK hP hD [.ref (ad13 (N + 20))])  rfl rfl hl.1 rfl (lv_room (Nat.le_of_ble_eq_true rfl)) dX6_init_104 ⟨Nat.le_of_ble_eq_true rfl, Nat.le_of_ble_eq_true rfl⟩) hD hS hA (fun ad14 C14 H locs hw8 hP hD hS => ?_)
  dsimp only at hw8
  obtain ⟨e14, c14, q14_frN_20⟩ := hw8
  have k14_N : C14 N = ob 6 [.ref (ad14 (N + 1)), .ref (ad14 (N + 4)), .ref (ad14 (N + 7)), .ref (ad14 (N + 8)), .int (nI 0), .int (nI 0), .ref (ad14 (N + 9)), .ref (ad14 (N + 14)), .ref (ad14 (N + 17))] := (c14 _ (by omega)).trans ((k13_N).trans (by first | (rw [e14 (N + 1) (by omega), e14 (N + 4) (by omega), e14 (N + 7) (by omega), e14 (N + 8) (by omega), e14 (N + 9) (by omega), e14 (N + 14) (by omega), e14 (N + 17) (by omega)]; done) | (rw [e14 (N + 1) (by omega), e14 (N + 4) (by omega), e14 (N + 7) (by omega), e14 (N + 8) (by omega), e14 (N + 9) (by omega), e14 (N + 14) (by omega), e14 (N + 17) (by omega)]; rfl)))
  have k14_N_7 : C14 (N + 7) = ra G 3 6 (fun _ => none) := (c14 _ (by omega)).trans (k13_N_7)
  have k14_N_8 : C14 (N + 8) = ra G 4 6 (fun _ => none) := (c14 _ (by omega)).trans (k13_N_8)
  have q14_scN_1 := isSc_gr e14 c14 (by omega) (by omega) q13_scN_1
  have q14_seN_4 := isSe_gr e14 c14 (by omega) (by omega) q13_seN_4
  have q14_frN_9 := isFr_gr e14 c14 (by omega) (by omega) q13_frN_9
  have q14_piN_14 := isPi_gr e14 c14 (by omega) (by omega) q13_piN_14
  have q14_piN_17 := isPi_gr e14 c14 (by omega) (by omega) q13_piN_17
  have ea14 : ∀ j, j < N + 1 → ad14 j = ad j := fun j h => (e14 j (by omega)).trans (ea13 j h)
  have ca14 : ∀ j, j < N → C14 j = C j := fun j h => (c14 j (by omega)).trans (ca13 j h)
  have hl : lv_has ls 2 [(1, .int (nI 0)), (0, .ref (ad14 N))] := by rw [e14 N (by omega)]; exact hl
  refine W.eq (g2 := F0 m 107 ls [.ref (ad14 (N + 20)), .int (nI 0), .ref (ad14 (N + 7))]) (by first | (rw [e14 (N + 7) (by omega), e14 (N + 20) (by omega)]; done) | (rw [e14 (N + 7) (by omega), e14 (N + 20) (by omega)]; rfl)) ?_
  refine iw_aast (t := 3) (ci := 1) hx hb hK rfl hP hD hS (by omega) (k14_N_7) (by omega) (q14_frN_20.1) rfl (vp_in_nI (show 0 < 6 by omega) (by omega)) (nI_clamp (by omega)) dX6_init_107 (fun H locs hP hD hS => ?_)
  refine lv_iinc (v := nI 1) (lv' := [(1, .int (nI 1)), (0, .ref (ad14 N))]) hx hb dX6_init_108 hl (k := 0) rfl (iinc_nat _ 1) (by decide) rfl (fun ls hl => ?_)
  refine lv_goto (tgt := 89) hx hb dX6_init_111 (by decide) ?_
  refine lv_iload_n hx hb dX6_init_89 rfl (lv_at hl 0 rfl) ?_
  refine lv_bipush (v := nI 6) hx hb dX6_init_90 (by decide) ?_
  refine lv_icmp_ge (tgt := 114) hx hb dX6_init_92 (by decide) (fun c9 => absurd c9 (by decide)) (fun _ => ?_)
  refine lv_aload_n hx hb dX6_init_95 rfl (lv_at hl 1 rfl) ?_
  refine iw_get hx hb hts iu_X6_init_6 hown hK hP (by omega) ((va_un _ _ (by omega)).trans (k14_N)) rfl 2 (by decide) (hts _ il_X6_init_25) (fun _ h9 => h9) rfl dX6_init_96 ?_
  refine lv_iload_n hx hb dX6_init_99 rfl (lv_at hl 0 rfl) ?_
  refine iw_new (ci := 1) (fs := [.null, .null, .int (nI 0), .int (nI 0), .int (nI 0)]) (T := TX1) (n := 5) hx hb hts iu_X6_init_1 tyX1 tyX1_ok hown (hts _ il_X6_init_23) (hts _ il_X6_init_instX1) (hts _ il_X6_init_iniX1) hK hP hD hS hA rfl (fun j hj => by rcases (show j = 0 ∨ j = 1 ∨ j = 2 ∨ j = 3 ∨ j = 4 by omega) with rfl | rfl | rfl | rfl | rfl <;> rfl) (Nat.le_of_ble_eq_true rfl) (Nat.le_of_ble_eq_true rfl) dX6_init_100 (fun ad15 C15 H e15 c15 n15 hP hD hS => ?_)
  have k15_N : C15 N = ob 6 [.ref (ad15 (N + 1)), .ref (ad15 (N + 4)), .ref (ad15 (N + 7)), .ref (ad15 (N + 8)), .int (nI 0), .int (nI 0), .ref (ad15 (N + 9)), .ref (ad15 (N + 14)), .ref (ad15 (N + 17))] := (c15 _ (by omega)).trans (((va_un _ _ (by omega)).trans (k14_N)).trans (by first | (rw [e15 (N + 1) (by omega), e15 (N + 4) (by omega), e15 (N + 7) (by omega), e15 (N + 8) (by omega), e15 (N + 9) (by omega), e15 (N + 14) (by omega), e15 (N + 17) (by omega)]; done) | (rw [e15 (N + 1) (by omega), e15 (N + 4) (by omega), e15 (N + 7) (by omega), e15 (N + 8) (by omega), e15 (N + 9) (by omega), e15 (N + 14) (by omega), e15 (N + 17) (by omega)]; rfl)))
  have k15_N_7 : C15 (N + 7) = ra G 3 6 (va_up (fun _ => none) 0 (some (ad15 (N + 20)))) := (c15 _ (by omega)).trans ((va_us _ _ _).trans (by first | (rw [e15 (N + 20) (by omega)]; done) | (rw [e15 (N + 20) (by omega)]; rfl)))
  have k15_N_8 : C15 (N + 8) = ra G 4 6 (fun _ => none) := (c15 _ (by omega)).trans ((va_un _ _ (by omega)).trans (k14_N_8))
  have q15_scN_1 := isSc_gr e15 c15 (by omega) (by omega) (isSc_up q14_scN_1 (by omega))
  have q15_seN_4 := isSe_gr e15 c15 (by omega) (by omega) (isSe_up q14_seN_4 (by omega))
  have q15_frN_9 := isFr_gr e15 c15 (by omega) (by omega) (isFr_up q14_frN_9 (by omega))
  have q15_piN_14 := isPi_gr e15 c15 (by omega) (by omega) (isPi_up q14_piN_14 (by omega))
  have q15_piN_17 := isPi_gr e15 c15 (by omega) (by omega) (isPi_up q14_piN_17 (by omega))
  have q15_frN_20 := isFr_gr e15 c15 (by omega) (by omega) (isFr_up q14_frN_20 (by omega))
  have ea15 : ∀ j, j < N + 1 → ad15 j = ad j := fun j h => (e15 j (by omega)).trans (ea14 j h)
  have ca15 : ∀ j, j < N → C15 j = C j := fun j h => (c15 j (by omega)).trans ((va_un _ _ (by omega)).trans (ca14 j h))
  have hl : lv_has ls 2 [(1, .int (nI 1)), (0, .ref (ad15 N))] := by rw [e15 N (by omega)]; exact hl
  refine W.eq (g2 := F0 m 103 ls [.ref (ad15 (N + 25)), .int (nI 1), .ref (ad15 (N + 7))]) (by first | (rw [e15 (N + 7) (by omega)]; done) | (rw [e15 (N + 7) (by omega)]; rfl)) ?_
  refine lv_dup hx hb dX6_init_103 rfl ?_
  refine iwg_v (va_runIN (As := []) (rest := [.ref (ad15 (N + 25)), .int (nI 1), .ref (ad15 (N + 7))]) ⟨hx, hb, hml, hown, hts⟩ (kX1_init l G (N + 25) ad15 _ (n15) _) ⟨va_cnB (host := RX6) 0 hts gX6_init_X1_init_n42 rfl rfl rfl (nw_RX6_42 hK.2) (hts _ il_X6_init_iniX1) (by decide +kernel) ⟨Nat.le_of_ble_eq_true rfl, Nat.le_of_ble_eq_true rfl⟩, rfl, (hts _ il_X6_init_im_X1_init)⟩ (iPS hK hP hD [.ref (ad15 (N + 25))])  rfl rfl hl.1 rfl (lv_room (Nat.le_of_ble_eq_true rfl)) dX6_init_104 ⟨Nat.le_of_ble_eq_true rfl, Nat.le_of_ble_eq_true rfl⟩) hD hS hA (fun ad16 C16 H locs hw8 hP hD hS => ?_)
  dsimp only at hw8
  obtain ⟨e16, c16, q16_frN_25⟩ := hw8
  have k16_N : C16 N = ob 6 [.ref (ad16 (N + 1)), .ref (ad16 (N + 4)), .ref (ad16 (N + 7)), .ref (ad16 (N + 8)), .int (nI 0), .int (nI 0), .ref (ad16 (N + 9)), .ref (ad16 (N + 14)), .ref (ad16 (N + 17))] := (c16 _ (by omega)).trans ((k15_N).trans (by first | (rw [e16 (N + 1) (by omega), e16 (N + 4) (by omega), e16 (N + 7) (by omega), e16 (N + 8) (by omega), e16 (N + 9) (by omega), e16 (N + 14) (by omega), e16 (N + 17) (by omega)]; done) | (rw [e16 (N + 1) (by omega), e16 (N + 4) (by omega), e16 (N + 7) (by omega), e16 (N + 8) (by omega), e16 (N + 9) (by omega), e16 (N + 14) (by omega), e16 (N + 17) (by omega)]; rfl)))
  have k16_N_7 : C16 (N + 7) = ra G 3 6 (va_up (fun _ => none) 0 (some (ad16 (N + 20)))) := (c16 _ (by omega)).trans ((k15_N_7).trans (by first | (rw [e16 (N + 20) (by omega)]; done) | (rw [e16 (N + 20) (by omega)]; rfl)))
  have k16_N_8 : C16 (N + 8) = ra G 4 6 (fun _ => none) := (c16 _ (by omega)).trans (k15_N_8)
  have q16_scN_1 := isSc_gr e16 c16 (by omega) (by omega) q15_scN_1
  have q16_seN_4 := isSe_gr e16 c16 (by omega) (by omega) q15_seN_4
  have q16_frN_9 := isFr_gr e16 c16 (by omega) (by omega) q15_frN_9
  have q16_piN_14 := isPi_gr e16 c16 (by omega) (by omega) q15_piN_14
  have q16_piN_17 := isPi_gr e16 c16 (by omega) (by omega) q15_piN_17
  have q16_frN_20 := isFr_gr e16 c16 (by omega) (by omega) q15_frN_20
  have ea16 : ∀ j, j < N + 1 → ad16 j = ad j := fun j h => (e16 j (by omega)).trans (ea15 j h)
  have ca16 : ∀ j, j < N → C16 j = C j := fun j h => (c16 j (by omega)).trans (ca15 j h)
  have hl : lv_has ls 2 [(1, .int (nI 1)), (0, .ref (ad16 N))] := by rw [e16 N (by omega)]; exact hl
  refine W.eq (g2 := F0 m 107 ls [.ref (ad16 (N + 25)), .int (nI 1), .ref (ad16 (N + 7))]) (by first | (rw [e16 (N + 7) (by omega), e16 (N + 25) (by omega)]; done) | (rw [e16 (N + 7) (by omega), e16 (N + 25) (by omega)]; rfl)) ?_
  refine iw_aast (t := 3) (ci := 1) hx hb hK rfl hP hD hS (by omega) (k16_N_7) (by omega) (q16_frN_25.1) rfl (vp_in_nI (show 1 < 6 by omega) (by omega)) (nI_clamp (by omega)) dX6_init_107 (fun H locs hP hD hS => ?_)
  refine lv_iinc (v := nI 2) (lv' := [(1, .int (nI 2)), (0, .ref (ad16 N))]) hx hb dX6_init_108 hl (k := 0) rfl (iinc_nat _ 1) (by decide) rfl (fun ls hl => ?_)
  refine lv_goto (tgt := 89) hx hb dX6_init_111 (by decide) ?_
  refine lv_iload_n hx hb dX6_init_89 rfl (lv_at hl 0 rfl) ?_
  refine lv_bipush (v := nI 6) hx hb dX6_init_90 (by decide) ?_
  refine lv_icmp_ge (tgt := 114) hx hb dX6_init_92 (by decide) (fun c9 => absurd c9 (by decide)) (fun _ => ?_)
  refine lv_aload_n hx hb dX6_init_95 rfl (lv_at hl 1 rfl) ?_
  refine iw_get hx hb hts iu_X6_init_6 hown hK hP (by omega) ((va_un _ _ (by omega)).trans (k16_N)) rfl 2 (by decide) (hts _ il_X6_init_25) (fun _ h9 => h9) rfl dX6_init_96 ?_
  refine lv_iload_n hx hb dX6_init_99 rfl (lv_at hl 0 rfl) ?_
  refine iw_new (ci := 1) (fs := [.null, .null, .int (nI 0), .int (nI 0), .int (nI 0)]) (T := TX1) (n := 5) hx hb hts iu_X6_init_1 tyX1 tyX1_ok hown (hts _ il_X6_init_23) (hts _ il_X6_init_instX1) (hts _ il_X6_init_iniX1) hK hP hD hS hA rfl (fun j hj => by rcases (show j = 0 ∨ j = 1 ∨ j = 2 ∨ j = 3 ∨ j = 4 by omega) with rfl | rfl | rfl | rfl | rfl <;> rfl) (Nat.le_of_ble_eq_true rfl) (Nat.le_of_ble_eq_true rfl) dX6_init_100 (fun ad17 C17 H e17 c17 n17 hP hD hS => ?_)
  have k17_N : C17 N = ob 6 [.ref (ad17 (N + 1)), .ref (ad17 (N + 4)), .ref (ad17 (N + 7)), .ref (ad17 (N + 8)), .int (nI 0), .int (nI 0), .ref (ad17 (N + 9)), .ref (ad17 (N + 14)), .ref (ad17 (N + 17))] := (c17 _ (by omega)).trans (((va_un _ _ (by omega)).trans (k16_N)).trans (by first | (rw [e17 (N + 1) (by omega), e17 (N + 4) (by omega), e17 (N + 7) (by omega), e17 (N + 8) (by omega), e17 (N + 9) (by omega), e17 (N + 14) (by omega), e17 (N + 17) (by omega)]; done) | (rw [e17 (N + 1) (by omega), e17 (N + 4) (by omega), e17 (N + 7) (by omega), e17 (N + 8) (by omega), e17 (N + 9) (by omega), e17 (N + 14) (by omega), e17 (N + 17) (by omega)]; rfl)))
  have k17_N_7 : C17 (N + 7) = ra G 3 6 (va_up (va_up (fun _ => none) 0 (some (ad17 (N + 20)))) 1 (some (ad17 (N + 25)))) := (c17 _ (by omega)).trans ((va_us _ _ _).trans (by first | (rw [e17 (N + 20) (by omega), e17 (N + 25) (by omega)]; done) | (rw [e17 (N + 20) (by omega), e17 (N + 25) (by omega)]; rfl)))
  have k17_N_8 : C17 (N + 8) = ra G 4 6 (fun _ => none) := (c17 _ (by omega)).trans ((va_un _ _ (by omega)).trans (k16_N_8))
  have q17_scN_1 := isSc_gr e17 c17 (by omega) (by omega) (isSc_up q16_scN_1 (by omega))
  have q17_seN_4 := isSe_gr e17 c17 (by omega) (by omega) (isSe_up q16_seN_4 (by omega))
  have q17_frN_9 := isFr_gr e17 c17 (by omega) (by omega) (isFr_up q16_frN_9 (by omega))
  have q17_piN_14 := isPi_gr e17 c17 (by omega) (by omega) (isPi_up q16_piN_14 (by omega))
  have q17_piN_17 := isPi_gr e17 c17 (by omega) (by omega) (isPi_up q16_piN_17 (by omega))
  have q17_frN_20 := isFr_gr e17 c17 (by omega) (by omega) (isFr_up q16_frN_20 (by omega))
  have q17_frN_25 := isFr_gr e17 c17 (by omega) (by omega) (isFr_up q16_frN_25 (by omega))
  have ea17 : ∀ j, j < N + 1 → ad17 j = ad j := fun j h => (e17 j (by omega)).trans (ea16 j h)
  have ca17 : ∀ j, j < N → C17 j = C j := fun j h => (c17 j (by omega)).trans ((va_un _ _ (by omega)).trans (ca16 j h))
  have hl : lv_has ls 2 [(1, .int (nI 2)), (0, .ref (ad17 N))] := by rw [e17 N (by omega)]; exact hl
  refine W.eq (g2 := F0 m 103 ls [.ref (ad17 (N + 30)), .int (nI 2), .ref (ad17 (N + 7))]) (by first | (rw [e17 (N + 7) (by omega)]; done) | (rw [e17 (N + 7) (by omega)]; rfl)) ?_
  refine lv_dup hx hb dX6_init_103 rfl ?_
  refine iwg_v (va_runIN (As := []) (rest := [.ref (ad17 (N + 30)), .int (nI 2), .ref (ad17 (N + 7))]) ⟨hx, hb, hml, hown, hts⟩ (kX1_init l G (N + 30) ad17 _ (n17) _) ⟨va_cnB (host := RX6) 0 hts gX6_init_X1_init_n42 rfl rfl rfl (nw_RX6_42 hK.2) (hts _ il_X6_init_iniX1) (by decide +kernel) ⟨Nat.le_of_ble_eq_true rfl, Nat.le_of_ble_eq_true rfl⟩, rfl, (hts _ il_X6_init_im_X1_init)⟩ (iPS hK hP hD [.ref (ad17 (N + 30))])  rfl rfl hl.1 rfl (lv_room (Nat.le_of_ble_eq_true rfl)) dX6_init_104 ⟨Nat.le_of_ble_eq_true rfl, Nat.le_of_ble_eq_true rfl⟩) hD hS hA (fun ad18 C18 H locs hw8 hP hD hS => ?_)
  dsimp only at hw8
  obtain ⟨e18, c18, q18_frN_30⟩ := hw8
  have k18_N : C18 N = ob 6 [.ref (ad18 (N + 1)), .ref (ad18 (N + 4)), .ref (ad18 (N + 7)), .ref (ad18 (N + 8)), .int (nI 0), .int (nI 0), .ref (ad18 (N + 9)), .ref (ad18 (N + 14)), .ref (ad18 (N + 17))] := (c18 _ (by omega)).trans ((k17_N).trans (by first | (rw [e18 (N + 1) (by omega), e18 (N + 4) (by omega), e18 (N + 7) (by omega), e18 (N + 8) (by omega), e18 (N + 9) (by omega), e18 (N + 14) (by omega), e18 (N + 17) (by omega)]; done) | (rw [e18 (N + 1) (by omega), e18 (N + 4) (by omega), e18 (N + 7) (by omega), e18 (N + 8) (by omega), e18 (N + 9) (by omega), e18 (N + 14) (by omega), e18 (N + 17) (by omega)]; rfl)))
  have k18_N_7 : C18 (N + 7) = ra G 3 6 (va_up (va_up (fun _ => none) 0 (some (ad18 (N + 20)))) 1 (some (ad18 (N + 25)))) := (c18 _ (by omega)).trans ((k17_N_7).trans (by first | (rw [e18 (N + 20) (by omega), e18 (N + 25) (by omega)]; done) | (rw [e18 (N + 20) (by omega), e18 (N + 25) (by omega)]; rfl)))
  have k18_N_8 : C18 (N + 8) = ra G 4 6 (fun _ => none) := (c18 _ (by omega)).trans (k17_N_8)
  have q18_scN_1 := isSc_gr e18 c18 (by omega) (by omega) q17_scN_1
  have q18_seN_4 := isSe_gr e18 c18 (by omega) (by omega) q17_seN_4
  have q18_frN_9 := isFr_gr e18 c18 (by omega) (by omega) q17_frN_9
  have q18_piN_14 := isPi_gr e18 c18 (by omega) (by omega) q17_piN_14
  have q18_piN_17 := isPi_gr e18 c18 (by omega) (by omega) q17_piN_17
  have q18_frN_20 := isFr_gr e18 c18 (by omega) (by omega) q17_frN_20
  have q18_frN_25 := isFr_gr e18 c18 (by omega) (by omega) q17_frN_25
  have ea18 : ∀ j, j < N + 1 → ad18 j = ad j := fun j h => (e18 j (by omega)).trans (ea17 j h)
  have ca18 : ∀ j, j < N → C18 j = C j := fun j h => (c18 j (by omega)).trans (ca17 j h)
  have hl : lv_has ls 2 [(1, .int (nI 2)), (0, .ref (ad18 N))] := by rw [e18 N (by omega)]; exact hl
  refine W.eq (g2 := F0 m 107 ls [.ref (ad18 (N + 30)), .int (nI 2), .ref (ad18 (N + 7))]) (by first | (rw [e18 (N + 7) (by omega), e18 (N + 30) (by omega)]; done) | (rw [e18 (N + 7) (by omega), e18 (N + 30) (by omega)]; rfl)) ?_
  refine iw_aast (t := 3) (ci := 1) hx hb hK rfl hP hD hS (by omega) (k18_N_7) (by omega) (q18_frN_30.1) rfl (vp_in_nI (show 2 < 6 by omega) (by omega)) (nI_clamp (by omega)) dX6_init_107 (fun H locs hP hD hS => ?_)
  refine lv_iinc (v := nI 3) (lv' := [(1, .int (nI 3)), (0, .ref (ad18 N))]) hx hb dX6_init_108 hl (k := 0) rfl (iinc_nat _ 1) (by decide) rfl (fun ls hl => ?_)
  refine lv_goto (tgt := 89) hx hb dX6_init_111 (by decide) ?_
  refine lv_iload_n hx hb dX6_init_89 rfl (lv_at hl 0 rfl) ?_
  refine lv_bipush (v := nI 6) hx hb dX6_init_90 (by decide) ?_
  refine lv_icmp_ge (tgt := 114) hx hb dX6_init_92 (by decide) (fun c9 => absurd c9 (by decide)) (fun _ => ?_)
  refine lv_aload_n hx hb dX6_init_95 rfl (lv_at hl 1 rfl) ?_
  refine iw_get hx hb hts iu_X6_init_6 hown hK hP (by omega) ((va_un _ _ (by omega)).trans (k18_N)) rfl 2 (by decide) (hts _ il_X6_init_25) (fun _ h9 => h9) rfl dX6_init_96 ?_
  refine lv_iload_n hx hb dX6_init_99 rfl (lv_at hl 0 rfl) ?_
  refine iw_new (ci := 1) (fs := [.null, .null, .int (nI 0), .int (nI 0), .int (nI 0)]) (T := TX1) (n := 5) hx hb hts iu_X6_init_1 tyX1 tyX1_ok hown (hts _ il_X6_init_23) (hts _ il_X6_init_instX1) (hts _ il_X6_init_iniX1) hK hP hD hS hA rfl (fun j hj => by rcases (show j = 0 ∨ j = 1 ∨ j = 2 ∨ j = 3 ∨ j = 4 by omega) with rfl | rfl | rfl | rfl | rfl <;> rfl) (Nat.le_of_ble_eq_true rfl) (Nat.le_of_ble_eq_true rfl) dX6_init_100 (fun ad19 C19 H e19 c19 n19 hP hD hS => ?_)
  have k19_N : C19 N = ob 6 [.ref (ad19 (N + 1)), .ref (ad19 (N + 4)), .ref (ad19 (N + 7)), .ref (ad19 (N + 8)), .int (nI 0), .int (nI 0), .ref (ad19 (N + 9)), .ref (ad19 (N + 14)), .ref (ad19 (N + 17))] := (c19 _ (by omega)).trans (((va_un _ _ (by omega)).trans (k18_N)).trans (by first | (rw [e19 (N + 1) (by omega), e19 (N + 4) (by omega), e19 (N + 7) (by omega), e19 (N + 8) (by omega), e19 (N + 9) (by omega), e19 (N + 14) (by omega), e19 (N + 17) (by omega)]; done) | (rw [e19 (N + 1) (by omega), e19 (N + 4) (by omega), e19 (N + 7) (by omega), e19 (N + 8) (by omega), e19 (N + 9) (by omega), e19 (N + 14) (by omega), e19 (N + 17) (by omega)]; rfl)))
  have k19_N_7 : C19 (N + 7) = ra G 3 6 (va_up (va_up (va_up (fun _ => none) 0 (some (ad19 (N + 20)))) 1 (some (ad19 (N + 25)))) 2 (some (ad19 (N + 30)))) := (c19 _ (by omega)).trans ((va_us _ _ _).trans (by first | (rw [e19 (N + 20) (by omega), e19 (N + 25) (by omega), e19 (N + 30) (by omega)]; done) | (rw [e19 (N + 20) (by omega), e19 (N + 25) (by omega), e19 (N + 30) (by omega)]; rfl)))
  have k19_N_8 : C19 (N + 8) = ra G 4 6 (fun _ => none) := (c19 _ (by omega)).trans ((va_un _ _ (by omega)).trans (k18_N_8))
  have q19_scN_1 := isSc_gr e19 c19 (by omega) (by omega) (isSc_up q18_scN_1 (by omega))
  have q19_seN_4 := isSe_gr e19 c19 (by omega) (by omega) (isSe_up q18_seN_4 (by omega))
  have q19_frN_9 := isFr_gr e19 c19 (by omega) (by omega) (isFr_up q18_frN_9 (by omega))
  have q19_piN_14 := isPi_gr e19 c19 (by omega) (by omega) (isPi_up q18_piN_14 (by omega))
  have q19_piN_17 := isPi_gr e19 c19 (by omega) (by omega) (isPi_up q18_piN_17 (by omega))
  have q19_frN_20 := isFr_gr e19 c19 (by omega) (by omega) (isFr_up q18_frN_20 (by omega))
  have q19_frN_25 := isFr_gr e19 c19 (by omega) (by omega) (isFr_up q18_frN_25 (by omega))
  have q19_frN_30 := isFr_gr e19 c19 (by omega) (by omega) (isFr_up q18_frN_30 (by omega))
  have ea19 : ∀ j, j < N + 1 → ad19 j = ad j := fun j h => (e19 j (by omega)).trans (ea18 j h)
  have ca19 : ∀ j, j < N → C19 j = C j := fun j h => (c19 j (by omega)).trans ((va_un _ _ (by omega)).trans (ca18 j h))
  have hl : lv_has ls 2 [(1, .int (nI 3)), (0, .ref (ad19 N))] := by rw [e19 N (by omega)]; exact hl
  refine W.eq (g2 := F0 m 103 ls [.ref (ad19 (N + 35)), .int (nI 3), .ref (ad19 (N + 7))]) (by first | (rw [e19 (N + 7) (by omega)]; done) | (rw [e19 (N + 7) (by omega)]; rfl)) ?_
  refine lv_dup hx hb dX6_init_103 rfl ?_
  refine iwg_v (va_runIN (As := []) (rest := [.ref (ad19 (N + 35)), .int (nI 3), .ref (ad19 (N + 7))]) ⟨hx, hb, hml, hown, hts⟩ (kX1_init l G (N + 35) ad19 _ (n19) _) ⟨va_cnB (host := RX6) 0 hts gX6_init_X1_init_n42 rfl rfl rfl (nw_RX6_42 hK.2) (hts _ il_X6_init_iniX1) (by decide +kernel) ⟨Nat.le_of_ble_eq_true rfl, Nat.le_of_ble_eq_true rfl⟩, rfl, (hts _ il_X6_init_im_X1_init)⟩ (iPS hK hP hD [.ref (ad19 (N + 35))])  rfl rfl hl.1 rfl (lv_room (Nat.le_of_ble_eq_true rfl)) dX6_init_104 ⟨Nat.le_of_ble_eq_true rfl, Nat.le_of_ble_eq_true rfl⟩) hD hS hA (fun ad20 C20 H locs hw8 hP hD hS => ?_)
  dsimp only at hw8
  obtain ⟨e20, c20, q20_frN_35⟩ := hw8
  have k20_N : C20 N = ob 6 [.ref (ad20 (N + 1)), .ref (ad20 (N + 4)), .ref (ad20 (N + 7)), .ref (ad20 (N + 8)), .int (nI 0), .int (nI 0), .ref (ad20 (N + 9)), .ref (ad20 (N + 14)), .ref (ad20 (N + 17))] := (c20 _ (by omega)).trans ((k19_N).trans (by first | (rw [e20 (N + 1) (by omega), e20 (N + 4) (by omega), e20 (N + 7) (by omega), e20 (N + 8) (by omega), e20 (N + 9) (by omega), e20 (N + 14) (by omega), e20 (N + 17) (by omega)]; done) | (rw [e20 (N + 1) (by omega), e20 (N + 4) (by omega), e20 (N + 7) (by omega), e20 (N + 8) (by omega), e20 (N + 9) (by omega), e20 (N + 14) (by omega), e20 (N + 17) (by omega)]; rfl)))
  have k20_N_7 : C20 (N + 7) = ra G 3 6 (va_up (va_up (va_up (fun _ => none) 0 (some (ad20 (N + 20)))) 1 (some (ad20 (N + 25)))) 2 (some (ad20 (N + 30)))) := (c20 _ (by omega)).trans ((k19_N_7).trans (by first | (rw [e20 (N + 20) (by omega), e20 (N + 25) (by omega), e20 (N + 30) (by omega)]; done) | (rw [e20 (N + 20) (by omega), e20 (N + 25) (by omega), e20 (N + 30) (by omega)]; rfl)))
  have k20_N_8 : C20 (N + 8) = ra G 4 6 (fun _ => none) := (c20 _ (by omega)).trans (k19_N_8)
  have q20_scN_1 := isSc_gr e20 c20 (by omega) (by omega) q19_scN_1
  have q20_seN_4 := isSe_gr e20 c20 (by omega) (by omega) q19_seN_4
  have q20_frN_9 := isFr_gr e20 c20 (by omega) (by omega) q19_frN_9
  have q20_piN_14 := isPi_gr e20 c20 (by omega) (by omega) q19_piN_14
  have q20_piN_17 := isPi_gr e20 c20 (by omega) (by omega) q19_piN_17
  have q20_frN_20 := isFr_gr e20 c20 (by omega) (by omega) q19_frN_20
  have q20_frN_25 := isFr_gr e20 c20 (by omega) (by omega) q19_frN_25
  have q20_frN_30 := isFr_gr e20 c20 (by omega) (by omega) q19_frN_30
  have ea20 : ∀ j, j < N + 1 → ad20 j = ad j := fun j h => (e20 j (by omega)).trans (ea19 j h)
  have ca20 : ∀ j, j < N → C20 j = C j := fun j h => (c20 j (by omega)).trans (ca19 j h)
  have hl : lv_has ls 2 [(1, .int (nI 3)), (0, .ref (ad20 N))] := by rw [e20 N (by omega)]; exact hl
  refine W.eq (g2 := F0 m 107 ls [.ref (ad20 (N + 35)), .int (nI 3), .ref (ad20 (N + 7))]) (by first | (rw [e20 (N + 7) (by omega), e20 (N + 35) (by omega)]; done) | (rw [e20 (N + 7) (by omega), e20 (N + 35) (by omega)]; rfl)) ?_
  refine iw_aast (t := 3) (ci := 1) hx hb hK rfl hP hD hS (by omega) (k20_N_7) (by omega) (q20_frN_35.1) rfl (vp_in_nI (show 3 < 6 by omega) (by omega)) (nI_clamp (by omega)) dX6_init_107 (fun H locs hP hD hS => ?_)
  refine lv_iinc (v := nI 4) (lv' := [(1, .int (nI 4)), (0, .ref (ad20 N))]) hx hb dX6_init_108 hl (k := 0) rfl (iinc_nat _ 1) (by decide) rfl (fun ls hl => ?_)
  refine lv_goto (tgt := 89) hx hb dX6_init_111 (by decide) ?_
  refine lv_iload_n hx hb dX6_init_89 rfl (lv_at hl 0 rfl) ?_
  refine lv_bipush (v := nI 6) hx hb dX6_init_90 (by decide) ?_
  refine lv_icmp_ge (tgt := 114) hx hb dX6_init_92 (by decide) (fun c9 => absurd c9 (by decide)) (fun _ => ?_)
  refine lv_aload_n hx hb dX6_init_95 rfl (lv_at hl 1 rfl) ?_
  refine iw_get hx hb hts iu_X6_init_6 hown hK hP (by omega) ((va_un _ _ (by omega)).trans (k20_N)) rfl 2 (by decide) (hts _ il_X6_init_25) (fun _ h9 => h9) rfl dX6_init_96 ?_
  refine lv_iload_n hx hb dX6_init_99 rfl (lv_at hl 0 rfl) ?_
  refine iw_new (ci := 1) (fs := [.null, .null, .int (nI 0), .int (nI 0), .int (nI 0)]) (T := TX1) (n := 5) hx hb hts iu_X6_init_1 tyX1 tyX1_ok hown (hts _ il_X6_init_23) (hts _ il_X6_init_instX1) (hts _ il_X6_init_iniX1) hK hP hD hS hA rfl (fun j hj => by rcases (show j = 0 ∨ j = 1 ∨ j = 2 ∨ j = 3 ∨ j = 4 by omega) with rfl | rfl | rfl | rfl | rfl <;> rfl) (Nat.le_of_ble_eq_true rfl) (Nat.le_of_ble_eq_true rfl) dX6_init_100 (fun ad21 C21 H e21 c21 n21 hP hD hS => ?_)
  have k21_N : C21 N = ob 6 [.ref (ad21 (N + 1)), .ref (ad21 (N + 4)), .ref (ad21 (N + 7)), .ref (ad21 (N + 8)), .int (nI 0), .int (nI 0), .ref (ad21 (N + 9)), .ref (ad21 (N + 14)), .ref (ad21 (N + 17))] := (c21 _ (by omega)).trans (((va_un _ _ (by omega)).trans (k20_N)).trans (by first | (rw [e21 (N + 1) (by omega), e21 (N + 4) (by omega), e21 (N + 7) (by omega), e21 (N + 8) (by omega), e21 (N + 9) (by omega), e21 (N + 14) (by omega), e21 (N + 17) (by omega)]; done) | (rw [e21 (N + 1) (by omega), e21 (N + 4) (by omega), e21 (N + 7) (by omega), e21 (N + 8) (by omega), e21 (N + 9) (by omega), e21 (N + 14) (by omega), e21 (N + 17) (by omega)]; rfl)))
  have k21_N_7 : C21 (N + 7) = ra G 3 6 (va_up (va_up (va_up (va_up (fun _ => none) 0 (some (ad21 (N + 20)))) 1 (some (ad21 (N + 25)))) 2 (some (ad21 (N + 30)))) 3 (some (ad21 (N + 35)))) := (c21 _ (by omega)).trans ((va_us _ _ _).trans (by first | (rw [e21 (N + 20) (by omega), e21 (N + 25) (by omega), e21 (N + 30) (by omega), e21 (N + 35) (by omega)]; done) | (rw [e21 (N + 20) (by omega), e21 (N + 25) (by omega), e21 (N + 30) (by omega), e21 (N + 35) (by omega)]; rfl)))
  have k21_N_8 : C21 (N + 8) = ra G 4 6 (fun _ => none) := (c21 _ (by omega)).trans ((va_un _ _ (by omega)).trans (k20_N_8))
  have q21_scN_1 := isSc_gr e21 c21 (by omega) (by omega) (isSc_up q20_scN_1 (by omega))
  have q21_seN_4 := isSe_gr e21 c21 (by omega) (by omega) (isSe_up q20_seN_4 (by omega))
  have q21_frN_9 := isFr_gr e21 c21 (by omega) (by omega) (isFr_up q20_frN_9 (by omega))
  have q21_piN_14 := isPi_gr e21 c21 (by omega) (by omega) (isPi_up q20_piN_14 (by omega))
  have q21_piN_17 := isPi_gr e21 c21 (by omega) (by omega) (isPi_up q20_piN_17 (by omega))
  have q21_frN_20 := isFr_gr e21 c21 (by omega) (by omega) (isFr_up q20_frN_20 (by omega))
  have q21_frN_25 := isFr_gr e21 c21 (by omega) (by omega) (isFr_up q20_frN_25 (by omega))
  have q21_frN_30 := isFr_gr e21 c21 (by omega) (by omega) (isFr_up q20_frN_30 (by omega))
  have q21_frN_35 := isFr_gr e21 c21 (by omega) (by omega) (isFr_up q20_frN_35 (by omega))
  have ea21 : ∀ j, j < N + 1 → ad21 j = ad j := fun j h => (e21 j (by omega)).trans (ea20 j h)
  have ca21 : ∀ j, j < N → C21 j = C j := fun j h => (c21 j (by omega)).trans ((va_un _ _ (by omega)).trans (ca20 j h))
  have hl : lv_has ls 2 [(1, .int (nI 4)), (0, .ref (ad21 N))] := by rw [e21 N (by omega)]; exact hl
  refine W.eq (g2 := F0 m 103 ls [.ref (ad21 (N + 40)), .int (nI 4), .ref (ad21 (N + 7))]) (by first | (rw [e21 (N + 7) (by omega)]; done) | (rw [e21 (N + 7) (by omega)]; rfl)) ?_
  refine lv_dup hx hb dX6_init_103 rfl ?_
  refine iwg_v (va_runIN (As := []) (rest := [.ref (ad21 (N + 40)), .int (nI 4), .ref (ad21 (N + 7))]) ⟨hx, hb, hml, hown, hts⟩ (kX1_init l G (N + 40) ad21 _ (n21) _) ⟨va_cnB (host := RX6) 0 hts gX6_init_X1_init_n42 rfl rfl rfl (nw_RX6_42 hK.2) (hts _ il_X6_init_iniX1) (by decide +kernel) ⟨Nat.le_of_ble_eq_true rfl, Nat.le_of_ble_eq_true rfl⟩, rfl, (hts _ il_X6_init_im_X1_init)⟩ (iPS hK hP hD [.ref (ad21 (N + 40))])  rfl rfl hl.1 rfl (lv_room (Nat.le_of_ble_eq_true rfl)) dX6_init_104 ⟨Nat.le_of_ble_eq_true rfl, Nat.le_of_ble_eq_true rfl⟩) hD hS hA (fun ad22 C22 H locs hw8 hP hD hS => ?_)
  dsimp only at hw8
  obtain ⟨e22, c22, q22_frN_40⟩ := hw8
  have k22_N : C22 N = ob 6 [.ref (ad22 (N + 1)), .ref (ad22 (N + 4)), .ref (ad22 (N + 7)), .ref (ad22 (N + 8)), .int (nI 0), .int (nI 0), .ref (ad22 (N + 9)), .ref (ad22 (N + 14)), .ref (ad22 (N + 17))] := (c22 _ (by omega)).trans ((k21_N).trans (by first | (rw [e22 (N + 1) (by omega), e22 (N + 4) (by omega), e22 (N + 7) (by omega), e22 (N + 8) (by omega), e22 (N + 9) (by omega), e22 (N + 14) (by omega), e22 (N + 17) (by omega)]; done) | (rw [e22 (N + 1) (by omega), e22 (N + 4) (by omega), e22 (N + 7) (by omega), e22 (N + 8) (by omega), e22 (N + 9) (by omega), e22 (N + 14) (by omega), e22 (N + 17) (by omega)]; rfl)))
  have k22_N_7 : C22 (N + 7) = ra G 3 6 (va_up (va_up (va_up (va_up (fun _ => none) 0 (some (ad22 (N + 20)))) 1 (some (ad22 (N + 25)))) 2 (some (ad22 (N + 30)))) 3 (some (ad22 (N + 35)))) := (c22 _ (by omega)).trans ((k21_N_7).trans (by first | (rw [e22 (N + 20) (by omega), e22 (N + 25) (by omega), e22 (N + 30) (by omega), e22 (N + 35) (by omega)]; done) | (rw [e22 (N + 20) (by omega), e22 (N + 25) (by omega), e22 (N + 30) (by omega), e22 (N + 35) (by omega)]; rfl)))
  have k22_N_8 : C22 (N + 8) = ra G 4 6 (fun _ => none) := (c22 _ (by omega)).trans (k21_N_8)
  have q22_scN_1 := isSc_gr e22 c22 (by omega) (by omega) q21_scN_1
  have q22_seN_4 := isSe_gr e22 c22 (by omega) (by omega) q21_seN_4
  have q22_frN_9 := isFr_gr e22 c22 (by omega) (by omega) q21_frN_9
  have q22_piN_14 := isPi_gr e22 c22 (by omega) (by omega) q21_piN_14
  have q22_piN_17 := isPi_gr e22 c22 (by omega) (by omega) q21_piN_17
  have q22_frN_20 := isFr_gr e22 c22 (by omega) (by omega) q21_frN_20
  have q22_frN_25 := isFr_gr e22 c22 (by omega) (by omega) q21_frN_25
  have q22_frN_30 := isFr_gr e22 c22 (by omega) (by omega) q21_frN_30
  have q22_frN_35 := isFr_gr e22 c22 (by omega) (by omega) q21_frN_35
  have ea22 : ∀ j, j < N + 1 → ad22 j = ad j := fun j h => (e22 j (by omega)).trans (ea21 j h)
  have ca22 : ∀ j, j < N → C22 j = C j := fun j h => (c22 j (by omega)).trans (ca21 j h)
  have hl : lv_has ls 2 [(1, .int (nI 4)), (0, .ref (ad22 N))] := by rw [e22 N (by omega)]; exact hl
  refine W.eq (g2 := F0 m 107 ls [.ref (ad22 (N + 40)), .int (nI 4), .ref (ad22 (N + 7))]) (by first | (rw [e22 (N + 7) (by omega), e22 (N + 40) (by omega)]; done) | (rw [e22 (N + 7) (by omega), e22 (N + 40) (by omega)]; rfl)) ?_
  refine iw_aast (t := 3) (ci := 1) hx hb hK rfl hP hD hS (by omega) (k22_N_7) (by omega) (q22_frN_40.1) rfl (vp_in_nI (show 4 < 6 by omega) (by omega)) (nI_clamp (by omega)) dX6_init_107 (fun H locs hP hD hS => ?_)
  refine lv_iinc (v := nI 5) (lv' := [(1, .int (nI 5)), (0, .ref (ad22 N))]) hx hb dX6_init_108 hl (k := 0) rfl (iinc_nat _ 1) (by decide) rfl (fun ls hl => ?_)
  refine lv_goto (tgt := 89) hx hb dX6_init_111 (by decide) ?_
  refine lv_iload_n hx hb dX6_init_89 rfl (lv_at hl 0 rfl) ?_
  refine lv_bipush (v := nI 6) hx hb dX6_init_90 (by decide) ?_
  refine lv_icmp_ge (tgt := 114) hx hb dX6_init_92 (by decide) (fun c9 => absurd c9 (by decide)) (fun _ => ?_)
  refine lv_aload_n hx hb dX6_init_95 rfl (lv_at hl 1 rfl) ?_
  refine iw_get hx hb hts iu_X6_init_6 hown hK hP (by omega) ((va_un _ _ (by omega)).trans (k22_N)) rfl 2 (by decide) (hts _ il_X6_init_25) (fun _ h9 => h9) rfl dX6_init_96 ?_
  refine lv_iload_n hx hb dX6_init_99 rfl (lv_at hl 0 rfl) ?_
  refine iw_new (ci := 1) (fs := [.null, .null, .int (nI 0), .int (nI 0), .int (nI 0)]) (T := TX1) (n := 5) hx hb hts iu_X6_init_1 tyX1 tyX1_ok hown (hts _ il_X6_init_23) (hts _ il_X6_init_instX1) (hts _ il_X6_init_iniX1) hK hP hD hS hA rfl (fun j hj => by rcases (show j = 0 ∨ j = 1 ∨ j = 2 ∨ j = 3 ∨ j = 4 by omega) with rfl | rfl | rfl | rfl | rfl <;> rfl) (Nat.le_of_ble_eq_true rfl) (Nat.le_of_ble_eq_true rfl) dX6_init_100 (fun ad23 C23 H e23 c23 n23 hP hD hS => ?_)
  have k23_N : C23 N = ob 6 [.ref (ad23 (N + 1)), .ref (ad23 (N + 4)), .ref (ad23 (N + 7)), .ref (ad23 (N + 8)), .int (nI 0), .int (nI 0), .ref (ad23 (N + 9)), .ref (ad23 (N + 14)), .ref (ad23 (N + 17))] := (c23 _ (by omega)).trans (((va_un _ _ (by omega)).trans (k22_N)).trans (by first | (rw [e23 (N + 1) (by omega), e23 (N + 4) (by omega), e23 (N + 7) (by omega), e23 (N + 8) (by omega), e23 (N + 9) (by omega), e23 (N + 14) (by omega), e23 (N + 17) (by omega)]; done) | (rw [e23 (N + 1) (by omega), e23 (N + 4) (by omega), e23 (N + 7) (by omega), e23 (N + 8) (by omega), e23 (N + 9) (by omega), e23 (N + 14) (by omega), e23 (N + 17) (by omega)]; rfl)))
  have k23_N_7 : C23 (N + 7) = ra G 3 6 (va_up (va_up (va_up (va_up (va_up (fun _ => none) 0 (some (ad23 (N + 20)))) 1 (some (ad23 (N + 25)))) 2 (some (ad23 (N + 30)))) 3 (some (ad23 (N + 35)))) 4 (some (ad23 (N + 40)))) := (c23 _ (by omega)).trans ((va_us _ _ _).trans (by first | (rw [e23 (N + 20) (by omega), e23 (N + 25) (by omega), e23 (N + 30) (by omega), e23 (N + 35) (by omega), e23 (N + 40) (by omega)]; done) | (rw [e23 (N + 20) (by omega), e23 (N + 25) (by omega), e23 (N + 30) (by omega), e23 (N + 35) (by omega), e23 (N + 40) (by omega)]; rfl)))
  have k23_N_8 : C23 (N + 8) = ra G 4 6 (fun _ => none) := (c23 _ (by omega)).trans ((va_un _ _ (by omega)).trans (k22_N_8))
  have q23_scN_1 := isSc_gr e23 c23 (by omega) (by omega) (isSc_up q22_scN_1 (by omega))
  have q23_seN_4 := isSe_gr e23 c23 (by omega) (by omega) (isSe_up q22_seN_4 (by omega))
  have q23_frN_9 := isFr_gr e23 c23 (by omega) (by omega) (isFr_up q22_frN_9 (by omega))
  have q23_piN_14 := isPi_gr e23 c23 (by omega) (by omega) (isPi_up q22_piN_14 (by omega))
  have q23_piN_17 := isPi_gr e23 c23 (by omega) (by omega) (isPi_up q22_piN_17 (by omega))
  have q23_frN_20 := isFr_gr e23 c23 (by omega) (by omega) (isFr_up q22_frN_20 (by omega))
  have q23_frN_25 := isFr_gr e23 c23 (by omega) (by omega) (isFr_up q22_frN_25 (by omega))
  have q23_frN_30 := isFr_gr e23 c23 (by omega) (by omega) (isFr_up q22_frN_30 (by omega))
  have q23_frN_35 := isFr_gr e23 c23 (by omega) (by omega) (isFr_up q22_frN_35 (by omega))
  have q23_frN_40 := isFr_gr e23 c23 (by omega) (by omega) (isFr_up q22_frN_40 (by omega))
  have ea23 : ∀ j, j < N + 1 → ad23 j = ad j := fun j h => (e23 j (by omega)).trans (ea22 j h)
  have ca23 : ∀ j, j < N → C23 j = C j := fun j h => (c23 j (by omega)).trans ((va_un _ _ (by omega)).trans (ca22 j h))
  have hl : lv_has ls 2 [(1, .int (nI 5)), (0, .ref (ad23 N))] := by rw [e23 N (by omega)]; exact hl
  refine W.eq (g2 := F0 m 103 ls [.ref (ad23 (N + 45)), .int (nI 5), .ref (ad23 (N + 7))]) (by first | (rw [e23 (N + 7) (by omega)]; done) | (rw [e23 (N + 7) (by omega)]; rfl)) ?_
  refine lv_dup hx hb dX6_init_103 rfl ?_
  refine iwg_v (va_runIN (As := []) (rest := [.ref (ad23 (N + 45)), .int (nI 5), .ref (ad23 (N + 7))]) ⟨hx, hb, hml, hown, hts⟩ (kX1_init l G (N + 45) ad23 _ (n23) _) ⟨va_cnB (host := RX6) 0 hts gX6_init_X1_init_n42 rfl rfl rfl (nw_RX6_42 hK.2) (hts _ il_X6_init_iniX1) (by decide +kernel) ⟨Nat.le_of_ble_eq_true rfl, Nat.le_of_ble_eq_true rfl⟩, rfl, (hts _ il_X6_init_im_X1_init)⟩ (iPS hK hP hD [.ref (ad23 (N + 45))])  rfl rfl hl.1 rfl (lv_room (Nat.le_of_ble_eq_true rfl)) dX6_init_104 ⟨Nat.le_of_ble_eq_true rfl, Nat.le_of_ble_eq_true rfl⟩) hD hS hA (fun ad24 C24 H locs hw8 hP hD hS => ?_)
  dsimp only at hw8
  obtain ⟨e24, c24, q24_frN_45⟩ := hw8
  have k24_N : C24 N = ob 6 [.ref (ad24 (N + 1)), .ref (ad24 (N + 4)), .ref (ad24 (N + 7)), .ref (ad24 (N + 8)), .int (nI 0), .int (nI 0), .ref (ad24 (N + 9)), .ref (ad24 (N + 14)), .ref (ad24 (N + 17))] := (c24 _ (by omega)).trans ((k23_N).trans (by first | (rw [e24 (N + 1) (by omega), e24 (N + 4) (by omega), e24 (N + 7) (by omega), e24 (N + 8) (by omega), e24 (N + 9) (by omega), e24 (N + 14) (by omega), e24 (N + 17) (by omega)]; done) | (rw [e24 (N + 1) (by omega), e24 (N + 4) (by omega), e24 (N + 7) (by omega), e24 (N + 8) (by omega), e24 (N + 9) (by omega), e24 (N + 14) (by omega), e24 (N + 17) (by omega)]; rfl)))
  have k24_N_7 : C24 (N + 7) = ra G 3 6 (va_up (va_up (va_up (va_up (va_up (fun _ => none) 0 (some (ad24 (N + 20)))) 1 (some (ad24 (N + 25)))) 2 (some (ad24 (N + 30)))) 3 (some (ad24 (N + 35)))) 4 (some (ad24 (N + 40)))) := (c24 _ (by omega)).trans ((k23_N_7).trans (by first | (rw [e24 (N + 20) (by omega), e24 (N + 25) (by omega), e24 (N + 30) (by omega), e24 (N + 35) (by omega), e24 (N + 40) (by omega)]; done) | (rw [e24 (N + 20) (by omega), e24 (N + 25) (by omega), e24 (N + 30) (by omega), e24 (N + 35) (by omega), e24 (N + 40) (by omega)]; rfl)))
  have k24_N_8 : C24 (N + 8) = ra G 4 6 (fun _ => none) := (c24 _ (by omega)).trans (k23_N_8)
  have q24_scN_1 := isSc_gr e24 c24 (by omega) (by omega) q23_scN_1
  have q24_seN_4 := isSe_gr e24 c24 (by omega) (by omega) q23_seN_4
  have q24_frN_9 := isFr_gr e24 c24 (by omega) (by omega) q23_frN_9
  have q24_piN_14 := isPi_gr e24 c24 (by omega) (by omega) q23_piN_14
  have q24_piN_17 := isPi_gr e24 c24 (by omega) (by omega) q23_piN_17
  have q24_frN_20 := isFr_gr e24 c24 (by omega) (by omega) q23_frN_20
  have q24_frN_25 := isFr_gr e24 c24 (by omega) (by omega) q23_frN_25
  have q24_frN_30 := isFr_gr e24 c24 (by omega) (by omega) q23_frN_30
  have q24_frN_35 := isFr_gr e24 c24 (by omega) (by omega) q23_frN_35
  have q24_frN_40 := isFr_gr e24 c24 (by omega) (by omega) q23_frN_40
  have ea24 : ∀ j, j < N + 1 → ad24 j = ad j := fun j h => (e24 j (by omega)).trans (ea23 j h)
  have ca24 : ∀ j, j < N → C24 j = C j := fun j h => (c24 j (by omega)).trans (ca23 j h)
  have hl : lv_has ls 2 [(1, .int (nI 5)), (0, .ref (ad24 N))] := by rw [e24 N (by omega)]; exact hl
  refine W.eq (g2 := F0 m 107 ls [.ref (ad24 (N + 45)), .int (nI 5), .ref (ad24 (N + 7))]) (by first | (rw [e24 (N + 7) (by omega), e24 (N + 45) (by omega)]; done) | (rw [e24 (N + 7) (by omega), e24 (N + 45) (by omega)]; rfl)) ?_
  refine iw_aast (t := 3) (ci := 1) hx hb hK rfl hP hD hS (by omega) (k24_N_7) (by omega) (q24_frN_45.1) rfl (vp_in_nI (show 5 < 6 by omega) (by omega)) (nI_clamp (by omega)) dX6_init_107 (fun H locs hP hD hS => ?_)
  refine lv_iinc (v := nI 6) (lv' := [(1, .int (nI 6)), (0, .ref (ad24 N))]) hx hb dX6_init_108 hl (k := 0) rfl (iinc_nat _ 1) (by decide) rfl (fun ls hl => ?_)
  refine lv_goto (tgt := 89) hx hb dX6_init_111 (by decide) ?_
  refine lv_iload_n hx hb dX6_init_89 rfl (lv_at hl 0 rfl) ?_
  refine lv_bipush (v := nI 6) hx hb dX6_init_90 (by decide) ?_
  refine lv_icmp_ge (tgt := 114) hx hb dX6_init_92 (by decide) (fun _ => ?_) (fun c9 => absurd (by decide) c9)
  refine lv_iconst (v := nI 0) hx hb dX6_init_114 (by decide) ?_
  refine lv_istore_n (lv' := [(1, .int (nI 0)), (0, .ref (ad24 N))]) hx hb dX6_init_115 rfl hl (by decide) rfl (fun ls hl => ?_)
  refine lv_iload_n hx hb dX6_init_116 rfl (lv_at hl 0 rfl) ?_
  refine lv_bipush (v := nI 6) hx hb dX6_init_117 (by decide) ?_
  refine lv_icmp_ge (tgt := 141) hx hb dX6_init_119 (by decide) (fun c9 => absurd c9 (by decide)) (fun _ => ?_)
  refine lv_aload_n hx hb dX6_init_122 rfl (lv_at hl 1 rfl) ?_
  refine iw_get hx hb hts iu_X6_init_6 hown hK hP (by omega) ((va_un _ _ (by omega)).trans (k24_N)) rfl 3 (by decide) (hts _ il_X6_init_31) (fun _ h9 => h9) rfl dX6_init_123 ?_
  refine lv_iload_n hx hb dX6_init_126 rfl (lv_at hl 0 rfl) ?_
  refine iw_new (ci := 5) (fs := [.null, .int (nI 0), .int (nI 0)]) (T := TX5) (n := 3) hx hb hts iu_X6_init_5 tyX5 tyX5_ok hown (hts _ il_X6_init_29) (hts _ il_X6_init_instX5) (hts _ il_X6_init_iniX5) hK hP hD hS hA rfl (fun j hj => by rcases (show j = 0 ∨ j = 1 ∨ j = 2 by omega) with rfl | rfl | rfl <;> rfl) (Nat.le_of_ble_eq_true rfl) (Nat.le_of_ble_eq_true rfl) dX6_init_127 (fun ad25 C25 H e25 c25 n25 hP hD hS => ?_)
  have k25_N : C25 N = ob 6 [.ref (ad25 (N + 1)), .ref (ad25 (N + 4)), .ref (ad25 (N + 7)), .ref (ad25 (N + 8)), .int (nI 0), .int (nI 0), .ref (ad25 (N + 9)), .ref (ad25 (N + 14)), .ref (ad25 (N + 17))] := (c25 _ (by omega)).trans (((va_un _ _ (by omega)).trans (k24_N)).trans (by first | (rw [e25 (N + 1) (by omega), e25 (N + 4) (by omega), e25 (N + 7) (by omega), e25 (N + 8) (by omega), e25 (N + 9) (by omega), e25 (N + 14) (by omega), e25 (N + 17) (by omega)]; done) | (rw [e25 (N + 1) (by omega), e25 (N + 4) (by omega), e25 (N + 7) (by omega), e25 (N + 8) (by omega), e25 (N + 9) (by omega), e25 (N + 14) (by omega), e25 (N + 17) (by omega)]; rfl)))
  have k25_N_7 : C25 (N + 7) = ra G 3 6 (va_up (va_up (va_up (va_up (va_up (va_up (fun _ => none) 0 (some (ad25 (N + 20)))) 1 (some (ad25 (N + 25)))) 2 (some (ad25 (N + 30)))) 3 (some (ad25 (N + 35)))) 4 (some (ad25 (N + 40)))) 5 (some (ad25 (N + 45)))) := (c25 _ (by omega)).trans ((va_us _ _ _).trans (by first | (rw [e25 (N + 20) (by omega), e25 (N + 25) (by omega), e25 (N + 30) (by omega), e25 (N + 35) (by omega), e25 (N + 40) (by omega), e25 (N + 45) (by omega)]; done) | (rw [e25 (N + 20) (by omega), e25 (N + 25) (by omega), e25 (N + 30) (by omega), e25 (N + 35) (by omega), e25 (N + 40) (by omega), e25 (N + 45) (by omega)]; rfl)))
  have k25_N_8 : C25 (N + 8) = ra G 4 6 (fun _ => none) := (c25 _ (by omega)).trans ((va_un _ _ (by omega)).trans (k24_N_8))
  have q25_scN_1 := isSc_gr e25 c25 (by omega) (by omega) (isSc_up q24_scN_1 (by omega))
  have q25_seN_4 := isSe_gr e25 c25 (by omega) (by omega) (isSe_up q24_seN_4 (by omega))
  have q25_frN_9 := isFr_gr e25 c25 (by omega) (by omega) (isFr_up q24_frN_9 (by omega))
  have q25_piN_14 := isPi_gr e25 c25 (by omega) (by omega) (isPi_up q24_piN_14 (by omega))
  have q25_piN_17 := isPi_gr e25 c25 (by omega) (by omega) (isPi_up q24_piN_17 (by omega))
  have q25_frN_20 := isFr_gr e25 c25 (by omega) (by omega) (isFr_up q24_frN_20 (by omega))
  have q25_frN_25 := isFr_gr e25 c25 (by omega) (by omega) (isFr_up q24_frN_25 (by omega))
  have q25_frN_30 := isFr_gr e25 c25 (by omega) (by omega) (isFr_up q24_frN_30 (by omega))
  have q25_frN_35 := isFr_gr e25 c25 (by omega) (by omega) (isFr_up q24_frN_35 (by omega))
  have q25_frN_40 := isFr_gr e25 c25 (by omega) (by omega) (isFr_up q24_frN_40 (by omega))
  have q25_frN_45 := isFr_gr e25 c25 (by omega) (by omega) (isFr_up q24_frN_45 (by omega))
  have ea25 : ∀ j, j < N + 1 → ad25 j = ad j := fun j h => (e25 j (by omega)).trans (ea24 j h)
  have ca25 : ∀ j, j < N → C25 j = C j := fun j h => (c25 j (by omega)).trans ((va_un _ _ (by omega)).trans (ca24 j h))
  have hl : lv_has ls 2 [(1, .int (nI 0)), (0, .ref (ad25 N))] := by rw [e25 N (by omega)]; exact hl
  refine W.eq (g2 := F0 m 130 ls [.ref (ad25 (N + 50)), .int (nI 0), .ref (ad25 (N + 8))]) (by first | (rw [e25 (N + 8) (by omega)]; done) | (rw [e25 (N + 8) (by omega)]; rfl)) ?_
  refine lv_dup hx hb dX6_init_130 rfl ?_
  refine iwg_v (va_runIN (As := []) (rest := [.ref (ad25 (N + 50)), .int (nI 0), .ref (ad25 (N + 8))]) ⟨hx, hb, hml, hown, hts⟩ (kX5_init l G (N + 50) ad25 _ (n25) _) ⟨va_cnB (host := RX6) 0 hts gX6_init_X5_init_n57 rfl rfl rfl (nw_RX6_57 hK.2) (hts _ il_X6_init_iniX5) (by decide +kernel) ⟨Nat.le_of_ble_eq_true rfl, Nat.le_of_ble_eq_true rfl⟩, rfl, (hts _ il_X6_init_im_X5_init)⟩ (iPS hK hP hD [.ref (ad25 (N + 50))])  rfl rfl hl.1 rfl (lv_room (Nat.le_of_ble_eq_true rfl)) dX6_init_131 ⟨Nat.le_of_ble_eq_true rfl, Nat.le_of_ble_eq_true rfl⟩) hD hS hA (fun ad26 C26 H locs hw8 hP hD hS => ?_)
  dsimp only at hw8
  obtain ⟨e26, c26, q26_fiN_50⟩ := hw8
  have k26_N : C26 N = ob 6 [.ref (ad26 (N + 1)), .ref (ad26 (N + 4)), .ref (ad26 (N + 7)), .ref (ad26 (N + 8)), .int (nI 0), .int (nI 0), .ref (ad26 (N + 9)), .ref (ad26 (N + 14)), .ref (ad26 (N + 17))] := (c26 _ (by omega)).trans ((k25_N).trans (by first | (rw [e26 (N + 1) (by omega), e26 (N + 4) (by omega), e26 (N + 7) (by omega), e26 (N + 8) (by omega), e26 (N + 9) (by omega), e26 (N + 14) (by omega), e26 (N + 17) (by omega)]; done) | (rw [e26 (N + 1) (by omega), e26 (N + 4) (by omega), e26 (N + 7) (by omega), e26 (N + 8) (by omega), e26 (N + 9) (by omega), e26 (N + 14) (by omega), e26 (N + 17) (by omega)]; rfl)))
  have k26_N_7 : C26 (N + 7) = ra G 3 6 (va_up (va_up (va_up (va_up (va_up (va_up (fun _ => none) 0 (some (ad26 (N + 20)))) 1 (some (ad26 (N + 25)))) 2 (some (ad26 (N + 30)))) 3 (some (ad26 (N + 35)))) 4 (some (ad26 (N + 40)))) 5 (some (ad26 (N + 45)))) := (c26 _ (by omega)).trans ((k25_N_7).trans (by first | (rw [e26 (N + 20) (by omega), e26 (N + 25) (by omega), e26 (N + 30) (by omega), e26 (N + 35) (by omega), e26 (N + 40) (by omega), e26 (N + 45) (by omega)]; done) | (rw [e26 (N + 20) (by omega), e26 (N + 25) (by omega), e26 (N + 30) (by omega), e26 (N + 35) (by omega), e26 (N + 40) (by omega), e26 (N + 45) (by omega)]; rfl)))
  have k26_N_8 : C26 (N + 8) = ra G 4 6 (fun _ => none) := (c26 _ (by omega)).trans (k25_N_8)
  have q26_scN_1 := isSc_gr e26 c26 (by omega) (by omega) q25_scN_1
  have q26_seN_4 := isSe_gr e26 c26 (by omega) (by omega) q25_seN_4
  have q26_frN_9 := isFr_gr e26 c26 (by omega) (by omega) q25_frN_9
  have q26_piN_14 := isPi_gr e26 c26 (by omega) (by omega) q25_piN_14
  have q26_piN_17 := isPi_gr e26 c26 (by omega) (by omega) q25_piN_17
  have q26_frN_20 := isFr_gr e26 c26 (by omega) (by omega) q25_frN_20
  have q26_frN_25 := isFr_gr e26 c26 (by omega) (by omega) q25_frN_25
  have q26_frN_30 := isFr_gr e26 c26 (by omega) (by omega) q25_frN_30
  have q26_frN_35 := isFr_gr e26 c26 (by omega) (by omega) q25_frN_35
  have q26_frN_40 := isFr_gr e26 c26 (by omega) (by omega) q25_frN_40
  have q26_frN_45 := isFr_gr e26 c26 (by omega) (by omega) q25_frN_45
  have ea26 : ∀ j, j < N + 1 → ad26 j = ad j := fun j h => (e26 j (by omega)).trans (ea25 j h)
  have ca26 : ∀ j, j < N → C26 j = C j := fun j h => (c26 j (by omega)).trans (ca25 j h)
  have hl : lv_has ls 2 [(1, .int (nI 0)), (0, .ref (ad26 N))] := by rw [e26 N (by omega)]; exact hl
  refine W.eq (g2 := F0 m 134 ls [.ref (ad26 (N + 50)), .int (nI 0), .ref (ad26 (N + 8))]) (by first | (rw [e26 (N + 8) (by omega), e26 (N + 50) (by omega)]; done) | (rw [e26 (N + 8) (by omega), e26 (N + 50) (by omega)]; rfl)) ?_
  refine iw_aast (t := 4) (ci := 5) hx hb hK rfl hP hD hS (by omega) (k26_N_8) (by omega) (q26_fiN_50.1) rfl (vp_in_nI (show 0 < 6 by omega) (by omega)) (nI_clamp (by omega)) dX6_init_134 (fun H locs hP hD hS => ?_)
  refine lv_iinc (v := nI 1) (lv' := [(1, .int (nI 1)), (0, .ref (ad26 N))]) hx hb dX6_init_135 hl (k := 0) rfl (iinc_nat _ 1) (by decide) rfl (fun ls hl => ?_)
  refine lv_goto (tgt := 116) hx hb dX6_init_138 (by decide) ?_
  refine lv_iload_n hx hb dX6_init_116 rfl (lv_at hl 0 rfl) ?_
  refine lv_bipush (v := nI 6) hx hb dX6_init_117 (by decide) ?_
  refine lv_icmp_ge (tgt := 141) hx hb dX6_init_119 (by decide) (fun c9 => absurd c9 (by decide)) (fun _ => ?_)
  refine lv_aload_n hx hb dX6_init_122 rfl (lv_at hl 1 rfl) ?_
  refine iw_get hx hb hts iu_X6_init_6 hown hK hP (by omega) ((va_un _ _ (by omega)).trans (k26_N)) rfl 3 (by decide) (hts _ il_X6_init_31) (fun _ h9 => h9) rfl dX6_init_123 ?_
  refine lv_iload_n hx hb dX6_init_126 rfl (lv_at hl 0 rfl) ?_
  refine iw_new (ci := 5) (fs := [.null, .int (nI 0), .int (nI 0)]) (T := TX5) (n := 3) hx hb hts iu_X6_init_5 tyX5 tyX5_ok hown (hts _ il_X6_init_29) (hts _ il_X6_init_instX5) (hts _ il_X6_init_iniX5) hK hP hD hS hA rfl (fun j hj => by rcases (show j = 0 ∨ j = 1 ∨ j = 2 by omega) with rfl | rfl | rfl <;> rfl) (Nat.le_of_ble_eq_true rfl) (Nat.le_of_ble_eq_true rfl) dX6_init_127 (fun ad27 C27 H e27 c27 n27 hP hD hS => ?_)
  have k27_N : C27 N = ob 6 [.ref (ad27 (N + 1)), .ref (ad27 (N + 4)), .ref (ad27 (N + 7)), .ref (ad27 (N + 8)), .int (nI 0), .int (nI 0), .ref (ad27 (N + 9)), .ref (ad27 (N + 14)), .ref (ad27 (N + 17))] := (c27 _ (by omega)).trans (((va_un _ _ (by omega)).trans (k26_N)).trans (by first | (rw [e27 (N + 1) (by omega), e27 (N + 4) (by omega), e27 (N + 7) (by omega), e27 (N + 8) (by omega), e27 (N + 9) (by omega), e27 (N + 14) (by omega), e27 (N + 17) (by omega)]; done) | (rw [e27 (N + 1) (by omega), e27 (N + 4) (by omega), e27 (N + 7) (by omega), e27 (N + 8) (by omega), e27 (N + 9) (by omega), e27 (N + 14) (by omega), e27 (N + 17) (by omega)]; rfl)))
  have k27_N_7 : C27 (N + 7) = ra G 3 6 (va_up (va_up (va_up (va_up (va_up (va_up (fun _ => none) 0 (some (ad27 (N + 20)))) 1 (some (ad27 (N + 25)))) 2 (some (ad27 (N + 30)))) 3 (some (ad27 (N + 35)))) 4 (some (ad27 (N + 40)))) 5 (some (ad27 (N + 45)))) := (c27 _ (by omega)).trans (((va_un _ _ (by omega)).trans (k26_N_7)).trans (by first | (rw [e27 (N + 20) (by omega), e27 (N + 25) (by omega), e27 (N + 30) (by omega), e27 (N + 35) (by omega), e27 (N + 40) (by omega), e27 (N + 45) (by omega)]; done) | (rw [e27 (N + 20) (by omega), e27 (N + 25) (by omega), e27 (N + 30) (by omega), e27 (N + 35) (by omega), e27 (N + 40) (by omega), e27 (N + 45) (by omega)]; rfl)))
  have k27_N_8 : C27 (N + 8) = ra G 4 6 (va_up (fun _ => none) 0 (some (ad27 (N + 50)))) := (c27 _ (by omega)).trans ((va_us _ _ _).trans (by first | (rw [e27 (N + 50) (by omega)]; done) | (rw [e27 (N + 50) (by omega)]; rfl)))
  have q27_scN_1 := isSc_gr e27 c27 (by omega) (by omega) (isSc_up q26_scN_1 (by omega))
  have q27_seN_4 := isSe_gr e27 c27 (by omega) (by omega) (isSe_up q26_seN_4 (by omega))
  have q27_frN_9 := isFr_gr e27 c27 (by omega) (by omega) (isFr_up q26_frN_9 (by omega))
  have q27_piN_14 := isPi_gr e27 c27 (by omega) (by omega) (isPi_up q26_piN_14 (by omega))
  have q27_piN_17 := isPi_gr e27 c27 (by omega) (by omega) (isPi_up q26_piN_17 (by omega))
  have q27_frN_20 := isFr_gr e27 c27 (by omega) (by omega) (isFr_up q26_frN_20 (by omega))
  have q27_frN_25 := isFr_gr e27 c27 (by omega) (by omega) (isFr_up q26_frN_25 (by omega))
  have q27_frN_30 := isFr_gr e27 c27 (by omega) (by omega) (isFr_up q26_frN_30 (by omega))
  have q27_frN_35 := isFr_gr e27 c27 (by omega) (by omega) (isFr_up q26_frN_35 (by omega))
  have q27_frN_40 := isFr_gr e27 c27 (by omega) (by omega) (isFr_up q26_frN_40 (by omega))
  have q27_frN_45 := isFr_gr e27 c27 (by omega) (by omega) (isFr_up q26_frN_45 (by omega))
  have q27_fiN_50 := isFi_gr e27 c27 (by omega) (by omega) (isFi_up q26_fiN_50 (by omega))
  have ea27 : ∀ j, j < N + 1 → ad27 j = ad j := fun j h => (e27 j (by omega)).trans (ea26 j h)
  have ca27 : ∀ j, j < N → C27 j = C j := fun j h => (c27 j (by omega)).trans ((va_un _ _ (by omega)).trans (ca26 j h))
  have hl : lv_has ls 2 [(1, .int (nI 1)), (0, .ref (ad27 N))] := by rw [e27 N (by omega)]; exact hl
  refine W.eq (g2 := F0 m 130 ls [.ref (ad27 (N + 54)), .int (nI 1), .ref (ad27 (N + 8))]) (by first | (rw [e27 (N + 8) (by omega)]; done) | (rw [e27 (N + 8) (by omega)]; rfl)) ?_
  refine lv_dup hx hb dX6_init_130 rfl ?_
  refine iwg_v (va_runIN (As := []) (rest := [.ref (ad27 (N + 54)), .int (nI 1), .ref (ad27 (N + 8))]) ⟨hx, hb, hml, hown, hts⟩ (kX5_init l G (N + 54) ad27 _ (n27) _) ⟨va_cnB (host := RX6) 0 hts gX6_init_X5_init_n57 rfl rfl rfl (nw_RX6_57 hK.2) (hts _ il_X6_init_iniX5) (by decide +kernel) ⟨Nat.le_of_ble_eq_true rfl, Nat.le_of_ble_eq_true rfl⟩, rfl, (hts _ il_X6_init_im_X5_init)⟩ (iPS hK hP hD [.ref (ad27 (N + 54))])  rfl rfl hl.1 rfl (lv_room (Nat.le_of_ble_eq_true rfl)) dX6_init_131 ⟨Nat.le_of_ble_eq_true rfl, Nat.le_of_ble_eq_true rfl⟩) hD hS hA (fun ad28 C28 H locs hw8 hP hD hS => ?_)
  dsimp only at hw8
  obtain ⟨e28, c28, q28_fiN_54⟩ := hw8
  have k28_N : C28 N = ob 6 [.ref (ad28 (N + 1)), .ref (ad28 (N + 4)), .ref (ad28 (N + 7)), .ref (ad28 (N + 8)), .int (nI 0), .int (nI 0), .ref (ad28 (N + 9)), .ref (ad28 (N + 14)), .ref (ad28 (N + 17))] := (c28 _ (by omega)).trans ((k27_N).trans (by first | (rw [e28 (N + 1) (by omega), e28 (N + 4) (by omega), e28 (N + 7) (by omega), e28 (N + 8) (by omega), e28 (N + 9) (by omega), e28 (N + 14) (by omega), e28 (N + 17) (by omega)]; done) | (rw [e28 (N + 1) (by omega), e28 (N + 4) (by omega), e28 (N + 7) (by omega), e28 (N + 8) (by omega), e28 (N + 9) (by omega), e28 (N + 14) (by omega), e28 (N + 17) (by omega)]; rfl)))
  have k28_N_7 : C28 (N + 7) = ra G 3 6 (va_up (va_up (va_up (va_up (va_up (va_up (fun _ => none) 0 (some (ad28 (N + 20)))) 1 (some (ad28 (N + 25)))) 2 (some (ad28 (N + 30)))) 3 (some (ad28 (N + 35)))) 4 (some (ad28 (N + 40)))) 5 (some (ad28 (N + 45)))) := (c28 _ (by omega)).trans ((k27_N_7).trans (by first | (rw [e28 (N + 20) (by omega), e28 (N + 25) (by omega), e28 (N + 30) (by omega), e28 (N + 35) (by omega), e28 (N + 40) (by omega), e28 (N + 45) (by omega)]; done) | (rw [e28 (N + 20) (by omega), e28 (N + 25) (by omega), e28 (N + 30) (by omega), e28 (N + 35) (by omega), e28 (N + 40) (by omega), e28 (N + 45) (by omega)]; rfl)))
  have k28_N_8 : C28 (N + 8) = ra G 4 6 (va_up (fun _ => none) 0 (some (ad28 (N + 50)))) := (c28 _ (by omega)).trans ((k27_N_8).trans (by first | (rw [e28 (N + 50) (by omega)]; done) | (rw [e28 (N + 50) (by omega)]; rfl)))
  have q28_scN_1 := isSc_gr e28 c28 (by omega) (by omega) q27_scN_1
  have q28_seN_4 := isSe_gr e28 c28 (by omega) (by omega) q27_seN_4
  have q28_frN_9 := isFr_gr e28 c28 (by omega) (by omega) q27_frN_9
  have q28_piN_14 := isPi_gr e28 c28 (by omega) (by omega) q27_piN_14
  have q28_piN_17 := isPi_gr e28 c28 (by omega) (by omega) q27_piN_17
  have q28_frN_20 := isFr_gr e28 c28 (by omega) (by omega) q27_frN_20
  have q28_frN_25 := isFr_gr e28 c28 (by omega) (by omega) q27_frN_25
  have q28_frN_30 := isFr_gr e28 c28 (by omega) (by omega) q27_frN_30
  have q28_frN_35 := isFr_gr e28 c28 (by omega) (by omega) q27_frN_35
  have q28_frN_40 := isFr_gr e28 c28 (by omega) (by omega) q27_frN_40
  have q28_frN_45 := isFr_gr e28 c28 (by omega) (by omega) q27_frN_45
  have q28_fiN_50 := isFi_gr e28 c28 (by omega) (by omega) q27_fiN_50
  have ea28 : ∀ j, j < N + 1 → ad28 j = ad j := fun j h => (e28 j (by omega)).trans (ea27 j h)
  have ca28 : ∀ j, j < N → C28 j = C j := fun j h => (c28 j (by omega)).trans (ca27 j h)
  have hl : lv_has ls 2 [(1, .int (nI 1)), (0, .ref (ad28 N))] := by rw [e28 N (by omega)]; exact hl
  refine W.eq (g2 := F0 m 134 ls [.ref (ad28 (N + 54)), .int (nI 1), .ref (ad28 (N + 8))]) (by first | (rw [e28 (N + 8) (by omega), e28 (N + 54) (by omega)]; done) | (rw [e28 (N + 8) (by omega), e28 (N + 54) (by omega)]; rfl)) ?_
  refine iw_aast (t := 4) (ci := 5) hx hb hK rfl hP hD hS (by omega) (k28_N_8) (by omega) (q28_fiN_54.1) rfl (vp_in_nI (show 1 < 6 by omega) (by omega)) (nI_clamp (by omega)) dX6_init_134 (fun H locs hP hD hS => ?_)
  refine lv_iinc (v := nI 2) (lv' := [(1, .int (nI 2)), (0, .ref (ad28 N))]) hx hb dX6_init_135 hl (k := 0) rfl (iinc_nat _ 1) (by decide) rfl (fun ls hl => ?_)
  refine lv_goto (tgt := 116) hx hb dX6_init_138 (by decide) ?_
  refine lv_iload_n hx hb dX6_init_116 rfl (lv_at hl 0 rfl) ?_
  refine lv_bipush (v := nI 6) hx hb dX6_init_117 (by decide) ?_
  refine lv_icmp_ge (tgt := 141) hx hb dX6_init_119 (by decide) (fun c9 => absurd c9 (by decide)) (fun _ => ?_)
  refine lv_aload_n hx hb dX6_init_122 rfl (lv_at hl 1 rfl) ?_
  refine iw_get hx hb hts iu_X6_init_6 hown hK hP (by omega) ((va_un _ _ (by omega)).trans (k28_N)) rfl 3 (by decide) (hts _ il_X6_init_31) (fun _ h9 => h9) rfl dX6_init_123 ?_
  refine lv_iload_n hx hb dX6_init_126 rfl (lv_at hl 0 rfl) ?_
  refine iw_new (ci := 5) (fs := [.null, .int (nI 0), .int (nI 0)]) (T := TX5) (n := 3) hx hb hts iu_X6_init_5 tyX5 tyX5_ok hown (hts _ il_X6_init_29) (hts _ il_X6_init_instX5) (hts _ il_X6_init_iniX5) hK hP hD hS hA rfl (fun j hj => by rcases (show j = 0 ∨ j = 1 ∨ j = 2 by omega) with rfl | rfl | rfl <;> rfl) (Nat.le_of_ble_eq_true rfl) (Nat.le_of_ble_eq_true rfl) dX6_init_127 (fun ad29 C29 H e29 c29 n29 hP hD hS => ?_)
  have k29_N : C29 N = ob 6 [.ref (ad29 (N + 1)), .ref (ad29 (N + 4)), .ref (ad29 (N + 7)), .ref (ad29 (N + 8)), .int (nI 0), .int (nI 0), .ref (ad29 (N + 9)), .ref (ad29 (N + 14)), .ref (ad29 (N + 17))] := (c29 _ (by omega)).trans (((va_un _ _ (by omega)).trans (k28_N)).trans (by first | (rw [e29 (N + 1) (by omega), e29 (N + 4) (by omega), e29 (N + 7) (by omega), e29 (N + 8) (by omega), e29 (N + 9) (by omega), e29 (N + 14) (by omega), e29 (N + 17) (by omega)]; done) | (rw [e29 (N + 1) (by omega), e29 (N + 4) (by omega), e29 (N + 7) (by omega), e29 (N + 8) (by omega), e29 (N + 9) (by omega), e29 (N + 14) (by omega), e29 (N + 17) (by omega)]; rfl)))
  have k29_N_7 : C29 (N + 7) = ra G 3 6 (va_up (va_up (va_up (va_up (va_up (va_up (fun _ => none) 0 (some (ad29 (N + 20)))) 1 (some (ad29 (N + 25)))) 2 (some (ad29 (N + 30)))) 3 (some (ad29 (N + 35)))) 4 (some (ad29 (N + 40)))) 5 (some (ad29 (N + 45)))) := (c29 _ (by omega)).trans (((va_un _ _ (by omega)).trans (k28_N_7)).trans (by first | (rw [e29 (N + 20) (by omega), e29 (N + 25) (by omega), e29 (N + 30) (by omega), e29 (N + 35) (by omega), e29 (N + 40) (by omega), e29 (N + 45) (by omega)]; done) | (rw [e29 (N + 20) (by omega), e29 (N + 25) (by omega), e29 (N + 30) (by omega), e29 (N + 35) (by omega), e29 (N + 40) (by omega), e29 (N + 45) (by omega)]; rfl)))
  have k29_N_8 : C29 (N + 8) = ra G 4 6 (va_up (va_up (fun _ => none) 0 (some (ad29 (N + 50)))) 1 (some (ad29 (N + 54)))) := (c29 _ (by omega)).trans ((va_us _ _ _).trans (by first | (rw [e29 (N + 50) (by omega), e29 (N + 54) (by omega)]; done) | (rw [e29 (N + 50) (by omega), e29 (N + 54) (by omega)]; rfl)))
  have q29_scN_1 := isSc_gr e29 c29 (by omega) (by omega) (isSc_up q28_scN_1 (by omega))
  have q29_seN_4 := isSe_gr e29 c29 (by omega) (by omega) (isSe_up q28_seN_4 (by omega))
  have q29_frN_9 := isFr_gr e29 c29 (by omega) (by omega) (isFr_up q28_frN_9 (by omega))
  have q29_piN_14 := isPi_gr e29 c29 (by omega) (by omega) (isPi_up q28_piN_14 (by omega))
  have q29_piN_17 := isPi_gr e29 c29 (by omega) (by omega) (isPi_up q28_piN_17 (by omega))
  have q29_frN_20 := isFr_gr e29 c29 (by omega) (by omega) (isFr_up q28_frN_20 (by omega))
  have q29_frN_25 := isFr_gr e29 c29 (by omega) (by omega) (isFr_up q28_frN_25 (by omega))
  have q29_frN_30 := isFr_gr e29 c29 (by omega) (by omega) (isFr_up q28_frN_30 (by omega))
  have q29_frN_35 := isFr_gr e29 c29 (by omega) (by omega) (isFr_up q28_frN_35 (by omega))
  have q29_frN_40 := isFr_gr e29 c29 (by omega) (by omega) (isFr_up q28_frN_40 (by omega))
  have q29_frN_45 := isFr_gr e29 c29 (by omega) (by omega) (isFr_up q28_frN_45 (by omega))
  have q29_fiN_50 := isFi_gr e29 c29 (by omega) (by omega) (isFi_up q28_fiN_50 (by omega))
  have q29_fiN_54 := isFi_gr e29 c29 (by omega) (by omega) (isFi_up q28_fiN_54 (by omega))
  have ea29 : ∀ j, j < N + 1 → ad29 j = ad j := fun j h => (e29 j (by omega)).trans (ea28 j h)
  have ca29 : ∀ j, j < N → C29 j = C j := fun j h => (c29 j (by omega)).trans ((va_un _ _ (by omega)).trans (ca28 j h))
  have hl : lv_has ls 2 [(1, .int (nI 2)), (0, .ref (ad29 N))] := by rw [e29 N (by omega)]; exact hl
  refine W.eq (g2 := F0 m 130 ls [.ref (ad29 (N + 58)), .int (nI 2), .ref (ad29 (N + 8))]) (by first | (rw [e29 (N + 8) (by omega)]; done) | (rw [e29 (N + 8) (by omega)]; rfl)) ?_
  refine lv_dup hx hb dX6_init_130 rfl ?_
  refine iwg_v (va_runIN (As := []) (rest := [.ref (ad29 (N + 58)), .int (nI 2), .ref (ad29 (N + 8))]) ⟨hx, hb, hml, hown, hts⟩ (kX5_init l G (N + 58) ad29 _ (n29) _) ⟨va_cnB (host := RX6) 0 hts gX6_init_X5_init_n57 rfl rfl rfl (nw_RX6_57 hK.2) (hts _ il_X6_init_iniX5) (by decide +kernel) ⟨Nat.le_of_ble_eq_true rfl, Nat.le_of_ble_eq_true rfl⟩, rfl, (hts _ il_X6_init_im_X5_init)⟩ (iPS hK hP hD [.ref (ad29 (N + 58))])  rfl rfl hl.1 rfl (lv_room (Nat.le_of_ble_eq_true rfl)) dX6_init_131 ⟨Nat.le_of_ble_eq_true rfl, Nat.le_of_ble_eq_true rfl⟩) hD hS hA (fun ad30 C30 H locs hw8 hP hD hS => ?_)
  dsimp only at hw8
  obtain ⟨e30, c30, q30_fiN_58⟩ := hw8
  have k30_N : C30 N = ob 6 [.ref (ad30 (N + 1)), .ref (ad30 (N + 4)), .ref (ad30 (N + 7)), .ref (ad30 (N + 8)), .int (nI 0), .int (nI 0), .ref (ad30 (N + 9)), .ref (ad30 (N + 14)), .ref (ad30 (N + 17))] := (c30 _ (by omega)).trans ((k29_N).trans (by first | (rw [e30 (N + 1) (by omega), e30 (N + 4) (by omega), e30 (N + 7) (by omega), e30 (N + 8) (by omega), e30 (N + 9) (by omega), e30 (N + 14) (by omega), e30 (N + 17) (by omega)]; done) | (rw [e30 (N + 1) (by omega), e30 (N + 4) (by omega), e30 (N + 7) (by omega), e30 (N + 8) (by omega), e30 (N + 9) (by omega), e30 (N + 14) (by omega), e30 (N + 17) (by omega)]; rfl)))
  have k30_N_7 : C30 (N + 7) = ra G 3 6 (va_up (va_up (va_up (va_up (va_up (va_up (fun _ => none) 0 (some (ad30 (N + 20)))) 1 (some (ad30 (N + 25)))) 2 (some (ad30 (N + 30)))) 3 (some (ad30 (N + 35)))) 4 (some (ad30 (N + 40)))) 5 (some (ad30 (N + 45)))) := (c30 _ (by omega)).trans ((k29_N_7).trans (by first | (rw [e30 (N + 20) (by omega), e30 (N + 25) (by omega), e30 (N + 30) (by omega), e30 (N + 35) (by omega), e30 (N + 40) (by omega), e30 (N + 45) (by omega)]; done) | (rw [e30 (N + 20) (by omega), e30 (N + 25) (by omega), e30 (N + 30) (by omega), e30 (N + 35) (by omega), e30 (N + 40) (by omega), e30 (N + 45) (by omega)]; rfl)))
  have k30_N_8 : C30 (N + 8) = ra G 4 6 (va_up (va_up (fun _ => none) 0 (some (ad30 (N + 50)))) 1 (some (ad30 (N + 54)))) := (c30 _ (by omega)).trans ((k29_N_8).trans (by first | (rw [e30 (N + 50) (by omega), e30 (N + 54) (by omega)]; done) | (rw [e30 (N + 50) (by omega), e30 (N + 54) (by omega)]; rfl)))
  have q30_scN_1 := isSc_gr e30 c30 (by omega) (by omega) q29_scN_1
  have q30_seN_4 := isSe_gr e30 c30 (by omega) (by omega) q29_seN_4
  have q30_frN_9 := isFr_gr e30 c30 (by omega) (by omega) q29_frN_9
  have q30_piN_14 := isPi_gr e30 c30 (by omega) (by omega) q29_piN_14
  have q30_piN_17 := isPi_gr e30 c30 (by omega) (by omega) q29_piN_17
  have q30_frN_20 := isFr_gr e30 c30 (by omega) (by omega) q29_frN_20
  have q30_frN_25 := isFr_gr e30 c30 (by omega) (by omega) q29_frN_25
  have q30_frN_30 := isFr_gr e30 c30 (by omega) (by omega) q29_frN_30
  have q30_frN_35 := isFr_gr e30 c30 (by omega) (by omega) q29_frN_35
  have q30_frN_40 := isFr_gr e30 c30 (by omega) (by omega) q29_frN_40
  have q30_frN_45 := isFr_gr e30 c30 (by omega) (by omega) q29_frN_45
  have q30_fiN_50 := isFi_gr e30 c30 (by omega) (by omega) q29_fiN_50
  have q30_fiN_54 := isFi_gr e30 c30 (by omega) (by omega) q29_fiN_54
  have ea30 : ∀ j, j < N + 1 → ad30 j = ad j := fun j h => (e30 j (by omega)).trans (ea29 j h)
  have ca30 : ∀ j, j < N → C30 j = C j := fun j h => (c30 j (by omega)).trans (ca29 j h)
  have hl : lv_has ls 2 [(1, .int (nI 2)), (0, .ref (ad30 N))] := by rw [e30 N (by omega)]; exact hl
  refine W.eq (g2 := F0 m 134 ls [.ref (ad30 (N + 58)), .int (nI 2), .ref (ad30 (N + 8))]) (by first | (rw [e30 (N + 8) (by omega), e30 (N + 58) (by omega)]; done) | (rw [e30 (N + 8) (by omega), e30 (N + 58) (by omega)]; rfl)) ?_
  refine iw_aast (t := 4) (ci := 5) hx hb hK rfl hP hD hS (by omega) (k30_N_8) (by omega) (q30_fiN_58.1) rfl (vp_in_nI (show 2 < 6 by omega) (by omega)) (nI_clamp (by omega)) dX6_init_134 (fun H locs hP hD hS => ?_)
  refine lv_iinc (v := nI 3) (lv' := [(1, .int (nI 3)), (0, .ref (ad30 N))]) hx hb dX6_init_135 hl (k := 0) rfl (iinc_nat _ 1) (by decide) rfl (fun ls hl => ?_)
  refine lv_goto (tgt := 116) hx hb dX6_init_138 (by decide) ?_
  refine lv_iload_n hx hb dX6_init_116 rfl (lv_at hl 0 rfl) ?_
  refine lv_bipush (v := nI 6) hx hb dX6_init_117 (by decide) ?_
  refine lv_icmp_ge (tgt := 141) hx hb dX6_init_119 (by decide) (fun c9 => absurd c9 (by decide)) (fun _ => ?_)
  refine lv_aload_n hx hb dX6_init_122 rfl (lv_at hl 1 rfl) ?_
  refine iw_get hx hb hts iu_X6_init_6 hown hK hP (by omega) ((va_un _ _ (by omega)).trans (k30_N)) rfl 3 (by decide) (hts _ il_X6_init_31) (fun _ h9 => h9) rfl dX6_init_123 ?_
  refine lv_iload_n hx hb dX6_init_126 rfl (lv_at hl 0 rfl) ?_
  refine iw_new (ci := 5) (fs := [.null, .int (nI 0), .int (nI 0)]) (T := TX5) (n := 3) hx hb hts iu_X6_init_5 tyX5 tyX5_ok hown (hts _ il_X6_init_29) (hts _ il_X6_init_instX5) (hts _ il_X6_init_iniX5) hK hP hD hS hA rfl (fun j hj => by rcases (show j = 0 ∨ j = 1 ∨ j = 2 by omega) with rfl | rfl | rfl <;> rfl) (Nat.le_of_ble_eq_true rfl) (Nat.le_of_ble_eq_true rfl) dX6_init_127 (fun ad31 C31 H e31 c31 n31 hP hD hS => ?_)
  have k31_N : C31 N = ob 6 [.ref (ad31 (N + 1)), .ref (ad31 (N + 4)), .ref (ad31 (N + 7)), .ref (ad31 (N + 8)), .int (nI 0), .int (nI 0), .ref (ad31 (N + 9)), .ref (ad31 (N + 14)), .ref (ad31 (N + 17))] := (c31 _ (by omega)).trans (((va_un _ _ (by omega)).trans (k30_N)).trans (by first | (rw [e31 (N + 1) (by omega), e31 (N + 4) (by omega), e31 (N + 7) (by omega), e31 (N + 8) (by omega), e31 (N + 9) (by omega), e31 (N + 14) (by omega), e31 (N + 17) (by omega)]; done) | (rw [e31 (N + 1) (by omega), e31 (N + 4) (by omega), e31 (N + 7) (by omega), e31 (N + 8) (by omega), e31 (N + 9) (by omega), e31 (N + 14) (by omega), e31 (N + 17) (by omega)]; rfl)))
  have k31_N_7 : C31 (N + 7) = ra G 3 6 (va_up (va_up (va_up (va_up (va_up (va_up (fun _ => none) 0 (some (ad31 (N + 20)))) 1 (some (ad31 (N + 25)))) 2 (some (ad31 (N + 30)))) 3 (some (ad31 (N + 35)))) 4 (some (ad31 (N + 40)))) 5 (some (ad31 (N + 45)))) := (c31 _ (by omega)).trans (((va_un _ _ (by omega)).trans (k30_N_7)).trans (by first | (rw [e31 (N + 20) (by omega), e31 (N + 25) (by omega), e31 (N + 30) (by omega), e31 (N + 35) (by omega), e31 (N + 40) (by omega), e31 (N + 45) (by omega)]; done) | (rw [e31 (N + 20) (by omega), e31 (N + 25) (by omega), e31 (N + 30) (by omega), e31 (N + 35) (by omega), e31 (N + 40) (by omega), e31 (N + 45) (by omega)]; rfl)))
  have k31_N_8 : C31 (N + 8) = ra G 4 6 (va_up (va_up (va_up (fun _ => none) 0 (some (ad31 (N + 50)))) 1 (some (ad31 (N + 54)))) 2 (some (ad31 (N + 58)))) := (c31 _ (by omega)).trans ((va_us _ _ _).trans (by first | (rw [e31 (N + 50) (by omega), e31 (N + 54) (by omega), e31 (N + 58) (by omega)]; done) | (rw [e31 (N + 50) (by omega), e31 (N + 54) (by omega), e31 (N + 58) (by omega)]; rfl)))
  have q31_scN_1 := isSc_gr e31 c31 (by omega) (by omega) (isSc_up q30_scN_1 (by omega))
  have q31_seN_4 := isSe_gr e31 c31 (by omega) (by omega) (isSe_up q30_seN_4 (by omega))
  have q31_frN_9 := isFr_gr e31 c31 (by omega) (by omega) (isFr_up q30_frN_9 (by omega))
  have q31_piN_14 := isPi_gr e31 c31 (by omega) (by omega) (isPi_up q30_piN_14 (by omega))
  have q31_piN_17 := isPi_gr e31 c31 (by omega) (by omega) (isPi_up q30_piN_17 (by omega))
  have q31_frN_20 := isFr_gr e31 c31 (by omega) (by omega) (isFr_up q30_frN_20 (by omega))
  have q31_frN_25 := isFr_gr e31 c31 (by omega) (by omega) (isFr_up q30_frN_25 (by omega))
  have q31_frN_30 := isFr_gr e31 c31 (by omega) (by omega) (isFr_up q30_frN_30 (by omega))
  have q31_frN_35 := isFr_gr e31 c31 (by omega) (by omega) (isFr_up q30_frN_35 (by omega))
  have q31_frN_40 := isFr_gr e31 c31 (by omega) (by omega) (isFr_up q30_frN_40 (by omega))
  have q31_frN_45 := isFr_gr e31 c31 (by omega) (by omega) (isFr_up q30_frN_45 (by omega))
  have q31_fiN_50 := isFi_gr e31 c31 (by omega) (by omega) (isFi_up q30_fiN_50 (by omega))
  have q31_fiN_54 := isFi_gr e31 c31 (by omega) (by omega) (isFi_up q30_fiN_54 (by omega))
  have q31_fiN_58 := isFi_gr e31 c31 (by omega) (by omega) (isFi_up q30_fiN_58 (by omega))
  have ea31 : ∀ j, j < N + 1 → ad31 j = ad j := fun j h => (e31 j (by omega)).trans (ea30 j h)
  have ca31 : ∀ j, j < N → C31 j = C j := fun j h => (c31 j (by omega)).trans ((va_un _ _ (by omega)).trans (ca30 j h))
  have hl : lv_has ls 2 [(1, .int (nI 3)), (0, .ref (ad31 N))] := by rw [e31 N (by omega)]; exact hl
  refine W.eq (g2 := F0 m 130 ls [.ref (ad31 (N + 62)), .int (nI 3), .ref (ad31 (N + 8))]) (by first | (rw [e31 (N + 8) (by omega)]; done) | (rw [e31 (N + 8) (by omega)]; rfl)) ?_
  refine lv_dup hx hb dX6_init_130 rfl ?_
  refine iwg_v (va_runIN (As := []) (rest := [.ref (ad31 (N + 62)), .int (nI 3), .ref (ad31 (N + 8))]) ⟨hx, hb, hml, hown, hts⟩ (kX5_init l G (N + 62) ad31 _ (n31) _) ⟨va_cnB (host := RX6) 0 hts gX6_init_X5_init_n57 rfl rfl rfl (nw_RX6_57 hK.2) (hts _ il_X6_init_iniX5) (by decide +kernel) ⟨Nat.le_of_ble_eq_true rfl, Nat.le_of_ble_eq_true rfl⟩, rfl, (hts _ il_X6_init_im_X5_init)⟩ (iPS hK hP hD [.ref (ad31 (N + 62))])  rfl rfl hl.1 rfl (lv_room (Nat.le_of_ble_eq_true rfl)) dX6_init_131 ⟨Nat.le_of_ble_eq_true rfl, Nat.le_of_ble_eq_true rfl⟩) hD hS hA (fun ad32 C32 H locs hw8 hP hD hS => ?_)
  dsimp only at hw8
  obtain ⟨e32, c32, q32_fiN_62⟩ := hw8
  have k32_N : C32 N = ob 6 [.ref (ad32 (N + 1)), .ref (ad32 (N + 4)), .ref (ad32 (N + 7)), .ref (ad32 (N + 8)), .int (nI 0), .int (nI 0), .ref (ad32 (N + 9)), .ref (ad32 (N + 14)), .ref (ad32 (N + 17))] := (c32 _ (by omega)).trans ((k31_N).trans (by first | (rw [e32 (N + 1) (by omega), e32 (N + 4) (by omega), e32 (N + 7) (by omega), e32 (N + 8) (by omega), e32 (N + 9) (by omega), e32 (N + 14) (by omega), e32 (N + 17) (by omega)]; done) | (rw [e32 (N + 1) (by omega), e32 (N + 4) (by omega), e32 (N + 7) (by omega), e32 (N + 8) (by omega), e32 (N + 9) (by omega), e32 (N + 14) (by omega), e32 (N + 17) (by omega)]; rfl)))
  have k32_N_7 : C32 (N + 7) = ra G 3 6 (va_up (va_up (va_up (va_up (va_up (va_up (fun _ => none) 0 (some (ad32 (N + 20)))) 1 (some (ad32 (N + 25)))) 2 (some (ad32 (N + 30)))) 3 (some (ad32 (N + 35)))) 4 (some (ad32 (N + 40)))) 5 (some (ad32 (N + 45)))) := (c32 _ (by omega)).trans ((k31_N_7).trans (by first | (rw [e32 (N + 20) (by omega), e32 (N + 25) (by omega), e32 (N + 30) (by omega), e32 (N + 35) (by omega), e32 (N + 40) (by omega), e32 (N + 45) (by omega)]; done) | (rw [e32 (N + 20) (by omega), e32 (N + 25) (by omega), e32 (N + 30) (by omega), e32 (N + 35) (by omega), e32 (N + 40) (by omega), e32 (N + 45) (by omega)]; rfl)))
  have k32_N_8 : C32 (N + 8) = ra G 4 6 (va_up (va_up (va_up (fun _ => none) 0 (some (ad32 (N + 50)))) 1 (some (ad32 (N + 54)))) 2 (some (ad32 (N + 58)))) := (c32 _ (by omega)).trans ((k31_N_8).trans (by first | (rw [e32 (N + 50) (by omega), e32 (N + 54) (by omega), e32 (N + 58) (by omega)]; done) | (rw [e32 (N + 50) (by omega), e32 (N + 54) (by omega), e32 (N + 58) (by omega)]; rfl)))
  have q32_scN_1 := isSc_gr e32 c32 (by omega) (by omega) q31_scN_1
  have q32_seN_4 := isSe_gr e32 c32 (by omega) (by omega) q31_seN_4
  have q32_frN_9 := isFr_gr e32 c32 (by omega) (by omega) q31_frN_9
  have q32_piN_14 := isPi_gr e32 c32 (by omega) (by omega) q31_piN_14
  have q32_piN_17 := isPi_gr e32 c32 (by omega) (by omega) q31_piN_17
  have q32_frN_20 := isFr_gr e32 c32 (by omega) (by omega) q31_frN_20
  have q32_frN_25 := isFr_gr e32 c32 (by omega) (by omega) q31_frN_25
  have q32_frN_30 := isFr_gr e32 c32 (by omega) (by omega) q31_frN_30
  have q32_frN_35 := isFr_gr e32 c32 (by omega) (by omega) q31_frN_35
  have q32_frN_40 := isFr_gr e32 c32 (by omega) (by omega) q31_frN_40
  have q32_frN_45 := isFr_gr e32 c32 (by omega) (by omega) q31_frN_45
  have q32_fiN_50 := isFi_gr e32 c32 (by omega) (by omega) q31_fiN_50
  have q32_fiN_54 := isFi_gr e32 c32 (by omega) (by omega) q31_fiN_54
  have q32_fiN_58 := isFi_gr e32 c32 (by omega) (by omega) q31_fiN_58
  have ea32 : ∀ j, j < N + 1 → ad32 j = ad j := fun j h => (e32 j (by omega)).trans (ea31 j h)
  have ca32 : ∀ j, j < N → C32 j = C j := fun j h => (c32 j (by omega)).trans (ca31 j h)
  have hl : lv_has ls 2 [(1, .int (nI 3)), (0, .ref (ad32 N))] := by rw [e32 N (by omega)]; exact hl
  refine W.eq (g2 := F0 m 134 ls [.ref (ad32 (N + 62)), .int (nI 3), .ref (ad32 (N + 8))]) (by first | (rw [e32 (N + 8) (by omega), e32 (N + 62) (by omega)]; done) | (rw [e32 (N + 8) (by omega), e32 (N + 62) (by omega)]; rfl)) ?_
  refine iw_aast (t := 4) (ci := 5) hx hb hK rfl hP hD hS (by omega) (k32_N_8) (by omega) (q32_fiN_62.1) rfl (vp_in_nI (show 3 < 6 by omega) (by omega)) (nI_clamp (by omega)) dX6_init_134 (fun H locs hP hD hS => ?_)
  refine lv_iinc (v := nI 4) (lv' := [(1, .int (nI 4)), (0, .ref (ad32 N))]) hx hb dX6_init_135 hl (k := 0) rfl (iinc_nat _ 1) (by decide) rfl (fun ls hl => ?_)
  refine lv_goto (tgt := 116) hx hb dX6_init_138 (by decide) ?_
  refine lv_iload_n hx hb dX6_init_116 rfl (lv_at hl 0 rfl) ?_
  refine lv_bipush (v := nI 6) hx hb dX6_init_117 (by decide) ?_
  refine lv_icmp_ge (tgt := 141) hx hb dX6_init_119 (by decide) (fun c9 => absurd c9 (by decide)) (fun _ => ?_)
  refine lv_aload_n hx hb dX6_init_122 rfl (lv_at hl 1 rfl) ?_
  refine iw_get hx hb hts iu_X6_init_6 hown hK hP (by omega) ((va_un _ _ (by omega)).trans (k32_N)) rfl 3 (by decide) (hts _ il_X6_init_31) (fun _ h9 => h9) rfl dX6_init_123 ?_
  refine lv_iload_n hx hb dX6_init_126 rfl (lv_at hl 0 rfl) ?_
  refine iw_new (ci := 5) (fs := [.null, .int (nI 0), .int (nI 0)]) (T := TX5) (n := 3) hx hb hts iu_X6_init_5 tyX5 tyX5_ok hown (hts _ il_X6_init_29) (hts _ il_X6_init_instX5) (hts _ il_X6_init_iniX5) hK hP hD hS hA rfl (fun j hj => by rcases (show j = 0 ∨ j = 1 ∨ j = 2 by omega) with rfl | rfl | rfl <;> rfl) (Nat.le_of_ble_eq_true rfl) (Nat.le_of_ble_eq_true rfl) dX6_init_127 (fun ad33 C33 H e33 c33 n33 hP hD hS => ?_)
  have k33_N : C33 N = ob 6 [.ref (ad33 (N + 1)), .ref (ad33 (N + 4)), .ref (ad33 (N + 7)), .ref (ad33 (N + 8)), .int (nI 0), .int (nI 0), .ref (ad33 (N + 9)), .ref (ad33 (N + 14)), .ref (ad33 (N + 17))] := (c33 _ (by omega)).trans (((va_un _ _ (by omega)).trans (k32_N)).trans (by first | (rw [e33 (N + 1) (by omega), e33 (N + 4) (by omega), e33 (N + 7) (by omega), e33 (N + 8) (by omega), e33 (N + 9) (by omega), e33 (N + 14) (by omega), e33 (N + 17) (by omega)]; done) | (rw [e33 (N + 1) (by omega), e33 (N + 4) (by omega), e33 (N + 7) (by omega), e33 (N + 8) (by omega), e33 (N + 9) (by omega), e33 (N + 14) (by omega), e33 (N + 17) (by omega)]; rfl)))
  have k33_N_7 : C33 (N + 7) = ra G 3 6 (va_up (va_up (va_up (va_up (va_up (va_up (fun _ => none) 0 (some (ad33 (N + 20)))) 1 (some (ad33 (N + 25)))) 2 (some (ad33 (N + 30)))) 3 (some (ad33 (N + 35)))) 4 (some (ad33 (N + 40)))) 5 (some (ad33 (N + 45)))) := (c33 _ (by omega)).trans (((va_un _ _ (by omega)).trans (k32_N_7)).trans (by first | (rw [e33 (N + 20) (by omega), e33 (N + 25) (by omega), e33 (N + 30) (by omega), e33 (N + 35) (by omega), e33 (N + 40) (by omega), e33 (N + 45) (by omega)]; done) | (rw [e33 (N + 20) (by omega), e33 (N + 25) (by omega), e33 (N + 30) (by omega), e33 (N + 35) (by omega), e33 (N + 40) (by omega), e33 (N + 45) (by omega)]; rfl)))
  have k33_N_8 : C33 (N + 8) = ra G 4 6 (va_up (va_up (va_up (va_up (fun _ => none) 0 (some (ad33 (N + 50)))) 1 (some (ad33 (N + 54)))) 2 (some (ad33 (N + 58)))) 3 (some (ad33 (N + 62)))) := (c33 _ (by omega)).trans ((va_us _ _ _).trans (by first | (rw [e33 (N + 50) (by omega), e33 (N + 54) (by omega), e33 (N + 58) (by omega), e33 (N + 62) (by omega)]; done) | (rw [e33 (N + 50) (by omega), e33 (N + 54) (by omega), e33 (N + 58) (by omega), e33 (N + 62) (by omega)]; rfl)))
  have q33_scN_1 := isSc_gr e33 c33 (by omega) (by omega) (isSc_up q32_scN_1 (by omega))
  have q33_seN_4 := isSe_gr e33 c33 (by omega) (by omega) (isSe_up q32_seN_4 (by omega))
  have q33_frN_9 := isFr_gr e33 c33 (by omega) (by omega) (isFr_up q32_frN_9 (by omega))
  have q33_piN_14 := isPi_gr e33 c33 (by omega) (by omega) (isPi_up q32_piN_14 (by omega))
  have q33_piN_17 := isPi_gr e33 c33 (by omega) (by omega) (isPi_up q32_piN_17 (by omega))
  have q33_frN_20 := isFr_gr e33 c33 (by omega) (by omega) (isFr_up q32_frN_20 (by omega))
  have q33_frN_25 := isFr_gr e33 c33 (by omega) (by omega) (isFr_up q32_frN_25 (by omega))
  have q33_frN_30 := isFr_gr e33 c33 (by omega) (by omega) (isFr_up q32_frN_30 (by omega))
  have q33_frN_35 := isFr_gr e33 c33 (by omega) (by omega) (isFr_up q32_frN_35 (by omega))
  have q33_frN_40 := isFr_gr e33 c33 (by omega) (by omega) (isFr_up q32_frN_40 (by omega))
  have q33_frN_45 := isFr_gr e33 c33 (by omega) (by omega) (isFr_up q32_frN_45 (by omega))
  have q33_fiN_50 := isFi_gr e33 c33 (by omega) (by omega) (isFi_up q32_fiN_50 (by omega))
  have q33_fiN_54 := isFi_gr e33 c33 (by omega) (by omega) (isFi_up q32_fiN_54 (by omega))
  have q33_fiN_58 := isFi_gr e33 c33 (by omega) (by omega) (isFi_up q32_fiN_58 (by omega))
  have q33_fiN_62 := isFi_gr e33 c33 (by omega) (by omega) (isFi_up q32_fiN_62 (by omega))
  have ea33 : ∀ j, j < N + 1 → ad33 j = ad j := fun j h => (e33 j (by omega)).trans (ea32 j h)
  have ca33 : ∀ j, j < N → C33 j = C j := fun j h => (c33 j (by omega)).trans ((va_un _ _ (by omega)).trans (ca32 j h))
  have hl : lv_has ls 2 [(1, .int (nI 4)), (0, .ref (ad33 N))] := by rw [e33 N (by omega)]; exact hl
  refine W.eq (g2 := F0 m 130 ls [.ref (ad33 (N + 66)), .int (nI 4), .ref (ad33 (N + 8))]) (by first | (rw [e33 (N + 8) (by omega)]; done) | (rw [e33 (N + 8) (by omega)]; rfl)) ?_
  refine lv_dup hx hb dX6_init_130 rfl ?_
  refine iwg_v (va_runIN (As := []) (rest := [.ref (ad33 (N + 66)), .int (nI 4), .ref (ad33 (N + 8))]) ⟨hx, hb, hml, hown, hts⟩ (kX5_init l G (N + 66) ad33 _ (n33) _) ⟨va_cnB (host := RX6) 0 hts gX6_init_X5_init_n57 rfl rfl rfl (nw_RX6_57 hK.2) (hts _ il_X6_init_iniX5) (by decide +kernel) ⟨Nat.le_of_ble_eq_true rfl, Nat.le_of_ble_eq_true rfl⟩, rfl, (hts _ il_X6_init_im_X5_init)⟩ (iPS hK hP hD [.ref (ad33 (N + 66))])  rfl rfl hl.1 rfl (lv_room (Nat.le_of_ble_eq_true rfl)) dX6_init_131 ⟨Nat.le_of_ble_eq_true rfl, Nat.le_of_ble_eq_true rfl⟩) hD hS hA (fun ad34 C34 H locs hw8 hP hD hS => ?_)
  dsimp only at hw8
  obtain ⟨e34, c34, q34_fiN_66⟩ := hw8
  have k34_N : C34 N = ob 6 [.ref (ad34 (N + 1)), .ref (ad34 (N + 4)), .ref (ad34 (N + 7)), .ref (ad34 (N + 8)), .int (nI 0), .int (nI 0), .ref (ad34 (N + 9)), .ref (ad34 (N + 14)), .ref (ad34 (N + 17))] := (c34 _ (by omega)).trans ((k33_N).trans (by first | (rw [e34 (N + 1) (by omega), e34 (N + 4) (by omega), e34 (N + 7) (by omega), e34 (N + 8) (by omega), e34 (N + 9) (by omega), e34 (N + 14) (by omega), e34 (N + 17) (by omega)]; done) | (rw [e34 (N + 1) (by omega), e34 (N + 4) (by omega), e34 (N + 7) (by omega), e34 (N + 8) (by omega), e34 (N + 9) (by omega), e34 (N + 14) (by omega), e34 (N + 17) (by omega)]; rfl)))
  have k34_N_7 : C34 (N + 7) = ra G 3 6 (va_up (va_up (va_up (va_up (va_up (va_up (fun _ => none) 0 (some (ad34 (N + 20)))) 1 (some (ad34 (N + 25)))) 2 (some (ad34 (N + 30)))) 3 (some (ad34 (N + 35)))) 4 (some (ad34 (N + 40)))) 5 (some (ad34 (N + 45)))) := (c34 _ (by omega)).trans ((k33_N_7).trans (by first | (rw [e34 (N + 20) (by omega), e34 (N + 25) (by omega), e34 (N + 30) (by omega), e34 (N + 35) (by omega), e34 (N + 40) (by omega), e34 (N + 45) (by omega)]; done) | (rw [e34 (N + 20) (by omega), e34 (N + 25) (by omega), e34 (N + 30) (by omega), e34 (N + 35) (by omega), e34 (N + 40) (by omega), e34 (N + 45) (by omega)]; rfl)))
  have k34_N_8 : C34 (N + 8) = ra G 4 6 (va_up (va_up (va_up (va_up (fun _ => none) 0 (some (ad34 (N + 50)))) 1 (some (ad34 (N + 54)))) 2 (some (ad34 (N + 58)))) 3 (some (ad34 (N + 62)))) := (c34 _ (by omega)).trans ((k33_N_8).trans (by first | (rw [e34 (N + 50) (by omega), e34 (N + 54) (by omega), e34 (N + 58) (by omega), e34 (N + 62) (by omega)]; done) | (rw [e34 (N + 50) (by omega), e34 (N + 54) (by omega), e34 (N + 58) (by omega), e34 (N + 62) (by omega)]; rfl)))
  have q34_scN_1 := isSc_gr e34 c34 (by omega) (by omega) q33_scN_1
  have q34_seN_4 := isSe_gr e34 c34 (by omega) (by omega) q33_seN_4
  have q34_frN_9 := isFr_gr e34 c34 (by omega) (by omega) q33_frN_9
  have q34_piN_14 := isPi_gr e34 c34 (by omega) (by omega) q33_piN_14
  have q34_piN_17 := isPi_gr e34 c34 (by omega) (by omega) q33_piN_17
  have q34_frN_20 := isFr_gr e34 c34 (by omega) (by omega) q33_frN_20
  have q34_frN_25 := isFr_gr e34 c34 (by omega) (by omega) q33_frN_25
  have q34_frN_30 := isFr_gr e34 c34 (by omega) (by omega) q33_frN_30
  have q34_frN_35 := isFr_gr e34 c34 (by omega) (by omega) q33_frN_35
  have q34_frN_40 := isFr_gr e34 c34 (by omega) (by omega) q33_frN_40
  have q34_frN_45 := isFr_gr e34 c34 (by omega) (by omega) q33_frN_45
  have q34_fiN_50 := isFi_gr e34 c34 (by omega) (by omega) q33_fiN_50
  have q34_fiN_54 := isFi_gr e34 c34 (by omega) (by omega) q33_fiN_54
  have q34_fiN_58 := isFi_gr e34 c34 (by omega) (by omega) q33_fiN_58
  have q34_fiN_62 := isFi_gr e34 c34 (by omega) (by omega) q33_fiN_62
  have ea34 : ∀ j, j < N + 1 → ad34 j = ad j := fun j h => (e34 j (by omega)).trans (ea33 j h)
  have ca34 : ∀ j, j < N → C34 j = C j := fun j h => (c34 j (by omega)).trans (ca33 j h)
  have hl : lv_has ls 2 [(1, .int (nI 4)), (0, .ref (ad34 N))] := by rw [e34 N (by omega)]; exact hl
  refine W.eq (g2 := F0 m 134 ls [.ref (ad34 (N + 66)), .int (nI 4), .ref (ad34 (N + 8))]) (by first | (rw [e34 (N + 8) (by omega), e34 (N + 66) (by omega)]; done) | (rw [e34 (N + 8) (by omega), e34 (N + 66) (by omega)]; rfl)) ?_
  refine iw_aast (t := 4) (ci := 5) hx hb hK rfl hP hD hS (by omega) (k34_N_8) (by omega) (q34_fiN_66.1) rfl (vp_in_nI (show 4 < 6 by omega) (by omega)) (nI_clamp (by omega)) dX6_init_134 (fun H locs hP hD hS => ?_)
  refine lv_iinc (v := nI 5) (lv' := [(1, .int (nI 5)), (0, .ref (ad34 N))]) hx hb dX6_init_135 hl (k := 0) rfl (iinc_nat _ 1) (by decide) rfl (fun ls hl => ?_)
  refine lv_goto (tgt := 116) hx hb dX6_init_138 (by decide) ?_
  refine lv_iload_n hx hb dX6_init_116 rfl (lv_at hl 0 rfl) ?_
  refine lv_bipush (v := nI 6) hx hb dX6_init_117 (by decide) ?_
  refine lv_icmp_ge (tgt := 141) hx hb dX6_init_119 (by decide) (fun c9 => absurd c9 (by decide)) (fun _ => ?_)
  refine lv_aload_n hx hb dX6_init_122 rfl (lv_at hl 1 rfl) ?_
  refine iw_get hx hb hts iu_X6_init_6 hown hK hP (by omega) ((va_un _ _ (by omega)).trans (k34_N)) rfl 3 (by decide) (hts _ il_X6_init_31) (fun _ h9 => h9) rfl dX6_init_123 ?_
  refine lv_iload_n hx hb dX6_init_126 rfl (lv_at hl 0 rfl) ?_
  refine iw_new (ci := 5) (fs := [.null, .int (nI 0), .int (nI 0)]) (T := TX5) (n := 3) hx hb hts iu_X6_init_5 tyX5 tyX5_ok hown (hts _ il_X6_init_29) (hts _ il_X6_init_instX5) (hts _ il_X6_init_iniX5) hK hP hD hS hA rfl (fun j hj => by rcases (show j = 0 ∨ j = 1 ∨ j = 2 by omega) with rfl | rfl | rfl <;> rfl) (Nat.le_of_ble_eq_true rfl) (Nat.le_of_ble_eq_true rfl) dX6_init_127 (fun ad35 C35 H e35 c35 n35 hP hD hS => ?_)
  have k35_N : C35 N = ob 6 [.ref (ad35 (N + 1)), .ref (ad35 (N + 4)), .ref (ad35 (N + 7)), .ref (ad35 (N + 8)), .int (nI 0), .int (nI 0), .ref (ad35 (N + 9)), .ref (ad35 (N + 14)), .ref (ad35 (N + 17))] := (c35 _ (by omega)).trans (((va_un _ _ (by omega)).trans (k34_N)).trans (by first | (rw [e35 (N + 1) (by omega), e35 (N + 4) (by omega), e35 (N + 7) (by omega), e35 (N + 8) (by omega), e35 (N + 9) (by omega), e35 (N + 14) (by omega), e35 (N + 17) (by omega)]; done) | (rw [e35 (N + 1) (by omega), e35 (N + 4) (by omega), e35 (N + 7) (by omega), e35 (N + 8) (by omega), e35 (N + 9) (by omega), e35 (N + 14) (by omega), e35 (N + 17) (by omega)]; rfl)))
  have k35_N_7 : C35 (N + 7) = ra G 3 6 (va_up (va_up (va_up (va_up (va_up (va_up (fun _ => none) 0 (some (ad35 (N + 20)))) 1 (some (ad35 (N + 25)))) 2 (some (ad35 (N + 30)))) 3 (some (ad35 (N + 35)))) 4 (some (ad35 (N + 40)))) 5 (some (ad35 (N + 45)))) := (c35 _ (by omega)).trans (((va_un _ _ (by omega)).trans (k34_N_7)).trans (by first | (rw [e35 (N + 20) (by omega), e35 (N + 25) (by omega), e35 (N + 30) (by omega), e35 (N + 35) (by omega), e35 (N + 40) (by omega), e35 (N + 45) (by omega)]; done) | (rw [e35 (N + 20) (by omega), e35 (N + 25) (by omega), e35 (N + 30) (by omega), e35 (N + 35) (by omega), e35 (N + 40) (by omega), e35 (N + 45) (by omega)]; rfl)))
  have k35_N_8 : C35 (N + 8) = ra G 4 6 (va_up (va_up (va_up (va_up (va_up (fun _ => none) 0 (some (ad35 (N + 50)))) 1 (some (ad35 (N + 54)))) 2 (some (ad35 (N + 58)))) 3 (some (ad35 (N + 62)))) 4 (some (ad35 (N + 66)))) := (c35 _ (by omega)).trans ((va_us _ _ _).trans (by first | (rw [e35 (N + 50) (by omega), e35 (N + 54) (by omega), e35 (N + 58) (by omega), e35 (N + 62) (by omega), e35 (N + 66) (by omega)]; done) | (rw [e35 (N + 50) (by omega), e35 (N + 54) (by omega), e35 (N + 58) (by omega), e35 (N + 62) (by omega), e35 (N + 66) (by omega)]; rfl)))
  have q35_scN_1 := isSc_gr e35 c35 (by omega) (by omega) (isSc_up q34_scN_1 (by omega))
  have q35_seN_4 := isSe_gr e35 c35 (by omega) (by omega) (isSe_up q34_seN_4 (by omega))
  have q35_frN_9 := isFr_gr e35 c35 (by omega) (by omega) (isFr_up q34_frN_9 (by omega))
  have q35_piN_14 := isPi_gr e35 c35 (by omega) (by omega) (isPi_up q34_piN_14 (by omega))
  have q35_piN_17 := isPi_gr e35 c35 (by omega) (by omega) (isPi_up q34_piN_17 (by omega))
  have q35_frN_20 := isFr_gr e35 c35 (by omega) (by omega) (isFr_up q34_frN_20 (by omega))
  have q35_frN_25 := isFr_gr e35 c35 (by omega) (by omega) (isFr_up q34_frN_25 (by omega))
  have q35_frN_30 := isFr_gr e35 c35 (by omega) (by omega) (isFr_up q34_frN_30 (by omega))
  have q35_frN_35 := isFr_gr e35 c35 (by omega) (by omega) (isFr_up q34_frN_35 (by omega))
  have q35_frN_40 := isFr_gr e35 c35 (by omega) (by omega) (isFr_up q34_frN_40 (by omega))
  have q35_frN_45 := isFr_gr e35 c35 (by omega) (by omega) (isFr_up q34_frN_45 (by omega))
  have q35_fiN_50 := isFi_gr e35 c35 (by omega) (by omega) (isFi_up q34_fiN_50 (by omega))
  have q35_fiN_54 := isFi_gr e35 c35 (by omega) (by omega) (isFi_up q34_fiN_54 (by omega))
  have q35_fiN_58 := isFi_gr e35 c35 (by omega) (by omega) (isFi_up q34_fiN_58 (by omega))
  have q35_fiN_62 := isFi_gr e35 c35 (by omega) (by omega) (isFi_up q34_fiN_62 (by omega))
  have q35_fiN_66 := isFi_gr e35 c35 (by omega) (by omega) (isFi_up q34_fiN_66 (by omega))
  have ea35 : ∀ j, j < N + 1 → ad35 j = ad j := fun j h => (e35 j (by omega)).trans (ea34 j h)
  have ca35 : ∀ j, j < N → C35 j = C j := fun j h => (c35 j (by omega)).trans ((va_un _ _ (by omega)).trans (ca34 j h))
  have hl : lv_has ls 2 [(1, .int (nI 5)), (0, .ref (ad35 N))] := by rw [e35 N (by omega)]; exact hl
  refine W.eq (g2 := F0 m 130 ls [.ref (ad35 (N + 70)), .int (nI 5), .ref (ad35 (N + 8))]) (by first | (rw [e35 (N + 8) (by omega)]; done) | (rw [e35 (N + 8) (by omega)]; rfl)) ?_
  refine lv_dup hx hb dX6_init_130 rfl ?_
  refine iwg_v (va_runIN (As := []) (rest := [.ref (ad35 (N + 70)), .int (nI 5), .ref (ad35 (N + 8))]) ⟨hx, hb, hml, hown, hts⟩ (kX5_init l G (N + 70) ad35 _ (n35) _) ⟨va_cnB (host := RX6) 0 hts gX6_init_X5_init_n57 rfl rfl rfl (nw_RX6_57 hK.2) (hts _ il_X6_init_iniX5) (by decide +kernel) ⟨Nat.le_of_ble_eq_true rfl, Nat.le_of_ble_eq_true rfl⟩, rfl, (hts _ il_X6_init_im_X5_init)⟩ (iPS hK hP hD [.ref (ad35 (N + 70))])  rfl rfl hl.1 rfl (lv_room (Nat.le_of_ble_eq_true rfl)) dX6_init_131 ⟨Nat.le_of_ble_eq_true rfl, Nat.le_of_ble_eq_true rfl⟩) hD hS hA (fun ad36 C36 H locs hw8 hP hD hS => ?_)
  dsimp only at hw8
  obtain ⟨e36, c36, q36_fiN_70⟩ := hw8
  have k36_N : C36 N = ob 6 [.ref (ad36 (N + 1)), .ref (ad36 (N + 4)), .ref (ad36 (N + 7)), .ref (ad36 (N + 8)), .int (nI 0), .int (nI 0), .ref (ad36 (N + 9)), .ref (ad36 (N + 14)), .ref (ad36 (N + 17))] := (c36 _ (by omega)).trans ((k35_N).trans (by first | (rw [e36 (N + 1) (by omega), e36 (N + 4) (by omega), e36 (N + 7) (by omega), e36 (N + 8) (by omega), e36 (N + 9) (by omega), e36 (N + 14) (by omega), e36 (N + 17) (by omega)]; done) | (rw [e36 (N + 1) (by omega), e36 (N + 4) (by omega), e36 (N + 7) (by omega), e36 (N + 8) (by omega), e36 (N + 9) (by omega), e36 (N + 14) (by omega), e36 (N + 17) (by omega)]; rfl)))
  have k36_N_7 : C36 (N + 7) = ra G 3 6 (va_up (va_up (va_up (va_up (va_up (va_up (fun _ => none) 0 (some (ad36 (N + 20)))) 1 (some (ad36 (N + 25)))) 2 (some (ad36 (N + 30)))) 3 (some (ad36 (N + 35)))) 4 (some (ad36 (N + 40)))) 5 (some (ad36 (N + 45)))) := (c36 _ (by omega)).trans ((k35_N_7).trans (by first | (rw [e36 (N + 20) (by omega), e36 (N + 25) (by omega), e36 (N + 30) (by omega), e36 (N + 35) (by omega), e36 (N + 40) (by omega), e36 (N + 45) (by omega)]; done) | (rw [e36 (N + 20) (by omega), e36 (N + 25) (by omega), e36 (N + 30) (by omega), e36 (N + 35) (by omega), e36 (N + 40) (by omega), e36 (N + 45) (by omega)]; rfl)))
  have k36_N_8 : C36 (N + 8) = ra G 4 6 (va_up (va_up (va_up (va_up (va_up (fun _ => none) 0 (some (ad36 (N + 50)))) 1 (some (ad36 (N + 54)))) 2 (some (ad36 (N + 58)))) 3 (some (ad36 (N + 62)))) 4 (some (ad36 (N + 66)))) := (c36 _ (by omega)).trans ((k35_N_8).trans (by first | (rw [e36 (N + 50) (by omega), e36 (N + 54) (by omega), e36 (N + 58) (by omega), e36 (N + 62) (by omega), e36 (N + 66) (by omega)]; done) | (rw [e36 (N + 50) (by omega), e36 (N + 54) (by omega), e36 (N + 58) (by omega), e36 (N + 62) (by omega), e36 (N + 66) (by omega)]; rfl)))
  have q36_scN_1 := isSc_gr e36 c36 (by omega) (by omega) q35_scN_1
  have q36_seN_4 := isSe_gr e36 c36 (by omega) (by omega) q35_seN_4
  have q36_frN_9 := isFr_gr e36 c36 (by omega) (by omega) q35_frN_9
  have q36_piN_14 := isPi_gr e36 c36 (by omega) (by omega) q35_piN_14
  have q36_piN_17 := isPi_gr e36 c36 (by omega) (by omega) q35_piN_17
  have q36_frN_20 := isFr_gr e36 c36 (by omega) (by omega) q35_frN_20
  have q36_frN_25 := isFr_gr e36 c36 (by omega) (by omega) q35_frN_25
  have q36_frN_30 := isFr_gr e36 c36 (by omega) (by omega) q35_frN_30
  have q36_frN_35 := isFr_gr e36 c36 (by omega) (by omega) q35_frN_35
  have q36_frN_40 := isFr_gr e36 c36 (by omega) (by omega) q35_frN_40
  have q36_frN_45 := isFr_gr e36 c36 (by omega) (by omega) q35_frN_45
  have q36_fiN_50 := isFi_gr e36 c36 (by omega) (by omega) q35_fiN_50
  have q36_fiN_54 := isFi_gr e36 c36 (by omega) (by omega) q35_fiN_54
  have q36_fiN_58 := isFi_gr e36 c36 (by omega) (by omega) q35_fiN_58
  have q36_fiN_62 := isFi_gr e36 c36 (by omega) (by omega) q35_fiN_62
  have q36_fiN_66 := isFi_gr e36 c36 (by omega) (by omega) q35_fiN_66
  have ea36 : ∀ j, j < N + 1 → ad36 j = ad j := fun j h => (e36 j (by omega)).trans (ea35 j h)
  have ca36 : ∀ j, j < N → C36 j = C j := fun j h => (c36 j (by omega)).trans (ca35 j h)
  have hl : lv_has ls 2 [(1, .int (nI 5)), (0, .ref (ad36 N))] := by rw [e36 N (by omega)]; exact hl
  refine W.eq (g2 := F0 m 134 ls [.ref (ad36 (N + 70)), .int (nI 5), .ref (ad36 (N + 8))]) (by first | (rw [e36 (N + 8) (by omega), e36 (N + 70) (by omega)]; done) | (rw [e36 (N + 8) (by omega), e36 (N + 70) (by omega)]; rfl)) ?_
  refine iw_aast (t := 4) (ci := 5) hx hb hK rfl hP hD hS (by omega) (k36_N_8) (by omega) (q36_fiN_70.1) rfl (vp_in_nI (show 5 < 6 by omega) (by omega)) (nI_clamp (by omega)) dX6_init_134 (fun H locs hP hD hS => ?_)
  refine lv_iinc (v := nI 6) (lv' := [(1, .int (nI 6)), (0, .ref (ad36 N))]) hx hb dX6_init_135 hl (k := 0) rfl (iinc_nat _ 1) (by decide) rfl (fun ls hl => ?_)
  refine lv_goto (tgt := 116) hx hb dX6_init_138 (by decide) ?_
  refine lv_iload_n hx hb dX6_init_116 rfl (lv_at hl 0 rfl) ?_
  refine lv_bipush (v := nI 6) hx hb dX6_init_117 (by decide) ?_
  refine lv_icmp_ge (tgt := 141) hx hb dX6_init_119 (by decide) (fun _ => ?_) (fun c9 => absurd (by decide) c9)
  have hP := wl_selfE hP ((va_un _ _ (by omega)).trans (k36_N_7))
  have hP := wl_ra (g := fun k => some (ad36 (N + 20 + 5 * k))) hP (fun k hk => by rcases (show k = 0 ∨ k = 1 ∨ k = 2 ∨ k = 3 ∨ k = 4 ∨ k = 5 by omega) with rfl | rfl | rfl | rfl | rfl | rfl <;> first | rfl | (simp [va_up]; done))
  have hD := wl_D hD (va_up (va_up C36 (N + 8) (ra G 4 6 (va_up (va_up (va_up (va_up (va_up (va_up (fun _ => none) 0 (some (ad36 (N + 50)))) 1 (some (ad36 (N + 54)))) 2 (some (ad36 (N + 58)))) 3 (some (ad36 (N + 62)))) 4 (some (ad36 (N + 66)))) 5 (some (ad36 (N + 70)))))) (N + 7) (ra G 3 6 (fun k => some (ad36 (N + 20 + 5 * k)))))
  have hP := wl_selfE hP ((va_un _ _ (by omega)).trans (va_us _ _ _))
  have hP := wl_ra (g := fun k => some (ad36 (N + 50 + 4 * k))) hP (fun k hk => by rcases (show k = 0 ∨ k = 1 ∨ k = 2 ∨ k = 3 ∨ k = 4 ∨ k = 5 by omega) with rfl | rfl | rfl | rfl | rfl | rfl <;> first | rfl | (simp [va_up]; done))
  have hD := wl_D hD (va_up (va_up (va_up C36 (N + 8) (ra G 4 6 (va_up (va_up (va_up (va_up (va_up (va_up (fun _ => none) 0 (some (ad36 (N + 50)))) 1 (some (ad36 (N + 54)))) 2 (some (ad36 (N + 58)))) 3 (some (ad36 (N + 62)))) 4 (some (ad36 (N + 66)))) 5 (some (ad36 (N + 70)))))) (N + 7) (ra G 3 6 (fun k => some (ad36 (N + 20 + 5 * k))))) (N + 8) (ra G 4 6 (fun k => some (ad36 (N + 50 + 4 * k)))))
  have hfr9 : ∀ k, k < 6 → isFr G ad36 (va_up (va_up (va_up C36 (N + 8) (ra G 4 6 (va_up (va_up (va_up (va_up (va_up (va_up (fun _ => none) 0 (some (ad36 (N + 50)))) 1 (some (ad36 (N + 54)))) 2 (some (ad36 (N + 58)))) 3 (some (ad36 (N + 62)))) 4 (some (ad36 (N + 66)))) 5 (some (ad36 (N + 70)))))) (N + 7) (ra G 3 6 (fun k => some (ad36 (N + 20 + 5 * k))))) (N + 8) (ra G 4 6 (fun k => some (ad36 (N + 50 + 4 * k))))) (N + 20 + 5 * k) (fun _ => 0, (fun _ => 0, fun _ => 0, 0), nI 0, nI 0, nI 0) := by
    intro k hk
    rcases (show k = 0 ∨ k = 1 ∨ k = 2 ∨ k = 3 ∨ k = 4 ∨ k = 5 by omega) with rfl | rfl | rfl | rfl | rfl | rfl
    · rw [show N + 20 + 5 * 0 = N + 20 from by omega]
      exact (isFr_up (isFr_up (isFr_up q36_frN_20 (by omega)) (by omega)) (by omega))
    · rw [show N + 20 + 5 * 1 = N + 25 from by omega]
      exact (isFr_up (isFr_up (isFr_up q36_frN_25 (by omega)) (by omega)) (by omega))
    · rw [show N + 20 + 5 * 2 = N + 30 from by omega]
      exact (isFr_up (isFr_up (isFr_up q36_frN_30 (by omega)) (by omega)) (by omega))
    · rw [show N + 20 + 5 * 3 = N + 35 from by omega]
      exact (isFr_up (isFr_up (isFr_up q36_frN_35 (by omega)) (by omega)) (by omega))
    · rw [show N + 20 + 5 * 4 = N + 40 from by omega]
      exact (isFr_up (isFr_up (isFr_up q36_frN_40 (by omega)) (by omega)) (by omega))
    · rw [show N + 20 + 5 * 5 = N + 45 from by omega]
      exact (isFr_up (isFr_up (isFr_up q36_frN_45 (by omega)) (by omega)) (by omega))
  have hfi9 : ∀ k, k < 6 → isFi G ad36 (va_up (va_up (va_up C36 (N + 8) (ra G 4 6 (va_up (va_up (va_up (va_up (va_up (va_up (fun _ => none) 0 (some (ad36 (N + 50)))) 1 (some (ad36 (N + 54)))) 2 (some (ad36 (N + 58)))) 3 (some (ad36 (N + 62)))) 4 (some (ad36 (N + 66)))) 5 (some (ad36 (N + 70)))))) (N + 7) (ra G 3 6 (fun k => some (ad36 (N + 20 + 5 * k))))) (N + 8) (ra G 4 6 (fun k => some (ad36 (N + 50 + 4 * k))))) (N + 50 + 4 * k) ((fun _ => 0, fun _ => 0, 0), 0, 0) := by
    intro k hk
    rcases (show k = 0 ∨ k = 1 ∨ k = 2 ∨ k = 3 ∨ k = 4 ∨ k = 5 by omega) with rfl | rfl | rfl | rfl | rfl | rfl
    · rw [show N + 50 + 4 * 0 = N + 50 from by omega]
      exact (isFi_up (isFi_up (isFi_up q36_fiN_50 (by omega)) (by omega)) (by omega))
    · rw [show N + 50 + 4 * 1 = N + 54 from by omega]
      exact (isFi_up (isFi_up (isFi_up q36_fiN_54 (by omega)) (by omega)) (by omega))
    · rw [show N + 50 + 4 * 2 = N + 58 from by omega]
      exact (isFi_up (isFi_up (isFi_up q36_fiN_58 (by omega)) (by omega)) (by omega))
    · rw [show N + 50 + 4 * 3 = N + 62 from by omega]
      exact (isFi_up (isFi_up (isFi_up q36_fiN_62 (by omega)) (by omega)) (by omega))
    · rw [show N + 50 + 4 * 4 = N + 66 from by omega]
      exact (isFi_up (isFi_up (isFi_up q36_fiN_66 (by omega)) (by omega)) (by omega))
    · rw [show N + 50 + 4 * 5 = N + 70 from by omega]
      exact (isFi_up (isFi_up (isFi_up q36_fiN_70 (by omega)) (by omega)) (by omega))
  refine W.widen (k := 73) (n := 1553) (Nat.le_of_ble_eq_true rfl) (Nat.le_of_ble_eq_true rfl) ?_
  exact W.vret hx hb hr (fun t ht hW => ⟨⟨(ad36, va_up (va_up (va_up C36 (N + 8) (ra G 4 6 (va_up (va_up (va_up (va_up (va_up (va_up (fun _ => none) 0 (some (ad36 (N + 50)))) 1 (some (ad36 (N + 54)))) 2 (some (ad36 (N + 58)))) 3 (some (ad36 (N + 62)))) 4 (some (ad36 (N + 66)))) 5 (some (ad36 (N + 70)))))) (N + 7) (ra G 3 6 (fun k => some (ad36 (N + 20 + 5 * k))))) (N + 8) (ra G 4 6 (fun k => some (ad36 (N + 50 + 4 * k))))), rfl, ⟨ea36, fun j h => (va_un _ _ (by omega)).trans ((va_un _ _ (by omega)).trans ((va_un _ _ (by omega)).trans (ca36 j h))), (by omega), okS0, (va_un _ _ (by omega)).trans ((va_un _ _ (by omega)).trans ((va_un _ _ (by omega)).trans (k36_N))), (isSc_up (isSc_up (isSc_up q36_scN_1 (by omega)) (by omega)) (by omega)), (isSe_up (isSe_up (isSe_up q36_seN_4 (by omega)) (by omega)) (by omega)), ⟨_, (va_un _ _ (by omega)).trans (va_us _ _ _), fun k _ => rfl⟩, ⟨_, va_us _ _ _, fun k _ => rfl⟩, ⟨_, (isFr_up (isFr_up (isFr_up q36_frN_9 (by omega)) (by omega)) (by omega))⟩, ⟨_, (isPi_up (isPi_up (isPi_up q36_piN_14 (by omega)) (by omega)) (by omega))⟩, ⟨_, (isPi_up (isPi_up (isPi_up q36_piN_17 (by omega)) (by omega)) (by omega))⟩, hfr9, hfi9⟩, ⟨by rw [ht]; exact hP, hD⟩⟩, hS.F ht⟩) hS.2.2 dX6_init_141
