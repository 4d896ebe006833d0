set_option maxRecDepth 20000 in
theorem ggX9_take_Jx4a65c_size_8abf5 : GoodIn wsX9_take wsJx4a65c_size_8abf5 := goodIn_r _ [15, 16, 123, 124, 125] (by decide +kernel) (by decide +kernel)
set_option maxRecDepth 20000 in
theorem gX9_take_Jx4a65c_size_8abf5_f41Jx4a65c : GoodIn wsX9_take (va_wsF RX9 41 RJx4a65c ⟨"java/util/List", "size", "()I"⟩ yJx4a65c_size_8abf5 wsJx4a65c_size_8abf5) := goodIn_app (goodIn_of _ (by decide +kernel)) ggX9_take_Jx4a65c_size_8abf5
set_option maxRecDepth 20000 in
theorem ggX9_take_X9_taken : GoodIn wsX9_take wsX9_taken := goodIn_r _ [20, 21, 22, 23, 24, 25, 26, 27, 28, 29, 30, 31, 32, 33, 34, 35, 36, 37, 38, 39, 5, 40, 41, 42, 43, 44, 45, 46, 47, 48, 14, 49, 50, 51, 52, 53, 54, 55, 56, 57, 58, 59, 60, 61, 62, 63, 64, 65, 66, 67, 115, 116, 117, 118, 119, 120, 121, 122, 126, 127, 128, 129, 130, 123, 124, 125] (by decide +kernel) (by decide +kernel)
set_option maxRecDepth 20000 in
theorem gX9_take_X9_taken : GoodIn wsX9_take (wsV RX9 85 RX9 yX9_taken wsX9_taken) := goodIn_app (goodIn_of _ (by decide +kernel)) ggX9_take_X9_taken
set_option maxRecDepth 20000 in
theorem ggX9_take_Jx4a65c_add_9ea2d : GoodIn wsX9_take wsJx4a65c_add_9ea2d := goodIn_r _ [71, 72, 73, 57, 16, 74, 75, 76, 14, 77, 78, 79, 80, 81, 82, 83, 84, 85, 56, 86, 33, 29, 34, 87, 88, 89, 90, 91, 92, 93, 94, 95, 96, 97, 98, 99, 100, 101, 102, 103, 104, 105, 106, 107, 108, 109, 110, 28, 30, 111, 112, 113, 114, 123, 124, 125] (by decide +kernel) (by decide +kernel)
set_option maxRecDepth 20000 in
theorem gX9_take_Jx4a65c_add_9ea2d_f89Jx4a65c : GoodIn wsX9_take (va_wsF RX9 89 RJx4a65c ⟨"java/util/List", "add", "(Ljava/lang/Object;)Z"⟩ yJx4a65c_add_9ea2d wsJx4a65c_add_9ea2d) := goodIn_app (goodIn_of _ (by decide +kernel)) ggX9_take_Jx4a65c_add_9ea2d
set_option maxRecDepth 20000 in
theorem ggX9_wouldClip_X9_taken : GoodIn wsX9_wouldClip wsX9_taken := goodIn_r _ [13, 14, 15, 16, 17, 18, 19, 20, 21, 22, 23, 24, 25, 26, 27, 28, 29, 30, 31, 32, 4, 33, 34, 35, 36, 37, 38, 39, 40, 41, 42, 43, 44, 45, 46, 47, 48, 49, 50, 51, 52, 53, 54, 55, 56, 57, 58, 59, 60, 61, 66, 67, 68, 69, 70, 71, 72, 73, 74, 75, 76, 77, 78, 79, 80, 81] (by decide +kernel) (by decide +kernel)
set_option maxRecDepth 20000 in
theorem gX9_wouldClip_X9_taken : GoodIn wsX9_wouldClip (wsV RX9 85 RX9 yX9_taken wsX9_taken) := goodIn_app (goodIn_of _ (by decide +kernel)) ggX9_wouldClip_X9_taken
set_option maxRecDepth 20000 in
theorem ggX9_wouldClip_X7_clipped : GoodIn wsX9_wouldClip wsX7_clipped := goodIn_r _ [65, 46, 74, 75, 76, 77, 78] (by decide +kernel) (by decide +kernel)
set_option maxRecDepth 20000 in
theorem gX9_wouldClip_X7_clipped : GoodIn wsX9_wouldClip (wsV RX9 172 RX7 yX7_clipped wsX7_clipped) := goodIn_app (goodIn_of _ (by decide +kernel)) ggX9_wouldClip_X7_clipped
set_option maxRecDepth 20000 in
theorem ggX9_ofPlace_X9_at : GoodIn wsX9_ofPlace wsX9_at := goodIn_r _ [19] (by decide +kernel) (by decide +kernel)
set_option maxRecDepth 20000 in
theorem gX9_ofPlace_X9_at : GoodIn wsX9_ofPlace (va_wsS RX9 56 yX9_at wsX9_at) := goodIn_app (goodIn_of _ (by decide +kernel)) ggX9_ofPlace_X9_at
set_option maxRecDepth 20000 in
theorem ggX9_ofPlace_X9_colour : GoodIn wsX9_ofPlace wsX9_colour := goodIn_r _ [22] (by decide +kernel) (by decide +kernel)
set_option maxRecDepth 20000 in
theorem gX9_ofPlace_X9_colour : GoodIn wsX9_ofPlace (va_wsS RX9 67 yX9_colour wsX9_colour) := goodIn_app (goodIn_of _ (by decide +kernel)) ggX9_ofPlace_X9_colour
set_option maxRecDepth 20000 in
theorem ggX9_manyNow_Jx4a65c_size_8abf5 : GoodIn wsX9_manyNow wsJx4a65c_size_8abf5 := goodIn_r _ [13, 14, 50, 51, 52] (by decide +kernel) (by decide +kernel)
set_option maxRecDepth 20000 in
theorem gX9_manyNow_Jx4a65c_size_8abf5_f41Jx4a65c : GoodIn wsX9_manyNow (va_wsF RX9 41 RJx4a65c ⟨"java/util/List", "size", "()I"⟩ yJx4a65c_size_8abf5 wsJx4a65c_size_8abf5) := goodIn_app (goodIn_of _ (by decide +kernel)) ggX9_manyNow_Jx4a65c_size_8abf5
set_option maxRecDepth 20000 in
theorem ggX9_manyNow_X9_mapped : GoodIn wsX9_manyNow wsX9_mapped := goodIn_r _ [36, 5, 37, 38, 39, 40, 41, 42, 43, 44] (by decide +kernel) (by decide +kernel)
set_option maxRecDepth 20000 in
theorem gX9_manyNow_X9_mapped : GoodIn wsX9_manyNow (wsV RX9 61 RX9 yX9_mapped wsX9_mapped) := goodIn_app (goodIn_of _ (by decide +kernel)) ggX9_manyNow_X9_mapped
set_option maxRecDepth 20000 in
theorem ggX9_many_X9_manyNow : GoodIn wsX9_many wsX9_manyNow := goodIn_r _ [13, 14, 15, 16, 17, 18, 19, 20, 21, 22, 23, 24, 25, 26, 27, 28, 29, 30, 31, 32, 33, 34, 35, 36, 37, 38, 39, 40, 41, 42, 43, 44, 45, 46, 47, 4, 48, 49, 50, 51, 52, 53, 54, 55, 56, 57, 58, 59, 60, 61, 62, 63, 64] (by decide +kernel) (by decide +kernel)
set_option maxRecDepth 20000 in
theorem gX9_many_X9_manyNow : GoodIn wsX9_many (wsV RX9 198 RX9 yX9_manyNow wsX9_manyNow) := goodIn_app (goodIn_of _ (by decide +kernel)) ggX9_many_X9_manyNow
abbrev rmX9_take_v : Room := { frames := 6, cells := 4, slots := 82, locals := 129 }
set_option maxRecDepth 20000 in
theorem il_X9_take_26 : (Cond.fieldLink RX9 26 "BayerGateModel" "frames" "Ljava/util/List;") ∈ wsX9_take := by decide +kernel
set_option maxHeartbeats 4000000 in
set_option maxRecDepth 100000 in
theorem kX9_take (l : Launch) (G : iG) (N : Nat) (ad : Nat → Nat) (C : Nat → va_E) (mo dz : Nat) (th : Int32) (hmod : Mod G N ad C mo dz th) (t1 g1 : Nat) (ht : 0 < t1 ∧ t1 < 65) (hg : 0 < g1 ∧ g1 < 9) (sz : Nat) : Met l yX9_take wsX9_take rmX9_take_v (iPreZ G (N) ad C dz sz [.ref (ad mo), .int (nI t1), .int (nI g1)]) (va_Qi (fun (r : Int32) (u : iU) => (r = nI 0) ∧ (∀ j, j < N → u.1 j = ad j) ∧ (∀ j, j < N → (j < mo ∨ mo + 7 ≤ j) → u.2 j = C j) ∧ Thr u.1 u.2 mo (nI 0)) (iB2 G (N + 4) (iA (N) ad sz)) (iA (N) ad sz)) 4 82 (iA (N) ad sz) := by
  refine Met.ofW (cc := cX9_take) (maxL := 3) (ret := (some .int)) (by decide) rfl ?_
  intro p e s m args below meth c s₁ B hml hv
  obtain ⟨rfl, ⟨⟨hsz, hP, hK, hD0⟩, hV⟩, hZ⟩ := hv
  have hx := B.exec
  have hb := B.bytes
  have hr := B.returns
  have hts := atoms_spec (ws := wsX9_take) B.pre
  have hown : s.vm.findClass RX9 = some m.cls := findClass_of_methodNamed B.named
  have hlocks := B.notSynchronized
  subst hsz
  have hD := wl_self hD0 s.heap.size
  have hA : ∀ q : Nat, s.heap.size ≤ q → iA (N) ad s.heap.size q := fun q h => Or.inr h
  have hS : va_S (iA (N) ad s.heap.size) s.heap s.heap [] := va_S.rf
  have hP : va_P G.1 vwB (wl (N) ad C) s.heap := hP
  have hl := lv_entry ([.ref (ad mo), .int (nI t1), .int (nI g1)]) (n := 3) (Nat.le_of_ble_eq_true rfl)
  rw [lg_entry_eq]
  generalize (lg_sl ([.ref (ad mo), .int (nI t1), .int (nI g1)]) ++ List.replicate (3 - (lg_sl ([.ref (ad mo), .int (nI t1), .int (nI g1)])).length) Slot.unset).toArray = ls at hl ⊢
  have hl : lv_has ls 3 [(0, .ref (ad mo)), (1, .int (nI t1)), (2, .int (nI g1))] := hl
  obtain ⟨hN, gm0, gm1, gm2, gm3, gm4, gm5, gm6⟩ := id hmod
  refine lv_aload_n hx hb dX9_take_0 rfl (lv_at hl 0 rfl) ?_
  refine lv_iconst (v := nI 0) hx hb dX9_take_1 (by decide) ?_
  refine iw_put (ty := .int) hx hb hts iu_X9_take_9 tyX9 tyX9_ok nmX9 hown hK hP hD hS (by omega) (gm0) rfl 0 (by decide) (hts _ il_X9_take_33) (fun _ h9 => h9) rfl (by decide +kernel) rfl rfl (Nat.le_of_ble_eq_true rfl) rfl dX9_take_2 (fun H locs hP hD hS => ?_)
  refine lv_iload_n hx hb dX9_take_5 rfl (lv_at hl 1 rfl) ?_
  refine lv_iconst (v := nI 1) hx hb dX9_take_6 (by decide) ?_
  refine lv_bipush (v := nI 64) hx hb dX9_take_7 (by decide) ?_
  refine iw_pi (va_runS (As := [.int (nI t1), .int (nI 1), .int (nI 64)]) (rest := []) ⟨hx, hb, hml, hown, hts⟩ (kX9_in l (nI t1) (nI 1) (nI 64)) (va_cwS 3 hts gX9_take_X9_in rfl rfl rfl (by decide +kernel) ⟨Nat.le_of_ble_eq_true rfl, Nat.le_of_ble_eq_true rfl⟩) ⟨fun a U g mk q => q, fun U hU hW => ⟨rfl, trivial⟩⟩ rfl rfl hl.1 rfl (lv_room (Nat.le_of_ble_eq_true rfl)) dX9_take_9 ⟨Nat.le_of_ble_eq_true rfl, Nat.le_of_ble_eq_true rfl⟩) hP hS (fun r8 u8 H locs hw8 hP hS => ?_)
  refine lv_asI hw8 ?_
  refine lv_asI (y := nI 1) (inB_in (nI_nlt (by omega) (by omega)) (nI_le (by omega) (by omega))) ?_
  refine lv_if_eq (tgt := 25) hx hb dX9_take_12 (by decide) (fun c9 => absurd c9 (by decide)) (fun _ => ?_)
  refine lv_iload_n hx hb dX9_take_15 rfl (lv_at hl 2 rfl) ?_
  refine lv_iconst (v := nI 1) hx hb dX9_take_16 (by decide) ?_
  refine lv_bipush (v := nI 8) hx hb dX9_take_17 (by decide) ?_
  refine iw_pi (va_runS (As := [.int (nI g1), .int (nI 1), .int (nI 8)]) (rest := []) ⟨hx, hb, hml, hown, hts⟩ (kX9_in l (nI g1) (nI 1) (nI 8)) (va_cwS 3 hts gX9_take_X9_in rfl rfl rfl (by decide +kernel) ⟨Nat.le_of_ble_eq_true rfl, Nat.le_of_ble_eq_true rfl⟩) ⟨fun a U g mk q => q, fun U hU hW => ⟨rfl, trivial⟩⟩ rfl rfl hl.1 rfl (lv_room (Nat.le_of_ble_eq_true rfl)) dX9_take_19 ⟨Nat.le_of_ble_eq_true rfl, Nat.le_of_ble_eq_true rfl⟩) hP hS (fun r8 u8 H locs hw8 hP hS => ?_)
  refine lv_asI hw8 ?_
  refine lv_asI (y := nI 1) (inB_in (nI_nlt (by omega) (by omega)) (nI_le (by omega) (by omega))) ?_
  refine lv_if_ne (tgt := 31) hx hb dX9_take_22 (by decide) (fun _ => ?_) (fun c9 => absurd c9 (by decide))
  refine lv_aload_n hx hb dX9_take_31 rfl (lv_at hl 0 rfl) ?_
  refine iw_get hx hb hts iu_X9_take_9 hown hK hP (by omega) (va_us _ _ _) rfl 6 (by decide) (hts _ il_X9_take_26) (fun _ h9 => h9) rfl dX9_take_32 ?_
  refine iw5_i (va_runF (hK.1.1 10 _ rfl).2 (As := []) (rest := []) ⟨hx, hb, hml, hown, hts⟩ (kJx4a65c_size_8abf5 l G _ ad _ (by omega) ((va_un _ _ (by omega)).trans (gm5)) _) (va_cwF 0 hts gX9_take_Jx4a65c_size_8abf5_f41Jx4a65c rfl rfl rfl (vx_fSize hV) (by decide +kernel) ⟨Nat.le_of_ble_eq_true rfl, Nat.le_of_ble_eq_true rfl⟩) (iPV hK hP hD (by omega) ((va_un _ _ (by omega)).trans (gm5)) rfl []) rfl rfl hl.1 rfl (lv_room (Nat.le_of_ble_eq_true rfl)) dX9_take_35 ⟨Nat.le_of_ble_eq_true rfl, Nat.le_of_ble_eq_true rfl⟩) hD hS hA (fun r8 u8 H locs hw8 hP hD hS => ?_)
  obtain ⟨hr8, hu8⟩ := hw8
  refine lv_asI hr8 ?_
  rw [hu8] at hP hD
  refine lv_bipush (v := nI 6) hx hb dX9_take_40 (by decide) ?_
  refine lv_icmp_ne (tgt := 51) hx hb dX9_take_42 (by decide) (fun _ => ?_) (fun c9 => absurd c9 (by decide))
  refine lv_aload_n hx hb dX9_take_51 rfl (lv_at hl 0 rfl) ?_
  refine iw_get hx hb hts iu_X9_take_9 hown hK hP (by omega) (va_us _ _ _) rfl 6 (by decide) (hts _ il_X9_take_26) (fun _ h9 => h9) rfl dX9_take_52 ?_
  refine lv_aload_n hx hb dX9_take_55 rfl (lv_at hl 0 rfl) ?_
  refine lv_iload_n hx hb dX9_take_56 rfl (lv_at hl 1 rfl) ?_
  refine lv_iload_n hx hb dX9_take_57 rfl (lv_at hl 2 rfl) ?_
  refine lv_iconst (v := nI 1) hx hb dX9_take_58 (by decide) ?_
  have hmq1 : Mod G (N) ad (va_up C mo (ob 9 [.int (nI 0), .ref (ad (mo + 1)), .ref (ad (mo + 2)), .ref (ad (mo + 3)), .ref (ad (mo + 4)), .int (nI 0), .ref (ad (mo + 5)), .ref (ad (mo + 6))])) mo dz (nI 0) := ⟨by omega, va_us _ _ _, (va_un _ _ (by omega)).trans (gm1), (va_un _ _ (by omega)).trans (gm2), (va_un _ _ (by omega)).trans (gm3), (va_un _ _ (by omega)).trans (gm4), (va_un _ _ (by omega)).trans (gm5), (va_un _ _ (by omega)).trans (gm6)⟩
  refine iwg_r (k := N + 1) (va_runV (As := [.int (nI t1), .int (nI g1), .int (nI 1)]) (rest := [.ref (ad (mo + 5))]) ⟨hx, hb, hml, hown, hts⟩ (kX9_taken_1 l G (N) ad _ mo dz (nI 0) hmq1 (t1) (g1) (by omega) (by omega) _) (cwV 3 hts gX9_take_X9_taken rfl rfl rfl (by decide +kernel) ⟨Nat.le_of_ble_eq_true rfl, Nat.le_of_ble_eq_true rfl⟩) (iPVZ hK hV hZ hS hA hP hD (by omega) (va_us _ _ _) rfl [.int (nI t1), .int (nI g1), .int (nI 1)]) rfl rfl hl.1 rfl (lv_room (Nat.le_of_ble_eq_true rfl)) dX9_take_59 ⟨Nat.le_of_ble_eq_true rfl, Nat.le_of_ble_eq_true rfl⟩) hD hS hA (fun ad1 C1 H locs hw8 hP hD hS => ?_)
  dsimp only at hw8
  obtain ⟨e1, c1, q1_m, q1_r, q1_f⟩ := hw8
  have k1_mo_1 : C1 (mo + 1) = ia G 192 (fun _ => nI 0) := (c1 _ (by omega) (by omega)).trans ((va_un _ _ (by omega)).trans (gm1))
  have k1_mo_2 : C1 (mo + 2) = ia G 3 (fun _ => nI 4) := (c1 _ (by omega) (by omega)).trans ((va_un _ _ (by omega)).trans (gm2))
  have k1_mo_3 : C1 (mo + 3) = ia G 64 (fun _ => nI 0) := (c1 _ (by omega) (by omega)).trans ((va_un _ _ (by omega)).trans (gm3))
  have k1_mo_4 : C1 (mo + 4) = za G 64 (fun _ => nI 0) := (c1 _ (by omega) (by omega)).trans ((va_un _ _ (by omega)).trans (gm4))
  have k1_mo_5 : C1 (mo + 5) = ob 10 [.int (nI 0), .ref dz, .int (nI 0)] := (c1 _ (by omega) (by omega)).trans ((va_un _ _ (by omega)).trans (gm5))
  have k1_mo_6 : C1 (mo + 6) = ob 10 [.int (nI 0), .ref dz, .int (nI 0)] := (c1 _ (by omega) (by omega)).trans ((va_un _ _ (by omega)).trans (gm6))
  have ea1 : ∀ j, j < N → ad1 j = ad j := fun j h => e1 j (by omega)
  have ca1 : ∀ j, j < N → (j < mo ∨ mo + 7 ≤ j) → C1 j = C j := fun j h hx9 => (c1 j (by omega) (by omega)).trans ((va_un _ _ (by omega)).trans (rfl))
  have hl : lv_has ls 3 [(0, .ref (ad1 mo)), (1, .int (nI t1)), (2, .int (nI g1))] := by rw [e1 mo (by omega)]; exact hl
  refine W.eq (g2 := F0 m 62 ls [.ref (ad1 (N + 1)), .ref (ad1 (mo + 5))]) (by first | (rw [e1 (mo + 5) (by omega)]; done) | (rw [e1 (mo + 5) (by omega)]; rfl)) ?_
  refine iwg5_i (va_runF (hK.1.1 10 _ rfl).2 (As := [.ref (ad1 (N + 1))]) (rest := []) ⟨hx, hb, hml, hown, hts⟩ (kJx4a65c_add_9ea2d l G (N + 3) ad1 _ (mo + 5) dz (by omega) (k1_mo_5) (N + 1) (by omega) (by omega) (q1_f) _) (va_cwF 1 hts gX9_take_Jx4a65c_add_9ea2d_f89Jx4a65c rfl rfl rfl (vx_fAdd hV) (by decide +kernel) ⟨Nat.le_of_ble_eq_true rfl, Nat.le_of_ble_eq_true rfl⟩) (iPVZ hK hV hZ hS hA hP hD (by omega) (k1_mo_5) rfl [.ref (ad1 (N + 1))]) rfl rfl hl.1 rfl (lv_room (Nat.le_of_ble_eq_true rfl)) dX9_take_62 ⟨Nat.le_of_ble_eq_true rfl, Nat.le_of_ble_eq_true rfl⟩) hD hS hA (fun r8 ad2 C2 H locs hw8 hP hD hS => ?_)
  dsimp only at hw8
  obtain ⟨hr8, e2, c2, q2_a⟩ := hw8
  refine lv_asI hr8 ?_
  have k2_mo_1 : C2 (mo + 1) = ia G 192 (fun _ => nI 0) := (c2 _ (by omega) (by omega)).trans (k1_mo_1)
  have k2_mo_2 : C2 (mo + 2) = ia G 3 (fun _ => nI 4) := (c2 _ (by omega) (by omega)).trans (k1_mo_2)
  have k2_mo_3 : C2 (mo + 3) = ia G 64 (fun _ => nI 0) := (c2 _ (by omega) (by omega)).trans (k1_mo_3)
  have k2_mo_4 : C2 (mo + 4) = za G 64 (fun _ => nI 0) := (c2 _ (by omega) (by omega)).trans (k1_mo_4)
  have k2_mo_6 : C2 (mo + 6) = ob 10 [.int (nI 0), .ref dz, .int (nI 0)] := (c2 _ (by omega) (by omega)).trans (k1_mo_6)
  have k2_mo : C2 mo = ob 9 [.int (nI 0), .ref (ad2 (mo + 1)), .ref (ad2 (mo + 2)), .ref (ad2 (mo + 3)), .ref (ad2 (mo + 4)), .int (nI (drN 0 64)), .ref (ad2 (mo + 5)), .ref (ad2 (mo + 6))] := (c2 _ (by omega) (by omega)).trans ((q1_m).trans (by first | (rw [e2 (mo + 1) (by omega), e2 (mo + 2) (by omega), e2 (mo + 3) (by omega), e2 (mo + 4) (by omega), e2 (mo + 5) (by omega), e2 (mo + 6) (by omega)]; done) | (rw [e2 (mo + 1) (by omega), e2 (mo + 2) (by omega), e2 (mo + 3) (by omega), e2 (mo + 4) (by omega), e2 (mo + 5) (by omega), e2 (mo + 6) (by omega)]; rfl)))
  have k2_N : C2 N = ia G 64 (fun i => nI (R0 i)) := (c2 _ (by omega) (by omega)).trans (q1_r)
  have k2_N_1 : C2 (N + 1) = ob 7 [.int (nI t1), .int (nI g1), .ref (ad2 N), .int (nI 0), .ref (ad2 (N + 2))] := (c2 _ (by omega) (by omega)).trans ((q1_f).trans (by first | (rw [e2 N (by omega), e2 (N + 2) (by omega)]; done) | (rw [e2 N (by omega), e2 (N + 2) (by omega)]; rfl)))
  have ea2 : ∀ j, j < N → ad2 j = ad j := fun j h => (e2 j (by omega)).trans (ea1 j h)
  have ca2 : ∀ j, j < N → (j < mo ∨ mo + 7 ≤ j) → C2 j = C j := fun j h hx9 => (c2 j (by omega) (by omega)).trans (ca1 j h hx9)
  have hl : lv_has ls 3 [(0, .ref (ad2 mo)), (1, .int (nI t1)), (2, .int (nI g1))] := by rw [e2 mo (by omega)]; exact hl
  refine lv_pop hx hb dX9_take_67 rfl ?_
  refine lv_aload_n hx hb dX9_take_68 rfl (lv_at hl 0 rfl) ?_
  refine iw_get hx hb hts iu_X9_take_9 hown hK hP (by omega) (k2_mo) rfl 6 (by decide) (hts _ il_X9_take_26) (fun _ h9 => h9) rfl dX9_take_69 ?_
  refine iw5_i (va_runF (hK.1.1 10 _ rfl).2 (As := []) (rest := []) ⟨hx, hb, hml, hown, hts⟩ (kJx4a65c_size_8abf5 l G _ ad2 _ (by omega) (q2_a) _) (va_cwF 0 hts gX9_take_Jx4a65c_size_8abf5_f41Jx4a65c rfl rfl rfl (vx_fSize hV) (by decide +kernel) ⟨Nat.le_of_ble_eq_true rfl, Nat.le_of_ble_eq_true rfl⟩) (iPV hK hP hD (by omega) (q2_a) rfl []) rfl rfl hl.1 rfl (lv_room (Nat.le_of_ble_eq_true rfl)) dX9_take_72 ⟨Nat.le_of_ble_eq_true rfl, Nat.le_of_ble_eq_true rfl⟩) hD hS hA (fun r8 u8 H locs hw8 hP hD hS => ?_)
  obtain ⟨hr8, hu8⟩ := hw8
  refine lv_asI hr8 ?_
  rw [hu8] at hP hD
  refine lv_iconst (v := nI 1) hx hb dX9_take_77 (by decide) ?_
  refine lv_isub hx hb dX9_take_78 ?_
  refine W.widen (k := 4) (n := 82) (Nat.le_of_ble_eq_true rfl) (Nat.le_of_ble_eq_true rfl) ?_
  exact W.iret (v := ((nI 1) - (nI 1))) hx hb hr (fun t ht hW => ⟨⟨_, (ad2, C2), rfl, ⟨m10b, ⟨ea2, fun j h hx9 => ca2 j h hx9, ⟨_, k2_mo⟩⟩⟩, ⟨by rw [ht]; exact hP, hD⟩⟩, hS.F ht⟩) hS.2.2 dX9_take_79
abbrev rmX9_wouldClip_v : Room := { frames := 6, cells := 3, slots := 72, locals := 129 }
set_option maxHeartbeats 4000000 in
set_option maxRecDepth 100000 in
theorem kX9_wouldClip (l : Launch) (G : iG) (N : Nat) (ad : Nat → Nat) (C : Nat → va_E) (mo dz : Nat) (th : Int32) (hmod : Mod G N ad C mo dz th) (t1 g1 : Nat) (ht : 0 < t1 ∧ t1 < 65) (hg : 0 < g1 ∧ g1 < 9) (sz : Nat) : Met l yX9_wouldClip wsX9_wouldClip rmX9_wouldClip_v (iPreZ G (N) ad C dz sz [.ref (ad mo), .int (nI t1), .int (nI g1)]) (va_Qi (fun (r : Int32) (u : iU) => (r = nI 0) ∧ (∀ j, j < N → u.1 j = ad j) ∧ (∀ j, j < N → (j < mo ∨ mo + 7 ≤ j) → u.2 j = C j) ∧ Thr u.1 u.2 mo (nI 0)) (iB2 G (N + 3) (iA (N) ad sz)) (iA (N) ad sz)) 3 72 (iA (N) ad sz) := by
  refine Met.ofW (cc := cX9_wouldClip) (maxL := 3) (ret := (some .int)) (by decide) rfl ?_
  intro p e s m args below meth c s₁ B hml hv
  obtain ⟨rfl, ⟨⟨hsz, hP, hK, hD0⟩, hV⟩, hZ⟩ := hv
  have hx := B.exec
  have hb := B.bytes
  have hr := B.returns
  have hts := atoms_spec (ws := wsX9_wouldClip) B.pre
  have hown : s.vm.findClass RX9 = some m.cls := findClass_of_methodNamed B.named
  have hlocks := B.notSynchronized
  subst hsz
  have hD := wl_self hD0 s.heap.size
  have hA : ∀ q : Nat, s.heap.size ≤ q → iA (N) ad s.heap.size q := fun q h => Or.inr h
  have hS : va_S (iA (N) ad s.heap.size) s.heap s.heap [] := va_S.rf
  have hP : va_P G.1 vwB (wl (N) ad C) s.heap := hP
  have hl := lv_entry ([.ref (ad mo), .int (nI t1), .int (nI g1)]) (n := 3) (Nat.le_of_ble_eq_true rfl)
  rw [lg_entry_eq]
  generalize (lg_sl ([.ref (ad mo), .int (nI t1), .int (nI g1)]) ++ List.replicate (3 - (lg_sl ([.ref (ad mo), .int (nI t1), .int (nI g1)])).length) Slot.unset).toArray = ls at hl ⊢
  have hl : lv_has ls 3 [(0, .ref (ad mo)), (1, .int (nI t1)), (2, .int (nI g1))] := hl
  obtain ⟨hN, gm0, gm1, gm2, gm3, gm4, gm5, gm6⟩ := id hmod
  refine lv_aload_n hx hb dX9_wouldClip_0 rfl (lv_at hl 0 rfl) ?_
  refine lv_iconst (v := nI 0) hx hb dX9_wouldClip_1 (by decide) ?_
  refine iw_put (ty := .int) hx hb hts iu_X9_wouldClip_9 tyX9 tyX9_ok nmX9 hown hK hP hD hS (by omega) (gm0) rfl 0 (by decide) (hts _ il_X9_wouldClip_33) (fun _ h9 => h9) rfl (by decide +kernel) rfl rfl (Nat.le_of_ble_eq_true rfl) rfl dX9_wouldClip_2 (fun H locs hP hD hS => ?_)
  refine lv_iload_n hx hb dX9_wouldClip_5 rfl (lv_at hl 1 rfl) ?_
  refine lv_iconst (v := nI 1) hx hb dX9_wouldClip_6 (by decide) ?_
  refine lv_bipush (v := nI 64) hx hb dX9_wouldClip_7 (by decide) ?_
  refine iw_pi (va_runS (As := [.int (nI t1), .int (nI 1), .int (nI 64)]) (rest := []) ⟨hx, hb, hml, hown, hts⟩ (kX9_in l (nI t1) (nI 1) (nI 64)) (va_cwS 3 hts gX9_wouldClip_X9_in rfl rfl rfl (by decide +kernel) ⟨Nat.le_of_ble_eq_true rfl, Nat.le_of_ble_eq_true rfl⟩) ⟨fun a U g mk q => q, fun U hU hW => ⟨rfl, trivial⟩⟩ rfl rfl hl.1 rfl (lv_room (Nat.le_of_ble_eq_true rfl)) dX9_wouldClip_9 ⟨Nat.le_of_ble_eq_true rfl, Nat.le_of_ble_eq_true rfl⟩) hP hS (fun r8 u8 H locs hw8 hP hS => ?_)
  refine lv_asI hw8 ?_
  refine lv_asI (y := nI 1) (inB_in (nI_nlt (by omega) (by omega)) (nI_le (by omega) (by omega))) ?_
  refine lv_if_eq (tgt := 25) hx hb dX9_wouldClip_12 (by decide) (fun c9 => absurd c9 (by decide)) (fun _ => ?_)
  refine lv_iload_n hx hb dX9_wouldClip_15 rfl (lv_at hl 2 rfl) ?_
  refine lv_iconst (v := nI 1) hx hb dX9_wouldClip_16 (by decide) ?_
  refine lv_bipush (v := nI 8) hx hb dX9_wouldClip_17 (by decide) ?_
  refine iw_pi (va_runS (As := [.int (nI g1), .int (nI 1), .int (nI 8)]) (rest := []) ⟨hx, hb, hml, hown, hts⟩ (kX9_in l (nI g1) (nI 1) (nI 8)) (va_cwS 3 hts gX9_wouldClip_X9_in rfl rfl rfl (by decide +kernel) ⟨Nat.le_of_ble_eq_true rfl, Nat.le_of_ble_eq_true rfl⟩) ⟨fun a U g mk q => q, fun U hU hW => ⟨rfl, trivial⟩⟩ rfl rfl hl.1 rfl (lv_room (Nat.le_of_ble_eq_true rfl)) dX9_wouldClip_19 ⟨Nat.le_of_ble_eq_true rfl, Nat.le_of_ble_eq_true rfl⟩) hP hS (fun r8 u8 H locs hw8 hP hS => ?_)
  refine lv_asI hw8 ?_
  refine lv_asI (y := nI 1) (inB_in (nI_nlt (by omega) (by omega)) (nI_le (by omega) (by omega))) ?_
  refine lv_if_ne (tgt := 31) hx hb dX9_wouldClip_22 (by decide) (fun _ => ?_) (fun c9 => absurd c9 (by decide))
  refine lv_aload_n hx hb dX9_wouldClip_31 rfl (lv_at hl 0 rfl) ?_
  refine lv_iload_n hx hb dX9_wouldClip_32 rfl (lv_at hl 1 rfl) ?_
  refine lv_iload_n hx hb dX9_wouldClip_33 rfl (lv_at hl 2 rfl) ?_
  refine lv_iconst (v := nI 0) hx hb dX9_wouldClip_34 (by decide) ?_
  have hmq1 : Mod G (N) ad (va_up C mo (ob 9 [.int (nI 0), .ref (ad (mo + 1)), .ref (ad (mo + 2)), .ref (ad (mo + 3)), .ref (ad (mo + 4)), .int (nI 0), .ref (ad (mo + 5)), .ref (ad (mo + 6))])) mo dz (nI 0) := ⟨by omega, va_us _ _ _, (va_un _ _ (by omega)).trans (gm1), (va_un _ _ (by omega)).trans (gm2), (va_un _ _ (by omega)).trans (gm3), (va_un _ _ (by omega)).trans (gm4), (va_un _ _ (by omega)).trans (gm5), (va_un _ _ (by omega)).trans (gm6)⟩
  refine iwg_r (k := N + 1) (va_runV (As := [.int (nI t1), .int (nI g1), .int (nI 0)]) (rest := []) ⟨hx, hb, hml, hown, hts⟩ (kX9_taken_0 l G (N) ad _ mo dz (nI 0) hmq1 (t1) (g1) (by omega) (by omega) _) (cwV 3 hts gX9_wouldClip_X9_taken rfl rfl rfl (by decide +kernel) ⟨Nat.le_of_ble_eq_true rfl, Nat.le_of_ble_eq_true rfl⟩) (iPVZ hK hV hZ hS hA hP hD (by omega) (va_us _ _ _) rfl [.int (nI t1), .int (nI g1), .int (nI 0)]) rfl rfl hl.1 rfl (lv_room (Nat.le_of_ble_eq_true rfl)) dX9_wouldClip_35 ⟨Nat.le_of_ble_eq_true rfl, Nat.le_of_ble_eq_true rfl⟩) hD hS hA (fun ad1 C1 H locs hw8 hP hD hS => ?_)
  dsimp only at hw8
  obtain ⟨e1, c1, q1_m, q1_r, q1_f⟩ := hw8
  have k1_mo_1 : C1 (mo + 1) = ia G 192 (fun _ => nI 0) := (c1 _ (by omega)).trans ((va_un _ _ (by omega)).trans (gm1))
  have k1_mo_2 : C1 (mo + 2) = ia G 3 (fun _ => nI 4) := (c1 _ (by omega)).trans ((va_un _ _ (by omega)).trans (gm2))
  have k1_mo_3 : C1 (mo + 3) = ia G 64 (fun _ => nI 0) := (c1 _ (by omega)).trans ((va_un _ _ (by omega)).trans (gm3))
  have k1_mo_4 : C1 (mo + 4) = za G 64 (fun _ => nI 0) := (c1 _ (by omega)).trans ((va_un _ _ (by omega)).trans (gm4))
  have k1_mo_5 : C1 (mo + 5) = ob 10 [.int (nI 0), .ref dz, .int (nI 0)] := (c1 _ (by omega)).trans ((va_un _ _ (by omega)).trans (gm5))
  have k1_mo_6 : C1 (mo + 6) = ob 10 [.int (nI 0), .ref dz, .int (nI 0)] := (c1 _ (by omega)).trans ((va_un _ _ (by omega)).trans (gm6))
  have ea1 : ∀ j, j < N → ad1 j = ad j := fun j h => e1 j (by omega)
  have ca1 : ∀ j, j < N → (j < mo ∨ mo + 7 ≤ j) → C1 j = C j := fun j h hx9 => (c1 j (by omega)).trans ((va_un _ _ (by omega)).trans (rfl))
  have hl : lv_has ls 3 [(0, .ref (ad1 mo)), (1, .int (nI t1)), (2, .int (nI g1))] := by rw [e1 mo (by omega)]; exact hl
  refine iw_i (va_runV (As := []) (rest := []) ⟨hx, hb, hml, hown, hts⟩ (kX7_clipped l G _ ad1 _ (N + 1) (N) R0 _ _ _ _ (by omega) (by omega) (q1_f) (q1_r) R0_le _) (cwV 0 hts gX9_wouldClip_X7_clipped rfl rfl rfl (by decide +kernel) ⟨Nat.le_of_ble_eq_true rfl, Nat.le_of_ble_eq_true rfl⟩) (iPV hK hP hD (by omega) (q1_f) rfl []) rfl rfl hl.1 rfl (lv_room (Nat.le_of_ble_eq_true rfl)) dX9_wouldClip_38 ⟨Nat.le_of_ble_eq_true rfl, Nat.le_of_ble_eq_true rfl⟩) hD hS hA (fun r8 u8 H locs hw8 hP hD hS => ?_)
  obtain ⟨hr8, hu8⟩ := hw8
  refine lv_asI hr8 ?_
  rw [hu8] at hP hD
  refine lv_asI (y := nI 0) (congrArg nI cl0) ?_
  refine W.widen (k := 3) (n := 72) (Nat.le_of_ble_eq_true rfl) (Nat.le_of_ble_eq_true rfl) ?_
  exact W.iret (v := (nI 0)) hx hb hr (fun t ht hW => ⟨⟨_, (ad1, C1), rfl, ⟨rfl, ⟨ea1, fun j h hx9 => ca1 j h hx9, ⟨_, q1_m⟩⟩⟩, ⟨by rw [ht]; exact hP, hD⟩⟩, hS.F ht⟩) hS.2.2 dX9_wouldClip_41
abbrev rmX9_ofPlace_v : Room := { frames := 2, cells := 1, slots := 6, locals := 43 }
set_option maxRecDepth 20000 in
theorem il_X9_ofPlace_arrint : (Cond.arrayClass .int) ∈ wsX9_ofPlace := by decide +kernel
set_option maxRecDepth 20000 in
theorem il_X9_ofPlace_9 : (Cond.fieldLink RX9 9 "BayerGateModel" "scene" "[I") ∈ wsX9_ofPlace := by decide +kernel
set_option maxRecDepth 20000 in
theorem il_X9_ofPlace_16 : (Cond.fieldLink RX9 16 "BayerGateModel" "how" "[I") ∈ wsX9_ofPlace := by decide +kernel
set_option maxRecDepth 20000 in
theorem il_X9_ofPlace_19 : (Cond.fieldLink RX9 19 "BayerGateModel" "isMapped" "[Z") ∈ wsX9_ofPlace := by decide +kernel
set_option maxHeartbeats 4000000 in
set_option maxRecDepth 100000 in
theorem kX9_ofPlace (l : Launch) (G : iG) (N : Nat) (ad : Nat → Nat) (C : Nat → va_E) (mo dz : Nat) (th : Int32) (hmod : Mod G N ad C mo dz th) (x y : Nat) (hx8 : x < 8) (hy8 : y < 8) (w : Nat) (hw6 : w < 6) (sz : Nat) : Met l yX9_ofPlace wsX9_ofPlace rmX9_ofPlace_v (iPreZ G (N) ad C dz sz [.ref (ad mo), .int (nI x), .int (nI y), .int (nI w)]) (va_Qi (fun (r : Int32) (u : iU) => (r = ofP S0 x y w) ∧ (∀ j, j < N → u.1 j = ad j) ∧ (∀ j, j < N → (j < mo ∨ mo + 7 ≤ j) → u.2 j = C j) ∧ Thr u.1 u.2 mo (nI 0)) (iB2 G (N + 1) (iA (N) ad sz)) (iA (N) ad sz)) 1 6 (iA (N) ad sz) := by
  refine Met.ofW (cc := cX9_ofPlace) (maxL := 6) (ret := (some .int)) (by decide) rfl ?_
  intro p e s m args below meth c s₁ B hml hv
  obtain ⟨rfl, ⟨⟨hsz, hP, hK, hD0⟩, hV⟩, hZ⟩ := hv
  have hx := B.exec
  have hb := B.bytes
  have hr := B.returns
  have hts := atoms_spec (ws := wsX9_ofPlace) B.pre
  have hown : s.vm.findClass RX9 = some m.cls := findClass_of_methodNamed B.named
  have hlocks := B.notSynchronized
  subst hsz
  have hD := wl_self hD0 s.heap.size
  have hA : ∀ q : Nat, s.heap.size ≤ q → iA (N) ad s.heap.size q := fun q h => Or.inr h
  have hS : va_S (iA (N) ad s.heap.size) s.heap s.heap [] := va_S.rf
  have hP : va_P G.1 vwB (wl (N) ad C) s.heap := hP
  have hl := lv_entry ([.ref (ad mo), .int (nI x), .int (nI y), .int (nI w)]) (n := 6) (Nat.le_of_ble_eq_true rfl)
  rw [lg_entry_eq]
  generalize (lg_sl ([.ref (ad mo), .int (nI x), .int (nI y), .int (nI w)]) ++ List.replicate (6 - (lg_sl ([.ref (ad mo), .int (nI x), .int (nI y), .int (nI w)])).length) Slot.unset).toArray = ls at hl ⊢
  have hl : lv_has ls 6 [(0, .ref (ad mo)), (1, .int (nI x)), (2, .int (nI y)), (3, .int (nI w))] := hl
  obtain ⟨hN, gm0, gm1, gm2, gm3, gm4, gm5, gm6⟩ := id hmod
  refine lv_aload_n hx hb dX9_ofPlace_0 rfl (lv_at hl 0 rfl) ?_
  refine lv_iconst (v := nI 0) hx hb dX9_ofPlace_1 (by decide) ?_
  refine iw_put (ty := .int) hx hb hts iu_X9_ofPlace_9 tyX9 tyX9_ok nmX9 hown hK hP hD hS (by omega) (gm0) rfl 0 (by decide) (hts _ il_X9_ofPlace_33) (fun _ h9 => h9) rfl (by decide +kernel) rfl rfl (Nat.le_of_ble_eq_true rfl) rfl dX9_ofPlace_2 (fun H locs hP hD hS => ?_)
  refine lv_iload_n hx hb dX9_ofPlace_5 rfl (lv_at hl 1 rfl) ?_
  refine lv_iload_n hx hb dX9_ofPlace_6 rfl (lv_at hl 2 rfl) ?_
  refine iw_pi (va_runS (As := [.int (nI x), .int (nI y)]) (rest := []) ⟨hx, hb, hml, hown, hts⟩ (kX9_isPlace l (nI x) (nI y)) (va_cwS 2 hts gX9_ofPlace_X9_isPlace rfl rfl rfl (by decide +kernel) ⟨Nat.le_of_ble_eq_true rfl, Nat.le_of_ble_eq_true rfl⟩) ⟨fun a U g mk q => q, fun U hU hW => ⟨rfl, trivial⟩⟩ rfl rfl hl.1 rfl (lv_room (Nat.le_of_ble_eq_true rfl)) dX9_ofPlace_7 ⟨Nat.le_of_ble_eq_true rfl, Nat.le_of_ble_eq_true rfl⟩) hP hS (fun r8 u8 H locs hw8 hP hS => ?_)
  refine lv_asI hw8 ?_
  refine lv_asI (y := nI 1) (by rw [isPl_ok (by omega) (by omega)]; rfl) ?_
  refine lv_if_ne (tgt := 19) hx hb dX9_ofPlace_10 (by decide) (fun _ => ?_) (fun c9 => absurd c9 (by decide))
  refine lv_iload_n hx hb dX9_ofPlace_19 rfl (lv_at hl 3 rfl) ?_
  refine lv_iconst (v := nI 0) hx hb dX9_ofPlace_20 (by decide) ?_
  refine lv_iconst (v := nI 5) hx hb dX9_ofPlace_21 (by decide) ?_
  refine iw_pi (va_runS (As := [.int (nI w), .int (nI 0), .int (nI 5)]) (rest := []) ⟨hx, hb, hml, hown, hts⟩ (kX9_in l (nI w) (nI 0) (nI 5)) (va_cwS 3 hts gX9_ofPlace_X9_in rfl rfl rfl (by decide +kernel) ⟨Nat.le_of_ble_eq_true rfl, Nat.le_of_ble_eq_true rfl⟩) ⟨fun a U g mk q => q, fun U hU hW => ⟨rfl, trivial⟩⟩ rfl rfl hl.1 rfl (lv_room (Nat.le_of_ble_eq_true rfl)) dX9_ofPlace_22 ⟨Nat.le_of_ble_eq_true rfl, Nat.le_of_ble_eq_true rfl⟩) hP hS (fun r8 u8 H locs hw8 hP hS => ?_)
  refine lv_asI hw8 ?_
  refine lv_asI (y := nI 1) (inB_in (nI_nlt (by omega) (by omega)) (nI_le (by omega) (by omega))) ?_
  refine lv_if_ne (tgt := 34) hx hb dX9_ofPlace_25 (by decide) (fun _ => ?_) (fun c9 => absurd c9 (by decide))
  refine lv_iload_n hx hb dX9_ofPlace_34 rfl (lv_at hl 1 rfl) ?_
  refine lv_iload_n hx hb dX9_ofPlace_35 rfl (lv_at hl 2 rfl) ?_
  refine iw_pi (va_runS (As := [.int (nI x), .int (nI y)]) (rest := []) ⟨hx, hb, hml, hown, hts⟩ (kX9_at l (x) (y)) (va_cwS 2 hts gX9_ofPlace_X9_at rfl rfl rfl (by decide +kernel) ⟨Nat.le_of_ble_eq_true rfl, Nat.le_of_ble_eq_true rfl⟩) ⟨fun a U g mk q => q, fun U hU hW => ⟨rfl, trivial⟩⟩ rfl rfl hl.1 rfl (lv_room (Nat.le_of_ble_eq_true rfl)) dX9_ofPlace_36 ⟨Nat.le_of_ble_eq_true rfl, Nat.le_of_ble_eq_true rfl⟩) hP hS (fun r8 u8 H locs hw8 hP hS => ?_)
  refine lv_asI hw8 ?_
  refine lv_istore (lv' := [(4, .int (nI (8 * y + x))), (0, .ref (ad mo)), (1, .int (nI x)), (2, .int (nI y)), (3, .int (nI w))]) hx hb dX9_ofPlace_39 hl (by decide) rfl (fun ls hl => ?_)
  refine lv_bipush (v := nI 6) hx hb dX9_ofPlace_41 (by decide) ?_
  refine iw_newI (N' := 6) hx hb (hts _ il_X9_ofPlace_arrint) hK hP hD hS hA (by decide) (by decide) (Nat.le_of_ble_eq_true rfl) (Nat.le_of_ble_eq_true rfl) (Nat.le_of_ble_eq_true rfl) dX9_ofPlace_43 (fun ad1 C1 H e1 c1 n1 hP hD hS => ?_)
  have k1_mo : C1 mo = ob 9 [.int (nI 0), .ref (ad1 (mo + 1)), .ref (ad1 (mo + 2)), .ref (ad1 (mo + 3)), .ref (ad1 (mo + 4)), .int (nI 0), .ref (ad1 (mo + 5)), .ref (ad1 (mo + 6))] := (c1 _ (by omega)).trans ((va_us _ _ _).trans (by first | (rw [e1 (mo + 1) (by omega), e1 (mo + 2) (by omega), e1 (mo + 3) (by omega), e1 (mo + 4) (by omega), e1 (mo + 5) (by omega), e1 (mo + 6) (by omega)]; done) | (rw [e1 (mo + 1) (by omega), e1 (mo + 2) (by omega), e1 (mo + 3) (by omega), e1 (mo + 4) (by omega), e1 (mo + 5) (by omega), e1 (mo + 6) (by omega)]; rfl)))
  have k1_mo_1 : C1 (mo + 1) = ia G 192 (fun _ => nI 0) := (c1 _ (by omega)).trans ((va_un _ _ (by omega)).trans (gm1))
  have k1_mo_2 : C1 (mo + 2) = ia G 3 (fun _ => nI 4) := (c1 _ (by omega)).trans ((va_un _ _ (by omega)).trans (gm2))
  have k1_mo_3 : C1 (mo + 3) = ia G 64 (fun _ => nI 0) := (c1 _ (by omega)).trans ((va_un _ _ (by omega)).trans (gm3))
  have k1_mo_4 : C1 (mo + 4) = za G 64 (fun _ => nI 0) := (c1 _ (by omega)).trans ((va_un _ _ (by omega)).trans (gm4))
  have k1_mo_5 : C1 (mo + 5) = ob 10 [.int (nI 0), .ref dz, .int (nI 0)] := (c1 _ (by omega)).trans ((va_un _ _ (by omega)).trans (gm5))
  have k1_mo_6 : C1 (mo + 6) = ob 10 [.int (nI 0), .ref dz, .int (nI 0)] := (c1 _ (by omega)).trans ((va_un _ _ (by omega)).trans (gm6))
  have ea1 : ∀ j, j < N → ad1 j = ad j := fun j h => e1 j (by omega)
  have ca1 : ∀ j, j < N → (j < mo ∨ mo + 7 ≤ j) → C1 j = C j := fun j h hx9 => (c1 j (by omega)).trans ((va_un _ _ (by omega)).trans (rfl))
  have hl : lv_has ls 6 [(4, .int (nI (8 * y + x))), (0, .ref (ad1 mo)), (1, .int (nI x)), (2, .int (nI y)), (3, .int (nI w))] := by rw [e1 mo (by omega)]; exact hl
  refine lv_dup hx hb dX9_ofPlace_45 rfl ?_
  refine lv_iconst (v := nI 0) hx hb dX9_ofPlace_46 (by decide) ?_
  refine lv_aload_n hx hb dX9_ofPlace_47 rfl (lv_at hl 1 rfl) ?_
  refine iw_get hx hb hts iu_X9_ofPlace_9 hown hK hP (by omega) (k1_mo) rfl 1 (by decide) (hts _ il_X9_ofPlace_9) (fun _ h9 => h9) rfl dX9_ofPlace_48 ?_
  refine lv_iconst (v := nI 3) hx hb dX9_ofPlace_51 (by decide) ?_
  refine lv_iload hx hb dX9_ofPlace_52 (lv_at hl 0 rfl) ?_
  refine lv_imul hx hb dX9_ofPlace_54 ?_
  refine lv_asI (y := nI (3 * (8 * y + x))) (pk_mul _ _) ?_
  refine iw_iald (v := nI 0) hx hb hK hP (by omega) (k1_mo_1) (vp_in_nI (show 3 * (8 * y + x) < 192 by omega) (by omega)) (rfl) dX9_ofPlace_55 ?_
  refine iw_iast hx hb hK hP hD hS (by omega) (n1) (vp_in_nI (show 0 < 6 by omega) (by omega)) (nI_clamp (by omega)) dX9_ofPlace_56 (fun H locs hP hD hS => ?_)
  refine lv_dup hx hb dX9_ofPlace_57 rfl ?_
  refine lv_iconst (v := nI 1) hx hb dX9_ofPlace_58 (by decide) ?_
  refine lv_aload_n hx hb dX9_ofPlace_59 rfl (lv_at hl 1 rfl) ?_
  refine iw_get hx hb hts iu_X9_ofPlace_9 hown hK hP (by omega) ((va_un _ _ (by omega)).trans (k1_mo)) rfl 1 (by decide) (hts _ il_X9_ofPlace_9) (fun _ h9 => h9) rfl dX9_ofPlace_60 ?_
  refine lv_iconst (v := nI 3) hx hb dX9_ofPlace_63 (by decide) ?_
  refine lv_iload hx hb dX9_ofPlace_64 (lv_at hl 0 rfl) ?_
  refine lv_imul hx hb dX9_ofPlace_66 ?_
  refine lv_asI (y := nI (3 * (8 * y + x))) (pk_mul _ _) ?_
  refine lv_iconst (v := nI 1) hx hb dX9_ofPlace_67 (by decide) ?_
  refine lv_iadd hx hb dX9_ofPlace_68 ?_
  refine lv_asI (y := nI ((3 * (8 * y + x)) + 1)) (nI_add _ _) ?_
  refine iw_iald (v := nI 0) hx hb hK hP (by omega) ((va_un _ _ (by omega)).trans (k1_mo_1)) (vp_in_nI (show (3 * (8 * y + x)) + 1 < 192 by omega) (by omega)) (rfl) dX9_ofPlace_69 ?_
  refine iw_iast hx hb hK hP hD hS (by omega) (va_us _ _ _) (vp_in_nI (show 1 < 6 by omega) (by omega)) (nI_clamp (by omega)) dX9_ofPlace_70 (fun H locs hP hD hS => ?_)
  rw [va_uu _ _ _ _] at hP hD
  refine lv_dup hx hb dX9_ofPlace_71 rfl ?_
  refine lv_iconst (v := nI 2) hx hb dX9_ofPlace_72 (by decide) ?_
  refine lv_aload_n hx hb dX9_ofPlace_73 rfl (lv_at hl 1 rfl) ?_
  refine iw_get hx hb hts iu_X9_ofPlace_9 hown hK hP (by omega) ((va_un _ _ (by omega)).trans (k1_mo)) rfl 1 (by decide) (hts _ il_X9_ofPlace_9) (fun _ h9 => h9) rfl dX9_ofPlace_74 ?_
  refine lv_iconst (v := nI 3) hx hb dX9_ofPlace_77 (by decide) ?_
  refine lv_iload hx hb dX9_ofPlace_78 (lv_at hl 0 rfl) ?_
  refine lv_imul hx hb dX9_ofPlace_80 ?_
  refine lv_asI (y := nI (3 * (8 * y + x))) (pk_mul _ _) ?_
  refine lv_iconst (v := nI 2) hx hb dX9_ofPlace_81 (by decide) ?_
  refine lv_iadd hx hb dX9_ofPlace_82 ?_
  refine lv_asI (y := nI ((3 * (8 * y + x)) + 2)) (nI_add _ _) ?_
  refine iw_iald (v := nI 0) hx hb hK hP (by omega) ((va_un _ _ (by omega)).trans (k1_mo_1)) (vp_in_nI (show (3 * (8 * y + x)) + 2 < 192 by omega) (by omega)) (rfl) dX9_ofPlace_83 ?_
  refine iw_iast hx hb hK hP hD hS (by omega) (va_us _ _ _) (vp_in_nI (show 2 < 6 by omega) (by omega)) (nI_clamp (by omega)) dX9_ofPlace_84 (fun H locs hP hD hS => ?_)
  rw [va_uu _ _ _ _] at hP hD
  refine lv_dup hx hb dX9_ofPlace_85 rfl ?_
  refine lv_iconst (v := nI 3) hx hb dX9_ofPlace_86 (by decide) ?_
  refine lv_iload hx hb dX9_ofPlace_87 (lv_at hl 0 rfl) ?_
  refine iw_pi (va_runS (As := [.int (nI (8 * y + x))]) (rest := [.int (nI 3), .ref (ad1 N), .ref (ad1 N)]) ⟨hx, hb, hml, hown, hts⟩ (kX9_colour l (8 * y + x) (by omega)) (va_cwS 1 hts gX9_ofPlace_X9_colour rfl rfl rfl (by decide +kernel) ⟨Nat.le_of_ble_eq_true rfl, Nat.le_of_ble_eq_true rfl⟩) ⟨fun a U g mk q => q, fun U hU hW => ⟨rfl, trivial⟩⟩ rfl rfl hl.1 rfl (lv_room (Nat.le_of_ble_eq_true rfl)) dX9_ofPlace_89 ⟨Nat.le_of_ble_eq_true rfl, Nat.le_of_ble_eq_true rfl⟩) hP hS (fun r8 u8 H locs hw8 hP hS => ?_)
  refine lv_asI hw8 ?_
  refine iw_iast hx hb hK hP hD hS (by omega) (va_us _ _ _) (vp_in_nI (show 3 < 6 by omega) (by omega)) (nI_clamp (by omega)) dX9_ofPlace_92 (fun H locs hP hD hS => ?_)
  rw [va_uu _ _ _ _] at hP hD
  refine lv_dup hx hb dX9_ofPlace_93 rfl ?_
  refine lv_iconst (v := nI 4) hx hb dX9_ofPlace_94 (by decide) ?_
  refine lv_aload_n hx hb dX9_ofPlace_95 rfl (lv_at hl 1 rfl) ?_
  refine iw_get hx hb hts iu_X9_ofPlace_9 hown hK hP (by omega) ((va_un _ _ (by omega)).trans (k1_mo)) rfl 3 (by decide) (hts _ il_X9_ofPlace_16) (fun _ h9 => h9) rfl dX9_ofPlace_96 ?_
  refine lv_iload hx hb dX9_ofPlace_99 (lv_at hl 0 rfl) ?_
  refine iw_iald (v := nI 0) hx hb hK hP (by omega) ((va_un _ _ (by omega)).trans (k1_mo_3)) (vp_in_nI (show 8 * y + x < 64 by omega) (by omega)) (rfl) dX9_ofPlace_101 ?_
  refine iw_iast hx hb hK hP hD hS (by omega) (va_us _ _ _) (vp_in_nI (show 4 < 6 by omega) (by omega)) (nI_clamp (by omega)) dX9_ofPlace_102 (fun H locs hP hD hS => ?_)
  rw [va_uu _ _ _ _] at hP hD
  refine lv_dup hx hb dX9_ofPlace_103 rfl ?_
  refine lv_iconst (v := nI 5) hx hb dX9_ofPlace_104 (by decide) ?_
  refine lv_aload_n hx hb dX9_ofPlace_105 rfl (lv_at hl 1 rfl) ?_
  refine iw_get hx hb hts iu_X9_ofPlace_9 hown hK hP (by omega) ((va_un _ _ (by omega)).trans (k1_mo)) rfl 4 (by decide) (hts _ il_X9_ofPlace_19) (fun _ h9 => h9) rfl dX9_ofPlace_106 ?_
  refine lv_iload hx hb dX9_ofPlace_109 (lv_at hl 0 rfl) ?_
  refine iw_zald (v := nI 0) hx hb hK hP (by omega) ((va_un _ _ (by omega)).trans (k1_mo_4)) (vp_in_nI (show 8 * y + x < 64 by omega) (by omega)) (rfl) dX9_ofPlace_111 ?_
  refine lv_if_eq (tgt := 119) hx hb dX9_ofPlace_112 (by decide) (fun _ => ?_) (fun c9 => absurd (by decide) c9)
  refine lv_iconst (v := nI 0) hx hb dX9_ofPlace_119 (by decide) ?_
  refine iw_iast hx hb hK hP hD hS (by omega) (va_us _ _ _) (vp_in_nI (show 5 < 6 by omega) (by omega)) (nI_clamp (by omega)) dX9_ofPlace_120 (fun H locs hP hD hS => ?_)
  rw [va_uu _ _ _ _] at hP hD
  refine lv_astore (lv' := [(5, .ref (ad1 N)), (4, .int (nI (8 * y + x))), (0, .ref (ad1 mo)), (1, .int (nI x)), (2, .int (nI y)), (3, .int (nI w))]) hx hb dX9_ofPlace_121 hl (by decide) rfl (fun ls hl => ?_)
  refine lv_aload hx hb dX9_ofPlace_123 (lv_at hl 0 rfl) ?_
  refine lv_iload_n hx hb dX9_ofPlace_125 rfl (lv_at hl 5 rfl) ?_
  rcases (show w = 0 ∨ w = 1 ∨ w = 2 ∨ w = 3 ∨ w = 4 ∨ w = 5 by omega) with rfl | rfl | rfl | rfl | rfl | rfl
  · refine iw_iald (v := (upd (upd (upd (upd (upd (upd (fun _ => nI 0) 0 (nI 0)) 1 (nI 0)) 2 (nI 0)) 3 (nI (colN ((8 * y + x) % 8) ((8 * y + x) / 8)))) 4 (nI 0)) 5 (nI 0)) 0) hx hb hK hP (by omega) (va_us _ _ _) (vp_in_nI (show 0 < 6 by omega) (by omega)) (congrArg (upd (upd (upd (upd (upd (upd (fun _ => nI 0) 0 (nI 0)) 1 (nI 0)) 2 (nI 0)) 3 (nI (colN ((8 * y + x) % 8) ((8 * y + x) / 8)))) 4 (nI 0)) 5 (nI 0)) (nI_clamp (by omega))) dX9_ofPlace_126 ?_
    refine lv_asI (y := nI 0) (by simp [upd]) ?_
    refine W.widen (k := 1) (n := 6) (Nat.le_of_ble_eq_true rfl) (Nat.le_of_ble_eq_true rfl) ?_
    exact W.iret (v := (nI 0)) hx hb hr (fun t ht hW => ⟨⟨_, (ad1, va_up C1 N (ia G 6 (upd (upd (upd (upd (upd (upd (fun _ => nI 0) 0 (nI 0)) 1 (nI 0)) 2 (nI 0)) 3 (nI (colN ((8 * y + x) % 8) ((8 * y + x) / 8)))) 4 (nI 0)) 5 (nI 0)))), rfl, ⟨rfl, ⟨ea1, fun j h hx9 => (va_un _ _ (by omega)).trans (ca1 j h hx9), ⟨_, (va_un _ _ (by omega)).trans (k1_mo)⟩⟩⟩, ⟨by rw [ht]; exact hP, hD⟩⟩, hS.F ht⟩) hS.2.2 dX9_ofPlace_127
  · refine iw_iald (v := (upd (upd (upd (upd (upd (upd (fun _ => nI 0) 0 (nI 0)) 1 (nI 0)) 2 (nI 0)) 3 (nI (colN ((8 * y + x) % 8) ((8 * y + x) / 8)))) 4 (nI 0)) 5 (nI 0)) 1) hx hb hK hP (by omega) (va_us _ _ _) (vp_in_nI (show 1 < 6 by omega) (by omega)) (congrArg (upd (upd (upd (upd (upd (upd (fun _ => nI 0) 0 (nI 0)) 1 (nI 0)) 2 (nI 0)) 3 (nI (colN ((8 * y + x) % 8) ((8 * y + x) / 8)))) 4 (nI 0)) 5 (nI 0)) (nI_clamp (by omega))) dX9_ofPlace_126 ?_
    refine lv_asI (y := nI 0) (by simp [upd]) ?_
    refine W.widen (k := 1) (n := 6) (Nat.le_of_ble_eq_true rfl) (Nat.le_of_ble_eq_true rfl) ?_
    exact W.iret (v := (nI 0)) hx hb hr (fun t ht hW => ⟨⟨_, (ad1, va_up C1 N (ia G 6 (upd (upd (upd (upd (upd (upd (fun _ => nI 0) 0 (nI 0)) 1 (nI 0)) 2 (nI 0)) 3 (nI (colN ((8 * y + x) % 8) ((8 * y + x) / 8)))) 4 (nI 0)) 5 (nI 0)))), rfl, ⟨rfl, ⟨ea1, fun j h hx9 => (va_un _ _ (by omega)).trans (ca1 j h hx9), ⟨_, (va_un _ _ (by omega)).trans (k1_mo)⟩⟩⟩, ⟨by rw [ht]; exact hP, hD⟩⟩, hS.F ht⟩) hS.2.2 dX9_ofPlace_127
  · refine iw_iald (v := (upd (upd (upd (upd (upd (upd (fun _ => nI 0) 0 (nI 0)) 1 (nI 0)) 2 (nI 0)) 3 (nI (colN ((8 * y + x) % 8) ((8 * y + x) / 8)))) 4 (nI 0)) 5 (nI 0)) 2) hx hb hK hP (by omega) (va_us _ _ _) (vp_in_nI (show 2 < 6 by omega) (by omega)) (congrArg (upd (upd (upd (upd (upd (upd (fun _ => nI 0) 0 (nI 0)) 1 (nI 0)) 2 (nI 0)) 3 (nI (colN ((8 * y + x) % 8) ((8 * y + x) / 8)))) 4 (nI 0)) 5 (nI 0)) (nI_clamp (by omega))) dX9_ofPlace_126 ?_
    refine lv_asI (y := nI 0) (by simp [upd]) ?_
    refine W.widen (k := 1) (n := 6) (Nat.le_of_ble_eq_true rfl) (Nat.le_of_ble_eq_true rfl) ?_
    exact W.iret (v := (nI 0)) hx hb hr (fun t ht hW => ⟨⟨_, (ad1, va_up C1 N (ia G 6 (upd (upd (upd (upd (upd (upd (fun _ => nI 0) 0 (nI 0)) 1 (nI 0)) 2 (nI 0)) 3 (nI (colN ((8 * y + x) % 8) ((8 * y + x) / 8)))) 4 (nI 0)) 5 (nI 0)))), rfl, ⟨rfl, ⟨ea1, fun j h hx9 => (va_un _ _ (by omega)).trans (ca1 j h hx9), ⟨_, (va_un _ _ (by omega)).trans (k1_mo)⟩⟩⟩, ⟨by rw [ht]; exact hP, hD⟩⟩, hS.F ht⟩) hS.2.2 dX9_ofPlace_127
  · refine iw_iald (v := (upd (upd (upd (upd (upd (upd (fun _ => nI 0) 0 (nI 0)) 1 (nI 0)) 2 (nI 0)) 3 (nI (colN ((8 * y + x) % 8) ((8 * y + x) / 8)))) 4 (nI 0)) 5 (nI 0)) 3) hx hb hK hP (by omega) (va_us _ _ _) (vp_in_nI (show 3 < 6 by omega) (by omega)) (congrArg (upd (upd (upd (upd (upd (upd (fun _ => nI 0) 0 (nI 0)) 1 (nI 0)) 2 (nI 0)) 3 (nI (colN ((8 * y + x) % 8) ((8 * y + x) / 8)))) 4 (nI 0)) 5 (nI 0)) (nI_clamp (by omega))) dX9_ofPlace_126 ?_
    refine lv_asI (y := nI (colN ((8 * y + x) % 8) ((8 * y + x) / 8))) (by simp [upd]) ?_
    refine W.widen (k := 1) (n := 6) (Nat.le_of_ble_eq_true rfl) (Nat.le_of_ble_eq_true rfl) ?_
    exact W.iret (v := (nI (colN ((8 * y + x) % 8) ((8 * y + x) / 8)))) hx hb hr (fun t ht hW => ⟨⟨_, (ad1, va_up C1 N (ia G 6 (upd (upd (upd (upd (upd (upd (fun _ => nI 0) 0 (nI 0)) 1 (nI 0)) 2 (nI 0)) 3 (nI (colN ((8 * y + x) % 8) ((8 * y + x) / 8)))) 4 (nI 0)) 5 (nI 0)))), rfl, ⟨(by rw [show (8 * y + x) % 8 = x by omega, show (8 * y + x) / 8 = y by omega]; rfl), ⟨ea1, fun j h hx9 => (va_un _ _ (by omega)).trans (ca1 j h hx9), ⟨_, (va_un _ _ (by omega)).trans (k1_mo)⟩⟩⟩, ⟨by rw [ht]; exact hP, hD⟩⟩, hS.F ht⟩) hS.2.2 dX9_ofPlace_127
  · refine iw_iald (v := (upd (upd (upd (upd (upd (upd (fun _ => nI 0) 0 (nI 0)) 1 (nI 0)) 2 (nI 0)) 3 (nI (colN ((8 * y + x) % 8) ((8 * y + x) / 8)))) 4 (nI 0)) 5 (nI 0)) 4) hx hb hK hP (by omega) (va_us _ _ _) (vp_in_nI (show 4 < 6 by omega) (by omega)) (congrArg (upd (upd (upd (upd (upd (upd (fun _ => nI 0) 0 (nI 0)) 1 (nI 0)) 2 (nI 0)) 3 (nI (colN ((8 * y + x) % 8) ((8 * y + x) / 8)))) 4 (nI 0)) 5 (nI 0)) (nI_clamp (by omega))) dX9_ofPlace_126 ?_
    refine lv_asI (y := nI 0) (by simp [upd]) ?_
    refine W.widen (k := 1) (n := 6) (Nat.le_of_ble_eq_true rfl) (Nat.le_of_ble_eq_true rfl) ?_
    exact W.iret (v := (nI 0)) hx hb hr (fun t ht hW => ⟨⟨_, (ad1, va_up C1 N (ia G 6 (upd (upd (upd (upd (upd (upd (fun _ => nI 0) 0 (nI 0)) 1 (nI 0)) 2 (nI 0)) 3 (nI (colN ((8 * y + x) % 8) ((8 * y + x) / 8)))) 4 (nI 0)) 5 (nI 0)))), rfl, ⟨rfl, ⟨ea1, fun j h hx9 => (va_un _ _ (by omega)).trans (ca1 j h hx9), ⟨_, (va_un _ _ (by omega)).trans (k1_mo)⟩⟩⟩, ⟨by rw [ht]; exact hP, hD⟩⟩, hS.F ht⟩) hS.2.2 dX9_ofPlace_127
  · refine iw_iald (v := (upd (upd (upd (upd (upd (upd (fun _ => nI 0) 0 (nI 0)) 1 (nI 0)) 2 (nI 0)) 3 (nI (colN ((8 * y + x) % 8) ((8 * y + x) / 8)))) 4 (nI 0)) 5 (nI 0)) 5) hx hb hK hP (by omega) (va_us _ _ _) (vp_in_nI (show 5 < 6 by omega) (by omega)) (congrArg (upd (upd (upd (upd (upd (upd (fun _ => nI 0) 0 (nI 0)) 1 (nI 0)) 2 (nI 0)) 3 (nI (colN ((8 * y + x) % 8) ((8 * y + x) / 8)))) 4 (nI 0)) 5 (nI 0)) (nI_clamp (by omega))) dX9_ofPlace_126 ?_
    refine lv_asI (y := nI 0) (by simp [upd]) ?_
    refine W.widen (k := 1) (n := 6) (Nat.le_of_ble_eq_true rfl) (Nat.le_of_ble_eq_true rfl) ?_
    exact W.iret (v := (nI 0)) hx hb hr (fun t ht hW => ⟨⟨_, (ad1, va_up C1 N (ia G 6 (upd (upd (upd (upd (upd (upd (fun _ => nI 0) 0 (nI 0)) 1 (nI 0)) 2 (nI 0)) 3 (nI (colN ((8 * y + x) % 8) ((8 * y + x) / 8)))) 4 (nI 0)) 5 (nI 0)))), rfl, ⟨rfl, ⟨ea1, fun j h hx9 => (va_un _ _ (by omega)).trans (ca1 j h hx9), ⟨_, (va_un _ _ (by omega)).trans (k1_mo)⟩⟩⟩, ⟨by rw [ht]; exact hP, hD⟩⟩, hS.F ht⟩) hS.2.2 dX9_ofPlace_127
theorem ct0 : ctN (fun _ => false) 64 = 0 := by decide +kernel
abbrev rmX9_manyNow : Room := { frames := 1, cells := 1, slots := 7, locals := 25 }
set_option maxRecDepth 20000 in
theorem iu_X9_manyNow_9 : ∀ w ∈ u_ws RX9 TX9 8, w ∈ wsX9_manyNow := by decide +kernel
set_option maxRecDepth 20000 in
theorem il_X9_manyNow_16 : (Cond.fieldLink RX9 16 "BayerGateModel" "how" "[I") ∈ wsX9_manyNow := by decide +kernel
set_option maxHeartbeats 4000000 in
set_option maxRecDepth 100000 in
theorem lX9_manyNow {p : Program} {l : Launch} {e : Env} {s : State} {m : MethodId} {args : Array Value} {below : List Frame} {meth : Method} {c : Code} {Q : State → Prop} {A : Nat → Prop} {H0 : Heap} {cells slots : Nat} (hx : p.tables.exec = Jvm.exec) (hb : c.code = cX9_manyNow) (hml : c.maxLocals = 6) (hr : meth.sig.returnType = (some .int)) (hts : ∀ w ∈ wsX9_manyNow, w.before args s = true) (hown : s.vm.findClass RX9 = some m.cls) {G : iG} (hK : KB G s) (hA : ∀ q, H0.size ≤ q → A q) {N : Nat} {ad : Nat → Nat} {C : Nat → va_E} {H : Heap} {locs : List Loc} (hP : va_P G.1 vwB (wl N ad C) H) (hD : va_D A (wl N ad C)) (hS : va_S A H0 H locs)  (hcc : cells ≤ rmX9_manyNow.cells) (hcs : slots ≤ rmX9_manyNow.slots) {mo dz w : Nat} {th : Int32} (hmod : Mod G N ad C mo dz th) (kx : ∀ ls, lv_has ls 6 [(0, .ref (ad mo)), (1, .int (nI w)), (2, .int (nI 0)), (3, .int (nI 0)), (4, .int (nI 0))] → W p l e rmX9_manyNow s m args below meth c H locs cells slots Q (F0 m 119 ls [])) : ∀ (d : Nat) (p1 : Nat) (ls : Array Slot), 64 - p1 < d → p1 ≤ 64 → lv_has ls 6 [(0, .ref (ad mo)), (1, .int (nI w)), (2, .int (nI 0)), (3, .int (nI 0)), (4, .int (nI 0)), (5, .int (nI p1))] → W p l e rmX9_manyNow s m args below meth c H locs cells slots Q (F0 m 58 ls []) := by
  intro d
  induction d with
  | zero => intro p1 ls hd; exact absurd hd (Nat.not_lt_zero _)
  | succ d ih =>
    intro p1 ls hd h2 hl
    obtain ⟨hN, gm0, gm1, gm2, gm3, gm4, gm5, gm6⟩ := id hmod
    refine lv_iload hx hb dX9_manyNow_58 (lv_at hl 5 rfl) ?_
    refine lv_bipush (v := nI 64) hx hb dX9_manyNow_60 (by decide) ?_
    refine lv_icmp_ge (tgt := 119) hx hb dX9_manyNow_62 (by decide) (fun c62 => ?_) (fun c62 => ?_)
    · have h5 : p1 = 64 := by have := (nI_leI (by omega) (by omega)).mp c62; omega
      subst h5
      exact kx ls (lv_sub hl [0, 1, 2, 3, 4] rfl)
    · have h4 : p1 < 64 := by have := mt (nI_leI (by omega) (by omega)).mpr c62; omega
      refine lv_iload_n hx hb dX9_manyNow_65 rfl (lv_at hl 3 rfl) ?_
      refine lv_aload_n hx hb dX9_manyNow_66 rfl (lv_at hl 0 rfl) ?_
      refine iw_get hx hb hts iu_X9_manyNow_9 hown hK hP (by omega) (gm0) rfl 3 (by decide) (hts _ il_X9_manyNow_16) (fun _ h9 => h9) rfl dX9_manyNow_67 ?_
      refine lv_iload hx hb dX9_manyNow_70 (lv_at hl 5 rfl) ?_
      refine iw_iald (v := nI 0) hx hb hK hP (by omega) (gm3) (vp_in_nI (show p1 < 64 by omega) (by omega)) (rfl) dX9_manyNow_72 ?_
      refine lv_if_ne (tgt := 80) hx hb dX9_manyNow_73 (by decide) (fun c9 => absurd (by decide) c9) (fun _ => ?_)
      refine lv_iconst (v := nI 0) hx hb dX9_manyNow_76 (by decide) ?_
      refine lv_goto (tgt := 81) hx hb dX9_manyNow_77 (by decide) ?_
      refine lv_iadd hx hb dX9_manyNow_81 ?_
      refine lv_asI (y := nI 0) (nI_add _ _) ?_
      refine lv_istore_n (lv' := [(3, .int (nI 0)), (0, .ref (ad mo)), (1, .int (nI w)), (2, .int (nI 0)), (4, .int (nI 0)), (5, .int (nI p1))]) hx hb dX9_manyNow_82 rfl hl (by decide) rfl (fun ls hl => ?_)
      refine lv_iload hx hb dX9_manyNow_83 (lv_at hl 4 rfl) ?_
      refine lv_aload_n hx hb dX9_manyNow_85 rfl (lv_at hl 1 rfl) ?_
      refine iw_get hx hb hts iu_X9_manyNow_9 hown hK hP (by omega) (gm0) rfl 3 (by decide) (hts _ il_X9_manyNow_16) (fun _ h9 => h9) rfl dX9_manyNow_86 ?_
      refine lv_iload hx hb dX9_manyNow_89 (lv_at hl 5 rfl) ?_
      refine iw_iald (v := nI 0) hx hb hK hP (by omega) (gm3) (vp_in_nI (show p1 < 64 by omega) (by omega)) (rfl) dX9_manyNow_91 ?_
      refine lv_if_eq (tgt := 105) hx hb dX9_manyNow_92 (by decide) (fun _ => ?_) (fun c9 => absurd (by decide) c9)
      refine lv_iconst (v := nI 0) hx hb dX9_manyNow_105 (by decide) ?_
      refine lv_goto (tgt := 110) hx hb dX9_manyNow_106 (by decide) ?_
      refine lv_iadd hx hb dX9_manyNow_110 ?_
      refine lv_asI (y := nI 0) (nI_add _ _) ?_
      refine lv_istore (lv' := [(4, .int (nI 0)), (3, .int (nI 0)), (0, .ref (ad mo)), (1, .int (nI w)), (2, .int (nI 0)), (5, .int (nI p1))]) hx hb dX9_manyNow_111 hl (by decide) rfl (fun ls hl => ?_)
      refine lv_iinc (v := nI (p1 + 1)) (lv' := [(5, .int (nI (p1 + 1))), (4, .int (nI 0)), (3, .int (nI 0)), (0, .ref (ad mo)), (1, .int (nI w)), (2, .int (nI 0))]) hx hb dX9_manyNow_113 hl (k := 5) rfl (iinc_nat _ 1) (by decide) rfl (fun ls hl => ?_)
      refine lv_goto (tgt := 58) hx hb dX9_manyNow_116 (by decide) ?_
      exact ih (p1 + 1) ls (by omega) (by omega) (lv_sub hl [3, 4, 5, 2, 1, 0] rfl)
set_option maxRecDepth 20000 in
theorem il_X9_manyNow_26 : (Cond.fieldLink RX9 26 "BayerGateModel" "frames" "Ljava/util/List;") ∈ wsX9_manyNow := by decide +kernel
set_option maxRecDepth 20000 in
theorem il_X9_manyNow_arrint : (Cond.arrayClass .int) ∈ wsX9_manyNow := by decide +kernel
set_option maxRecDepth 20000 in
theorem il_X9_manyNow_30 : (Cond.fieldLink RX9 30 "BayerGateModel" "files" "Ljava/util/List;") ∈ wsX9_manyNow := by decide +kernel
set_option maxRecDepth 20000 in
theorem il_X9_manyNow_64 : (Cond.fieldLink RX9 64 "BayerGateModel" "draw" "I") ∈ wsX9_manyNow := by decide +kernel
set_option maxHeartbeats 4000000 in
set_option maxRecDepth 100000 in
theorem kX9_manyNow (l : Launch) (G : iG) (N : Nat) (ad : Nat → Nat) (C : Nat → va_E) (mo dz : Nat) (th : Int32) (hmod : Mod G N ad C mo dz th) (w : Nat) (hw7 : w < 7) (sz : Nat) : Met l yX9_manyNow wsX9_manyNow rmX9_manyNow (iPreZ G (N) ad C dz sz [.ref (ad mo), .int (nI w)]) (va_Qi (fun (r : Int32) (u : iU) => (r = nI 0) ∧ (∀ j, j < N → u.1 j = ad j) ∧ (∀ j, j < N → u.2 j = C j) ∧ True) (iB2 G (N + 1) (iA (N) ad sz)) (iA (N) ad sz)) 1 7 (iA (N) ad sz) := by
  refine Met.ofW (cc := cX9_manyNow) (maxL := 6) (ret := (some .int)) (by decide) rfl ?_
  intro p e s m args below meth c s₁ B hml hv
  obtain ⟨rfl, ⟨⟨hsz, hP, hK, hD0⟩, hV⟩, hZ⟩ := hv
  have hx := B.exec
  have hb := B.bytes
  have hr := B.returns
  have hts := atoms_spec (ws := wsX9_manyNow) B.pre
  have hown : s.vm.findClass RX9 = some m.cls := findClass_of_methodNamed B.named
  have hlocks := B.notSynchronized
  subst hsz
  have hD := wl_self hD0 s.heap.size
  have hA : ∀ q : Nat, s.heap.size ≤ q → iA (N) ad s.heap.size q := fun q h => Or.inr h
  have hS : va_S (iA (N) ad s.heap.size) s.heap s.heap [] := va_S.rf
  have hP : va_P G.1 vwB (wl (N) ad C) s.heap := hP
  have hl := lv_entry ([.ref (ad mo), .int (nI w)]) (n := 6) (Nat.le_of_ble_eq_true rfl)
  rw [lg_entry_eq]
  generalize (lg_sl ([.ref (ad mo), .int (nI w)]) ++ List.replicate (6 - (lg_sl ([.ref (ad mo), .int (nI w)])).length) Slot.unset).toArray = ls at hl ⊢
  have hl : lv_has ls 6 [(0, .ref (ad mo)), (1, .int (nI w))] := hl
  obtain ⟨hN, gm0, gm1, gm2, gm3, gm4, gm5, gm6⟩ := id hmod
  refine lv_iconst (v := nI 0) hx hb dX9_manyNow_0 (by decide) ?_
  refine lv_istore_n (lv' := [(2, .int (nI 0)), (0, .ref (ad mo)), (1, .int (nI w))]) hx hb dX9_manyNow_1 rfl hl (by decide) rfl (fun ls hl => ?_)
  refine lv_iconst (v := nI 0) hx hb dX9_manyNow_2 (by decide) ?_
  refine lv_istore_n (lv' := [(3, .int (nI 0)), (2, .int (nI 0)), (0, .ref (ad mo)), (1, .int (nI w))]) hx hb dX9_manyNow_3 rfl hl (by decide) rfl (fun ls hl => ?_)
  refine lv_iconst (v := nI 0) hx hb dX9_manyNow_4 (by decide) ?_
  refine lv_istore (lv' := [(4, .int (nI 0)), (3, .int (nI 0)), (2, .int (nI 0)), (0, .ref (ad mo)), (1, .int (nI w))]) hx hb dX9_manyNow_5 hl (by decide) rfl (fun ls hl => ?_)
  refine lv_iconst (v := nI 0) hx hb dX9_manyNow_7 (by decide) ?_
  refine lv_istore (lv' := [(5, .int (nI 0)), (4, .int (nI 0)), (3, .int (nI 0)), (2, .int (nI 0)), (0, .ref (ad mo)), (1, .int (nI w))]) hx hb dX9_manyNow_8 hl (by decide) rfl (fun ls hl => ?_)
  refine lv_iload hx hb dX9_manyNow_10 (lv_at hl 0 rfl) ?_
  refine lv_aload_n hx hb dX9_manyNow_12 rfl (lv_at hl 4 rfl) ?_
  refine iw_get hx hb hts iu_X9_manyNow_9 hown hK hP (by omega) (gm0) rfl 6 (by decide) (hts _ il_X9_manyNow_26) (fun _ h9 => h9) rfl dX9_manyNow_13 ?_
  refine iw5_i (va_runF (hK.1.1 10 _ rfl).2 (As := []) (rest := [.int (nI 0)]) ⟨hx, hb, hml, hown, hts⟩ (kJx4a65c_size_8abf5 l G _ ad _ (by omega) (gm5) _) (va_cwF 0 hts gX9_manyNow_Jx4a65c_size_8abf5_f41Jx4a65c rfl rfl rfl (vx_fSize hV) (by decide +kernel) ⟨Nat.le_of_ble_eq_true rfl, Nat.le_of_ble_eq_true rfl⟩) (iPV hK hP hD (by omega) (gm5) rfl []) rfl rfl hl.1 rfl (lv_room (Nat.le_of_ble_eq_true rfl)) dX9_manyNow_16 ⟨Nat.le_of_ble_eq_true rfl, Nat.le_of_ble_eq_true rfl⟩) hD hS hA (fun r8 u8 H locs hw8 hP hD hS => ?_)
  obtain ⟨hr8, hu8⟩ := hw8
  refine lv_asI hr8 ?_
  rw [hu8] at hP hD
  refine lv_icmp_ge (tgt := 55) hx hb dX9_manyNow_21 (by decide) (fun _ => ?_) (fun c9 => absurd (by decide) c9)
  refine lv_iconst (v := nI 0) hx hb dX9_manyNow_55 (by decide) ?_
  refine lv_istore (lv' := [(5, .int (nI 0)), (4, .int (nI 0)), (3, .int (nI 0)), (2, .int (nI 0)), (0, .ref (ad mo)), (1, .int (nI w))]) hx hb dX9_manyNow_56 hl (by decide) rfl (fun ls hl => ?_)
  have hmq1 : Mod G (N) ad (C) mo dz (th) := ⟨by omega, gm0, gm1, gm2, gm3, gm4, gm5, gm6⟩
  refine lX9_manyNow hx hb hml hr hts hown hK hA hP hD hS (Nat.le_of_ble_eq_true rfl) (Nat.le_of_ble_eq_true rfl) hmq1 (fun ls hl => ?_) 65 0 ls (by omega) (by omega) (lv_sub hl [4, 5, 3, 2, 1, 0] rfl)
  refine lv_bipush (v := nI 7) hx hb dX9_manyNow_119 (by decide) ?_
  refine iw_newI (N' := 7) hx hb (hts _ il_X9_manyNow_arrint) hK hP hD hS hA (by decide) (by decide) (Nat.le_of_ble_eq_true rfl) (Nat.le_of_ble_eq_true rfl) (Nat.le_of_ble_eq_true rfl) dX9_manyNow_121 (fun ad1 C1 H e1 c1 n1 hP hD hS => ?_)
  have k1_mo : C1 mo = ob 9 [.int th, .ref (ad1 (mo + 1)), .ref (ad1 (mo + 2)), .ref (ad1 (mo + 3)), .ref (ad1 (mo + 4)), .int (nI 0), .ref (ad1 (mo + 5)), .ref (ad1 (mo + 6))] := (c1 _ (by omega)).trans ((gm0).trans (by first | (rw [e1 (mo + 1) (by omega), e1 (mo + 2) (by omega), e1 (mo + 3) (by omega), e1 (mo + 4) (by omega), e1 (mo + 5) (by omega), e1 (mo + 6) (by omega)]; done) | (rw [e1 (mo + 1) (by omega), e1 (mo + 2) (by omega), e1 (mo + 3) (by omega), e1 (mo + 4) (by omega), e1 (mo + 5) (by omega), e1 (mo + 6) (by omega)]; rfl)))
  have k1_mo_1 : C1 (mo + 1) = ia G 192 (fun _ => nI 0) := (c1 _ (by omega)).trans (gm1)
  have k1_mo_2 : C1 (mo + 2) = ia G 3 (fun _ => nI 4) := (c1 _ (by omega)).trans (gm2)
  have k1_mo_3 : C1 (mo + 3) = ia G 64 (fun _ => nI 0) := (c1 _ (by omega)).trans (gm3)
  have k1_mo_4 : C1 (mo + 4) = za G 64 (fun _ => nI 0) := (c1 _ (by omega)).trans (gm4)
  have k1_mo_5 : C1 (mo + 5) = ob 10 [.int (nI 0), .ref dz, .int (nI 0)] := (c1 _ (by omega)).trans (gm5)
  have k1_mo_6 : C1 (mo + 6) = ob 10 [.int (nI 0), .ref dz, .int (nI 0)] := (c1 _ (by omega)).trans (gm6)
  have ea1 : ∀ j, j < N → ad1 j = ad j := fun j h => e1 j (by omega)
  have ca1 : ∀ j, j < N → C1 j = C j := fun j h => (c1 j (by omega)).trans (rfl)
  have hl : lv_has ls 6 [(0, .ref (ad1 mo)), (1, .int (nI w)), (2, .int (nI 0)), (3, .int (nI 0)), (4, .int (nI 0))] := by rw [e1 mo (by omega)]; exact hl
  refine lv_dup hx hb dX9_manyNow_123 rfl ?_
  refine lv_iconst (v := nI 0) hx hb dX9_manyNow_124 (by decide) ?_
  refine lv_aload_n hx hb dX9_manyNow_125 rfl (lv_at hl 0 rfl) ?_
  refine iw_get hx hb hts iu_X9_manyNow_9 hown hK hP (by omega) (k1_mo) rfl 6 (by decide) (hts _ il_X9_manyNow_26) (fun _ h9 => h9) rfl dX9_manyNow_126 ?_
  refine iw5_i (va_runF (hK.1.1 10 _ rfl).2 (As := []) (rest := [.int (nI 0), .ref (ad1 N), .ref (ad1 N)]) ⟨hx, hb, hml, hown, hts⟩ (kJx4a65c_size_8abf5 l G _ ad1 _ (by omega) (k1_mo_5) _) (va_cwF 0 hts gX9_manyNow_Jx4a65c_size_8abf5_f41Jx4a65c rfl rfl rfl (vx_fSize hV) (by decide +kernel) ⟨Nat.le_of_ble_eq_true rfl, Nat.le_of_ble_eq_true rfl⟩) (iPV hK hP hD (by omega) (k1_mo_5) rfl []) rfl rfl hl.1 rfl (lv_room (Nat.le_of_ble_eq_true rfl)) dX9_manyNow_129 ⟨Nat.le_of_ble_eq_true rfl, Nat.le_of_ble_eq_true rfl⟩) hD hS hA (fun r8 u8 H locs hw8 hP hD hS => ?_)
  obtain ⟨hr8, hu8⟩ := hw8
  refine lv_asI hr8 ?_
  rw [hu8] at hP hD
  refine iw_iast hx hb hK hP hD hS (by omega) (n1) (vp_in_nI (show 0 < 7 by omega) (by omega)) (nI_clamp (by omega)) dX9_manyNow_134 (fun H locs hP hD hS => ?_)
  refine lv_dup hx hb dX9_manyNow_135 rfl ?_
  refine lv_iconst (v := nI 1) hx hb dX9_manyNow_136 (by decide) ?_
  refine lv_aload_n hx hb dX9_manyNow_137 rfl (lv_at hl 0 rfl) ?_
  refine iw_get hx hb hts iu_X9_manyNow_9 hown hK hP (by omega) ((va_un _ _ (by omega)).trans (k1_mo)) rfl 7 (by decide) (hts _ il_X9_manyNow_30) (fun _ h9 => h9) rfl dX9_manyNow_138 ?_
  refine iw5_i (va_runF (hK.1.1 10 _ rfl).2 (As := []) (rest := [.int (nI 1), .ref (ad1 N), .ref (ad1 N)]) ⟨hx, hb, hml, hown, hts⟩ (kJx4a65c_size_8abf5 l G _ ad1 _ (by omega) ((va_un _ _ (by omega)).trans (k1_mo_6)) _) (va_cwF 0 hts gX9_manyNow_Jx4a65c_size_8abf5_f41Jx4a65c rfl rfl rfl (vx_fSize hV) (by decide +kernel) ⟨Nat.le_of_ble_eq_true rfl, Nat.le_of_ble_eq_true rfl⟩) (iPV hK hP hD (by omega) ((va_un _ _ (by omega)).trans (k1_mo_6)) rfl []) rfl rfl hl.1 rfl (lv_room (Nat.le_of_ble_eq_true rfl)) dX9_manyNow_141 ⟨Nat.le_of_ble_eq_true rfl, Nat.le_of_ble_eq_true rfl⟩) hD hS hA (fun r8 u8 H locs hw8 hP hD hS => ?_)
  obtain ⟨hr8, hu8⟩ := hw8
  refine lv_asI hr8 ?_
  rw [hu8] at hP hD
  refine iw_iast hx hb hK hP hD hS (by omega) (va_us _ _ _) (vp_in_nI (show 1 < 7 by omega) (by omega)) (nI_clamp (by omega)) dX9_manyNow_146 (fun H locs hP hD hS => ?_)
  rw [va_uu _ _ _ _] at hP hD
  refine lv_dup hx hb dX9_manyNow_147 rfl ?_
  refine lv_iconst (v := nI 2) hx hb dX9_manyNow_148 (by decide) ?_
  refine lv_aload_n hx hb dX9_manyNow_149 rfl (lv_at hl 0 rfl) ?_
  refine iw_i (va_runV (As := []) (rest := [.int (nI 2), .ref (ad1 N), .ref (ad1 N)]) ⟨hx, hb, hml, hown, hts⟩ (kX9_mapped l G _ ad1 _ mo (mo + 4) (fun _ => false) _ _ _ _ _ _ _ (by omega) (by omega) ((va_un _ _ (by omega)).trans (k1_mo)) (((va_un _ _ (by omega)).trans (k1_mo_4)).trans (by rw [bI_f])) _) (cwV 0 hts gX9_manyNow_X9_mapped rfl rfl rfl (by decide +kernel) ⟨Nat.le_of_ble_eq_true rfl, Nat.le_of_ble_eq_true rfl⟩) (iPV hK hP hD (by omega) ((va_un _ _ (by omega)).trans (k1_mo)) rfl []) rfl rfl hl.1 rfl (lv_room (Nat.le_of_ble_eq_true rfl)) dX9_manyNow_150 ⟨Nat.le_of_ble_eq_true rfl, Nat.le_of_ble_eq_true rfl⟩) hD hS hA (fun r8 u8 H locs hw8 hP hD hS => ?_)
  obtain ⟨hr8, hu8⟩ := hw8
  refine lv_asI hr8 ?_
  rw [hu8] at hP hD
  refine lv_asI (y := nI 0) (congrArg nI ct0) ?_
  refine iw_iast hx hb hK hP hD hS (by omega) (va_us _ _ _) (vp_in_nI (show 2 < 7 by omega) (by omega)) (nI_clamp (by omega)) dX9_manyNow_153 (fun H locs hP hD hS => ?_)
  rw [va_uu _ _ _ _] at hP hD
  refine lv_dup hx hb dX9_manyNow_154 rfl ?_
  refine lv_iconst (v := nI 3) hx hb dX9_manyNow_155 (by decide) ?_
  refine lv_aload_n hx hb dX9_manyNow_156 rfl (lv_at hl 0 rfl) ?_
  refine iw_get hx hb hts iu_X9_manyNow_9 hown hK hP (by omega) ((va_un _ _ (by omega)).trans (k1_mo)) rfl 5 (by decide) (hts _ il_X9_manyNow_64) (fun _ h9 => h9) rfl dX9_manyNow_157 ?_
  refine iw_iast hx hb hK hP hD hS (by omega) (va_us _ _ _) (vp_in_nI (show 3 < 7 by omega) (by omega)) (nI_clamp (by omega)) dX9_manyNow_160 (fun H locs hP hD hS => ?_)
  rw [va_uu _ _ _ _] at hP hD
  refine lv_dup hx hb dX9_manyNow_161 rfl ?_
  refine lv_iconst (v := nI 4) hx hb dX9_manyNow_162 (by decide) ?_
  refine lv_iload_n hx hb dX9_manyNow_163 rfl (lv_at hl 2 rfl) ?_
  refine iw_iast hx hb hK hP hD hS (by omega) (va_us _ _ _) (vp_in_nI (show 4 < 7 by omega) (by omega)) (nI_clamp (by omega)) dX9_manyNow_164 (fun H locs hP hD hS => ?_)
  rw [va_uu _ _ _ _] at hP hD
  refine lv_dup hx hb dX9_manyNow_165 rfl ?_
  refine lv_iconst (v := nI 5) hx hb dX9_manyNow_166 (by decide) ?_
  refine lv_iload_n hx hb dX9_manyNow_167 rfl (lv_at hl 3 rfl) ?_
  refine iw_iast hx hb hK hP hD hS (by omega) (va_us _ _ _) (vp_in_nI (show 5 < 7 by omega) (by omega)) (nI_clamp (by omega)) dX9_manyNow_168 (fun H locs hP hD hS => ?_)
  rw [va_uu _ _ _ _] at hP hD
  refine lv_dup hx hb dX9_manyNow_169 rfl ?_
  refine lv_bipush (v := nI 6) hx hb dX9_manyNow_170 (by decide) ?_
  refine lv_iload hx hb dX9_manyNow_172 (lv_at hl 4 rfl) ?_
  refine iw_iast hx hb hK hP hD hS (by omega) (va_us _ _ _) (vp_in_nI (show 6 < 7 by omega) (by omega)) (nI_clamp (by omega)) dX9_manyNow_174 (fun H locs hP hD hS => ?_)
  rw [va_uu _ _ _ _] at hP hD
  refine lv_astore (lv' := [(5, .ref (ad1 N)), (0, .ref (ad1 mo)), (1, .int (nI w)), (2, .int (nI 0)), (3, .int (nI 0)), (4, .int (nI 0))]) hx hb dX9_manyNow_175 hl (by decide) rfl (fun ls hl => ?_)
  refine lv_aload hx hb dX9_manyNow_177 (lv_at hl 0 rfl) ?_
  refine lv_iload_n hx hb dX9_manyNow_179 rfl (lv_at hl 2 rfl) ?_
  rcases (show w = 0 ∨ w = 1 ∨ w = 2 ∨ w = 3 ∨ w = 4 ∨ w = 5 ∨ w = 6 by omega) with rfl | rfl | rfl | rfl | rfl | rfl | rfl
  · refine iw_iald (v := (upd (upd (upd (upd (upd (upd (upd (fun _ => nI 0) 0 (nI 0)) 1 (nI 0)) 2 (nI 0)) 3 (nI 0)) 4 (nI 0)) 5 (nI 0)) 6 (nI 0)) 0) hx hb hK hP (by omega) (va_us _ _ _) (vp_in_nI (show 0 < 7 by omega) (by omega)) (congrArg (upd (upd (upd (upd (upd (upd (upd (fun _ => nI 0) 0 (nI 0)) 1 (nI 0)) 2 (nI 0)) 3 (nI 0)) 4 (nI 0)) 5 (nI 0)) 6 (nI 0)) (nI_clamp (by omega))) dX9_manyNow_180 ?_
    refine lv_asI (y := nI 0) (by simp [upd]) ?_
    refine W.widen (k := 1) (n := 7) (Nat.le_of_ble_eq_true rfl) (Nat.le_of_ble_eq_true rfl) ?_
    exact W.iret (v := (nI 0)) hx hb hr (fun t ht hW => ⟨⟨_, (ad1, va_up C1 N (ia G 7 (upd (upd (upd (upd (upd (upd (upd (fun _ => nI 0) 0 (nI 0)) 1 (nI 0)) 2 (nI 0)) 3 (nI 0)) 4 (nI 0)) 5 (nI 0)) 6 (nI 0)))), rfl, ⟨rfl, ⟨ea1, fun j h => (va_un _ _ (by omega)).trans (ca1 j h), trivial⟩⟩, ⟨by rw [ht]; exact hP, hD⟩⟩, hS.F ht⟩) hS.2.2 dX9_manyNow_181
  · refine iw_iald (v := (upd (upd (upd (upd (upd (upd (upd (fun _ => nI 0) 0 (nI 0)) 1 (nI 0)) 2 (nI 0)) 3 (nI 0)) 4 (nI 0)) 5 (nI 0)) 6 (nI 0)) 1) hx hb hK hP (by omega) (va_us _ _ _) (vp_in_nI (show 1 < 7 by omega) (by omega)) (congrArg (upd (upd (upd (upd (upd (upd (upd (fun _ => nI 0) 0 (nI 0)) 1 (nI 0)) 2 (nI 0)) 3 (nI 0)) 4 (nI 0)) 5 (nI 0)) 6 (nI 0)) (nI_clamp (by omega))) dX9_manyNow_180 ?_
    refine lv_asI (y := nI 0) (by simp [upd]) ?_
    refine W.widen (k := 1) (n := 7) (Nat.le_of_ble_eq_true rfl) (Nat.le_of_ble_eq_true rfl) ?_
    exact W.iret (v := (nI 0)) hx hb hr (fun t ht hW => ⟨⟨_, (ad1, va_up C1 N (ia G 7 (upd (upd (upd (upd (upd (upd (upd (fun _ => nI 0) 0 (nI 0)) 1 (nI 0)) 2 (nI 0)) 3 (nI 0)) 4 (nI 0)) 5 (nI 0)) 6 (nI 0)))), rfl, ⟨rfl, ⟨ea1, fun j h => (va_un _ _ (by omega)).trans (ca1 j h), trivial⟩⟩, ⟨by rw [ht]; exact hP, hD⟩⟩, hS.F ht⟩) hS.2.2 dX9_manyNow_181
  · refine iw_iald (v := (upd (upd (upd (upd (upd (upd (upd (fun _ => nI 0) 0 (nI 0)) 1 (nI 0)) 2 (nI 0)) 3 (nI 0)) 4 (nI 0)) 5 (nI 0)) 6 (nI 0)) 2) hx hb hK hP (by omega) (va_us _ _ _) (vp_in_nI (show 2 < 7 by omega) (by omega)) (congrArg (upd (upd (upd (upd (upd (upd (upd (fun _ => nI 0) 0 (nI 0)) 1 (nI 0)) 2 (nI 0)) 3 (nI 0)) 4 (nI 0)) 5 (nI 0)) 6 (nI 0)) (nI_clamp (by omega))) dX9_manyNow_180 ?_
    refine lv_asI (y := nI 0) (by simp [upd]) ?_
    refine W.widen (k := 1) (n := 7) (Nat.le_of_ble_eq_true rfl) (Nat.le_of_ble_eq_true rfl) ?_
    exact W.iret (v := (nI 0)) hx hb hr (fun t ht hW => ⟨⟨_, (ad1, va_up C1 N (ia G 7 (upd (upd (upd (upd (upd (upd (upd (fun _ => nI 0) 0 (nI 0)) 1 (nI 0)) 2 (nI 0)) 3 (nI 0)) 4 (nI 0)) 5 (nI 0)) 6 (nI 0)))), rfl, ⟨rfl, ⟨ea1, fun j h => (va_un _ _ (by omega)).trans (ca1 j h), trivial⟩⟩, ⟨by rw [ht]; exact hP, hD⟩⟩, hS.F ht⟩) hS.2.2 dX9_manyNow_181
  · refine iw_iald (v := (upd (upd (upd (upd (upd (upd (upd (fun _ => nI 0) 0 (nI 0)) 1 (nI 0)) 2 (nI 0)) 3 (nI 0)) 4 (nI 0)) 5 (nI 0)) 6 (nI 0)) 3) hx hb hK hP (by omega) (va_us _ _ _) (vp_in_nI (show 3 < 7 by omega) (by omega)) (congrArg (upd (upd (upd (upd (upd (upd (upd (fun _ => nI 0) 0 (nI 0)) 1 (nI 0)) 2 (nI 0)) 3 (nI 0)) 4 (nI 0)) 5 (nI 0)) 6 (nI 0)) (nI_clamp (by omega))) dX9_manyNow_180 ?_
    refine lv_asI (y := nI 0) (by simp [upd]) ?_
    refine W.widen (k := 1) (n := 7) (Nat.le_of_ble_eq_true rfl) (Nat.le_of_ble_eq_true rfl) ?_
    exact W.iret (v := (nI 0)) hx hb hr (fun t ht hW => ⟨⟨_, (ad1, va_up C1 N (ia G 7 (upd (upd (upd (upd (upd (upd (upd (fun _ => nI 0) 0 (nI 0)) 1 (nI 0)) 2 (nI 0)) 3 (nI 0)) 4 (nI 0)) 5 (nI 0)) 6 (nI 0)))), rfl, ⟨rfl, ⟨ea1, fun j h => (va_un _ _ (by omega)).trans (ca1 j h), trivial⟩⟩, ⟨by rw [ht]; exact hP, hD⟩⟩, hS.F ht⟩) hS.2.2 dX9_manyNow_181
  · refine iw_iald (v := (upd (upd (upd (upd (upd (upd (upd (fun _ => nI 0) 0 (nI 0)) 1 (nI 0)) 2 (nI 0)) 3 (nI 0)) 4 (nI 0)) 5 (nI 0)) 6 (nI 0)) 4) hx hb hK hP (by omega) (va_us _ _ _) (vp_in_nI (show 4 < 7 by omega) (by omega)) (congrArg (upd (upd (upd (upd (upd (upd (upd (fun _ => nI 0) 0 (nI 0)) 1 (nI 0)) 2 (nI 0)) 3 (nI 0)) 4 (nI 0)) 5 (nI 0)) 6 (nI 0)) (nI_clamp (by omega))) dX9_manyNow_180 ?_
    refine lv_asI (y := nI 0) (by simp [upd]) ?_
    refine W.widen (k := 1) (n := 7) (Nat.le_of_ble_eq_true rfl) (Nat.le_of_ble_eq_true rfl) ?_
    exact W.iret (v := (nI 0)) hx hb hr (fun t ht hW => ⟨⟨_, (ad1, va_up C1 N (ia G 7 (upd (upd (upd (upd (upd (upd (upd (fun _ => nI 0) 0 (nI 0)) 1 (nI 0)) 2 (nI 0)) 3 (nI 0)) 4 (nI 0)) 5 (nI 0)) 6 (nI 0)))), rfl, ⟨rfl, ⟨ea1, fun j h => (va_un _ _ (by omega)).trans (ca1 j h), trivial⟩⟩, ⟨by rw [ht]; exact hP, hD⟩⟩, hS.F ht⟩) hS.2.2 dX9_manyNow_181
  · refine iw_iald (v := (upd (upd (upd (upd (upd (upd (upd (fun _ => nI 0) 0 (nI 0)) 1 (nI 0)) 2 (nI 0)) 3 (nI 0)) 4 (nI 0)) 5 (nI 0)) 6 (nI 0)) 5) hx hb hK hP (by omega) (va_us _ _ _) (vp_in_nI (show 5 < 7 by omega) (by omega)) (congrArg (upd (upd (upd (upd (upd (upd (upd (fun _ => nI 0) 0 (nI 0)) 1 (nI 0)) 2 (nI 0)) 3 (nI 0)) 4 (nI 0)) 5 (nI 0)) 6 (nI 0)) (nI_clamp (by omega))) dX9_manyNow_180 ?_
    refine lv_asI (y := nI 0) (by simp [upd]) ?_
    refine W.widen (k := 1) (n := 7) (Nat.le_of_ble_eq_true rfl) (Nat.le_of_ble_eq_true rfl) ?_
    exact W.iret (v := (nI 0)) hx hb hr (fun t ht hW => ⟨⟨_, (ad1, va_up C1 N (ia G 7 (upd (upd (upd (upd (upd (upd (upd (fun _ => nI 0) 0 (nI 0)) 1 (nI 0)) 2 (nI 0)) 3 (nI 0)) 4 (nI 0)) 5 (nI 0)) 6 (nI 0)))), rfl, ⟨rfl, ⟨ea1, fun j h => (va_un _ _ (by omega)).trans (ca1 j h), trivial⟩⟩, ⟨by rw [ht]; exact hP, hD⟩⟩, hS.F ht⟩) hS.2.2 dX9_manyNow_181
  · refine iw_iald (v := (upd (upd (upd (upd (upd (upd (upd (fun _ => nI 0) 0 (nI 0)) 1 (nI 0)) 2 (nI 0)) 3 (nI 0)) 4 (nI 0)) 5 (nI 0)) 6 (nI 0)) 6) hx hb hK hP (by omega) (va_us _ _ _) (vp_in_nI (show 6 < 7 by omega) (by omega)) (congrArg (upd (upd (upd (upd (upd (upd (upd (fun _ => nI 0) 0 (nI 0)) 1 (nI 0)) 2 (nI 0)) 3 (nI 0)) 4 (nI 0)) 5 (nI 0)) 6 (nI 0)) (nI_clamp (by omega))) dX9_manyNow_180 ?_
    refine lv_asI (y := nI 0) (by simp [upd]) ?_
    refine W.widen (k := 1) (n := 7) (Nat.le_of_ble_eq_true rfl) (Nat.le_of_ble_eq_true rfl) ?_
    exact W.iret (v := (nI 0)) hx hb hr (fun t ht hW => ⟨⟨_, (ad1, va_up C1 N (ia G 7 (upd (upd (upd (upd (upd (upd (upd (fun _ => nI 0) 0 (nI 0)) 1 (nI 0)) 2 (nI 0)) 3 (nI 0)) 4 (nI 0)) 5 (nI 0)) 6 (nI 0)))), rfl, ⟨rfl, ⟨ea1, fun j h => (va_un _ _ (by omega)).trans (ca1 j h), trivial⟩⟩, ⟨by rw [ht]; exact hP, hD⟩⟩, hS.F ht⟩) hS.2.2 dX9_manyNow_181
abbrev rmX9_many_v : Room := { frames := 2, cells := 1, slots := 7, locals := 50 }
set_option maxHeartbeats 4000000 in
set_option maxRecDepth 100000 in
theorem kX9_many (l : Launch) (G : iG) (N : Nat) (ad : Nat → Nat) (C : Nat → va_E) (mo dz : Nat) (th : Int32) (hmod : Mod G N ad C mo dz th) (w : Nat) (hw7 : w < 7) (sz : Nat) : Met l yX9_many wsX9_many rmX9_many_v (iPreZ G (N) ad C dz sz [.ref (ad mo), .int (nI w)]) (va_Qi (fun (r : Int32) (u : iU) => (r = nI 0) ∧ (∀ j, j < N → u.1 j = ad j) ∧ (∀ j, j < N → (j < mo ∨ mo + 7 ≤ j) → u.2 j = C j) ∧ Thr u.1 u.2 mo (nI 0)) (iB2 G (N + 1) (iA (N) ad sz)) (iA (N) ad sz)) 1 7 (iA (N) ad sz) := by
  refine Met.ofW (cc := cX9_many) (maxL := 2) (ret := (some .int)) (by decide) rfl ?_
  intro p e s m args below meth c s₁ B hml hv
  obtain ⟨rfl, ⟨⟨hsz, hP, hK, hD0⟩, hV⟩, hZ⟩ := hv
  have hx := B.exec
  have hb := B.bytes
  have hr := B.returns
  have hts := atoms_spec (ws := wsX9_many) B.pre
  have hown : s.vm.findClass RX9 = some m.cls := findClass_of_methodNamed B.named
  have hlocks := B.notSynchronized
  subst hsz
  have hD := wl_self hD0 s.heap.size
  have hA : ∀ q : Nat, s.heap.size ≤ q → iA (N) ad s.heap.size q := fun q h => Or.inr h
  have hS : va_S (iA (N) ad s.heap.size) s.heap s.heap [] := va_S.rf
  have hP : va_P G.1 vwB (wl (N) ad C) s.heap := hP
  have hl := lv_entry ([.ref (ad mo), .int (nI w)]) (n := 2) (Nat.le_of_ble_eq_true rfl)
  rw [lg_entry_eq]
  generalize (lg_sl ([.ref (ad mo), .int (nI w)]) ++ List.replicate (2 - (lg_sl ([.ref (ad mo), .int (nI w)])).length) Slot.unset).toArray = ls at hl ⊢
  have hl : lv_has ls 2 [(0, .ref (ad mo)), (1, .int (nI w))] := hl
  obtain ⟨hN, gm0, gm1, gm2, gm3, gm4, gm5, gm6⟩ := id hmod
  refine lv_aload_n hx hb dX9_many_0 rfl (lv_at hl 0 rfl) ?_
  refine lv_iconst (v := nI 0) hx hb dX9_many_1 (by decide) ?_
  refine iw_put (ty := .int) hx hb hts iu_X9_many_9 tyX9 tyX9_ok nmX9 hown hK hP hD hS (by omega) (gm0) rfl 0 (by decide) (hts _ il_X9_many_33) (fun _ h9 => h9) rfl (by decide +kernel) rfl rfl (Nat.le_of_ble_eq_true rfl) rfl dX9_many_2 (fun H locs hP hD hS => ?_)
  refine lv_iload_n hx hb dX9_many_5 rfl (lv_at hl 1 rfl) ?_
  refine lv_iconst (v := nI 0) hx hb dX9_many_6 (by decide) ?_
  refine lv_bipush (v := nI 6) hx hb dX9_many_7 (by decide) ?_
  refine iw_pi (va_runS (As := [.int (nI w), .int (nI 0), .int (nI 6)]) (rest := []) ⟨hx, hb, hml, hown, hts⟩ (kX9_in l (nI w) (nI 0) (nI 6)) (va_cwS 3 hts gX9_many_X9_in rfl rfl rfl (by decide +kernel) ⟨Nat.le_of_ble_eq_true rfl, Nat.le_of_ble_eq_true rfl⟩) ⟨fun a U g mk q => q, fun U hU hW => ⟨rfl, trivial⟩⟩ rfl rfl hl.1 rfl (lv_room (Nat.le_of_ble_eq_true rfl)) dX9_many_9 ⟨Nat.le_of_ble_eq_true rfl, Nat.le_of_ble_eq_true rfl⟩) hP hS (fun r8 u8 H locs hw8 hP hS => ?_)
  refine lv_asI hw8 ?_
  refine lv_asI (y := nI 1) (inB_in (nI_nlt (by omega) (by omega)) (nI_le (by omega) (by omega))) ?_
  refine lv_if_ne (tgt := 21) hx hb dX9_many_12 (by decide) (fun _ => ?_) (fun c9 => absurd c9 (by decide))
  refine lv_aload_n hx hb dX9_many_21 rfl (lv_at hl 0 rfl) ?_
  refine lv_iload_n hx hb dX9_many_22 rfl (lv_at hl 1 rfl) ?_
  have hmq1 : Mod G (N) ad (va_up C mo (ob 9 [.int (nI 0), .ref (ad (mo + 1)), .ref (ad (mo + 2)), .ref (ad (mo + 3)), .ref (ad (mo + 4)), .int (nI 0), .ref (ad (mo + 5)), .ref (ad (mo + 6))])) mo dz (nI 0) := ⟨by omega, va_us _ _ _, (va_un _ _ (by omega)).trans (gm1), (va_un _ _ (by omega)).trans (gm2), (va_un _ _ (by omega)).trans (gm3), (va_un _ _ (by omega)).trans (gm4), (va_un _ _ (by omega)).trans (gm5), (va_un _ _ (by omega)).trans (gm6)⟩
  refine iwg_i (va_runV (As := [.int (nI w)]) (rest := []) ⟨hx, hb, hml, hown, hts⟩ (kX9_manyNow l G (N) ad _ mo dz (nI 0) hmq1 (w) (by omega) _) (cwV 1 hts gX9_many_X9_manyNow rfl rfl rfl (by decide +kernel) ⟨Nat.le_of_ble_eq_true rfl, Nat.le_of_ble_eq_true rfl⟩) (iPVZ hK hV hZ hS hA hP hD (by omega) (va_us _ _ _) rfl [.int (nI w)]) rfl rfl hl.1 rfl (lv_room (Nat.le_of_ble_eq_true rfl)) dX9_many_23 ⟨Nat.le_of_ble_eq_true rfl, Nat.le_of_ble_eq_true rfl⟩) hD hS hA (fun r8 ad1 C1 H locs hw8 hP hD hS => ?_)
  dsimp only at hw8
  obtain ⟨hr8, e1, c1, q1_t⟩ := hw8
  refine lv_asI hr8 ?_
  have k1_mo : C1 mo = ob 9 [.int (nI 0), .ref (ad1 (mo + 1)), .ref (ad1 (mo + 2)), .ref (ad1 (mo + 3)), .ref (ad1 (mo + 4)), .int (nI 0), .ref (ad1 (mo + 5)), .ref (ad1 (mo + 6))] := (c1 _ (by omega)).trans ((va_us _ _ _).trans (by first | (rw [e1 (mo + 1) (by omega), e1 (mo + 2) (by omega), e1 (mo + 3) (by omega), e1 (mo + 4) (by omega), e1 (mo + 5) (by omega), e1 (mo + 6) (by omega)]; done) | (rw [e1 (mo + 1) (by omega), e1 (mo + 2) (by omega), e1 (mo + 3) (by omega), e1 (mo + 4) (by omega), e1 (mo + 5) (by omega), e1 (mo + 6) (by omega)]; rfl)))
  have k1_mo_1 : C1 (mo + 1) = ia G 192 (fun _ => nI 0) := (c1 _ (by omega)).trans ((va_un _ _ (by omega)).trans (gm1))
  have k1_mo_2 : C1 (mo + 2) = ia G 3 (fun _ => nI 4) := (c1 _ (by omega)).trans ((va_un _ _ (by omega)).trans (gm2))
  have k1_mo_3 : C1 (mo + 3) = ia G 64 (fun _ => nI 0) := (c1 _ (by omega)).trans ((va_un _ _ (by omega)).trans (gm3))
  have k1_mo_4 : C1 (mo + 4) = za G 64 (fun _ => nI 0) := (c1 _ (by omega)).trans ((va_un _ _ (by omega)).trans (gm4))
  have k1_mo_5 : C1 (mo + 5) = ob 10 [.int (nI 0), .ref dz, .int (nI 0)] := (c1 _ (by omega)).trans ((va_un _ _ (by omega)).trans (gm5))
  have k1_mo_6 : C1 (mo + 6) = ob 10 [.int (nI 0), .ref dz, .int (nI 0)] := (c1 _ (by omega)).trans ((va_un _ _ (by omega)).trans (gm6))
  have ea1 : ∀ j, j < N → ad1 j = ad j := fun j h => e1 j (by omega)
  have ca1 : ∀ j, j < N → (j < mo ∨ mo + 7 ≤ j) → C1 j = C j := fun j h hx9 => (c1 j (by omega)).trans ((va_un _ _ (by omega)).trans (rfl))
  have hl : lv_has ls 2 [(0, .ref (ad1 mo)), (1, .int (nI w))] := by rw [e1 mo (by omega)]; exact hl
  refine W.widen (k := 1) (n := 7) (Nat.le_of_ble_eq_true rfl) (Nat.le_of_ble_eq_true rfl) ?_
  exact W.iret (v := (nI 0)) hx hb hr (fun t ht hW => ⟨⟨_, (ad1, C1), rfl, ⟨rfl, ⟨ea1, fun j h hx9 => ca1 j h hx9, ⟨_, k1_mo⟩⟩⟩, ⟨by rw [ht]; exact hP, hD⟩⟩, hS.F ht⟩) hS.2.2 dX9_many_26
