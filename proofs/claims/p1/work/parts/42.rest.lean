set_option maxRecDepth 20000 in
theorem ggX9_digest_X9_manyNow : GoodIn wsX9_digest wsX9_manyNow := goodIn_r _ [13, 4, 5, 14, 15, 16, 17, 8, 18, 19, 20, 21, 22, 23, 24, 25, 26, 27, 28, 29, 30, 31, 32, 33, 34, 35, 36, 37, 38, 39, 40, 41, 42, 43, 44, 12, 45, 193, 194, 195, 196, 197, 198, 199, 200, 201, 202, 203, 204, 205, 206, 207, 208] (by decide +kernel) (by decide +kernel)
set_option maxRecDepth 20000 in
theorem gX9_digest_X9_manyNow : GoodIn wsX9_digest (wsV RX9 198 RX9 yX9_manyNow wsX9_manyNow) := goodIn_app (goodIn_of _ (by decide +kernel)) ggX9_digest_X9_manyNow
set_option maxRecDepth 20000 in
theorem ggX9_digest_Jx4a65c_size_8abf5 : GoodIn wsX9_digest wsJx4a65c_size_8abf5 := goodIn_r _ [23, 24, 206, 207, 208] (by decide +kernel) (by decide +kernel)
set_option maxRecDepth 20000 in
theorem gX9_digest_Jx4a65c_size_8abf5_f41Jx4a65c : GoodIn wsX9_digest (va_wsF RX9 41 RJx4a65c ⟨"java/util/List", "size", "()I"⟩ yJx4a65c_size_8abf5 wsJx4a65c_size_8abf5) := goodIn_app (goodIn_of _ (by decide +kernel)) ggX9_digest_Jx4a65c_size_8abf5
set_option maxRecDepth 20000 in
theorem ggX9_digest_X9_taken : GoodIn wsX9_digest wsX9_taken := goodIn_r _ [160, 17, 18, 161, 162, 124, 163, 164, 74, 65, 75, 15, 165, 77, 78, 166, 167, 56, 120, 67, 12, 68, 168, 169, 170, 171, 172, 173, 174, 175, 22, 176, 177, 178, 58, 179, 180, 181, 182, 41, 183, 184, 185, 186, 187, 188, 189, 190, 191, 192, 193, 194, 195, 196, 197, 198, 199, 200, 201, 202, 203, 204, 205, 206, 207, 208] (by decide +kernel) (by decide +kernel)
set_option maxRecDepth 20000 in
theorem gX9_digest_X9_taken : GoodIn wsX9_digest (wsV RX9 85 RX9 yX9_taken wsX9_taken) := goodIn_app (goodIn_of _ (by decide +kernel)) ggX9_digest_X9_taken
set_option maxRecDepth 20000 in
theorem ggX9_digest_X7_clipped : GoodIn wsX9_digest wsX7_clipped := goodIn_r _ [57, 58, 201, 202, 203, 204, 205] (by decide +kernel) (by decide +kernel)
set_option maxRecDepth 20000 in
theorem gX9_digest_X7_clipped : GoodIn wsX9_digest (wsV RX9 172 RX7 yX7_clipped wsX7_clipped) := goodIn_app (goodIn_of _ (by decide +kernel)) ggX9_digest_X7_clipped
set_option maxRecDepth 20000 in
theorem ggX9_paint_X9_at : GoodIn wsX9_paint wsX9_at := goodIn_r _ [18] (by decide +kernel) (by decide +kernel)
set_option maxRecDepth 20000 in
theorem gX9_paint_X9_at : GoodIn wsX9_paint (va_wsS RX9 56 yX9_at wsX9_at) := goodIn_app (goodIn_of _ (by decide +kernel)) ggX9_paint_X9_at
set_option maxHeartbeats 4000000 in
set_option maxRecDepth 100000 in
theorem kX9_bestTake (l : Launch) (G : iG) (N : Nat) (ad : Nat → Nat) (C : Nat → va_E) (mo dz : Nat) (th : Int32) (hmod : Mod G N ad C mo dz th) (v : Nat) (hv : v < 256) (sz : Nat) : Met l yX9_bestTake wsX9_bestTake rmX9_bestTake_v (iPreZ G (N) ad C dz sz [.ref (ad mo), .int (nI v)]) (va_Qi (fun (r : Int32) (u : iU) => (r = nI 17) ∧ (∀ j, j < N → u.1 j = ad j) ∧ (∀ j, j < N → (j < mo ∨ mo + 7 ≤ j) → u.2 j = C j) ∧ Thr u.1 u.2 mo (nI 0)) (iB2 G (N) (iA (N) ad sz)) (iA (N) ad sz)) 168 4032 (iA (N) ad sz) := by
  refine Met.ofW (cc := cX9_bestTake) (maxL := 9) (ret := (some .int)) (by decide) rfl ?_
  intro p e s m args below meth c s₁ B hml hv
  obtain ⟨rfl, ⟨⟨hsz, hP, hK, hD0⟩, hV⟩, hZ⟩ := hv
  have hx := B.exec
  have hb := B.bytes
  have hr := B.returns
  have hts := atoms_spec (ws := wsX9_bestTake) B.pre
  have hown : s.vm.findClass RX9 = some m.cls := findClass_of_methodNamed B.named
  have hlocks := B.notSynchronized
  subst hsz
  have hD := wl_self hD0 s.heap.size
  have hA : ∀ q : Nat, s.heap.size ≤ q → iA (N) ad s.heap.size q := fun q h => Or.inr h
  have hS : va_S (iA (N) ad s.heap.size) s.heap s.heap [] := va_S.rf
  have hP : va_P G.1 vwB (wl (N) ad C) s.heap := hP
  have hl := lv_entry ([.ref (ad mo), .int (nI v)]) (n := 9) (Nat.le_of_ble_eq_true rfl)
  rw [lg_entry_eq]
  generalize (lg_sl ([.ref (ad mo), .int (nI v)]) ++ List.replicate (9 - (lg_sl ([.ref (ad mo), .int (nI v)])).length) Slot.unset).toArray = ls at hl ⊢
  have hl : lv_has ls 9 [(0, .ref (ad mo)), (1, .int (nI v))] := hl
  obtain ⟨hN, gm0, gm1, gm2, gm3, gm4, gm5, gm6⟩ := id hmod
  refine lv_aload_n hx hb dX9_bestTake_0 rfl (lv_at hl 0 rfl) ?_
  refine lv_iconst (v := nI 0) hx hb dX9_bestTake_1 (by decide) ?_
  refine iw_put (ty := .int) hx hb hts iu_X9_bestTake_9 tyX9 tyX9_ok nmX9 hown hK hP hD hS (by omega) (gm0) rfl 0 (by decide) (hts _ il_X9_bestTake_33) (fun _ h9 => h9) rfl (by decide +kernel) rfl rfl (Nat.le_of_ble_eq_true rfl) rfl dX9_bestTake_2 (fun H locs hP hD hS => ?_)
  refine lv_iload_n hx hb dX9_bestTake_5 rfl (lv_at hl 1 rfl) ?_
  refine lv_iconst (v := nI 0) hx hb dX9_bestTake_6 (by decide) ?_
  refine lv_sipush (v := nI 255) hx hb dX9_bestTake_7 (by decide) ?_
  refine iw_pi (va_runS (As := [.int (nI v), .int (nI 0), .int (nI 255)]) (rest := []) ⟨hx, hb, hml, hown, hts⟩ (kX9_in l (nI v) (nI 0) (nI 255)) (va_cwS 3 hts gX9_bestTake_X9_in rfl rfl rfl (by decide +kernel) ⟨Nat.le_of_ble_eq_true rfl, Nat.le_of_ble_eq_true rfl⟩) ⟨fun a U g mk q => q, fun U hU hW => ⟨rfl, trivial⟩⟩ rfl rfl hl.1 rfl (lv_room (Nat.le_of_ble_eq_true rfl)) dX9_bestTake_10 ⟨Nat.le_of_ble_eq_true rfl, Nat.le_of_ble_eq_true rfl⟩) hP hS (fun r8 u8 H locs hw8 hP hS => ?_)
  refine lv_asI hw8 ?_
  refine lv_asI (y := nI 1) (inB_in (nI_nlt (by omega) (by omega)) (nI_le (by omega) (by omega))) ?_
  refine lv_if_ne (tgt := 22) hx hb dX9_bestTake_13 (by decide) (fun _ => ?_) (fun c9 => absurd c9 (by decide))
  refine lv_iconst (v := nI 0) hx hb dX9_bestTake_22 (by decide) ?_
  refine lv_istore_n (lv' := [(2, .int (nI 0)), (0, .ref (ad mo)), (1, .int (nI v))]) hx hb dX9_bestTake_23 rfl hl (by decide) rfl (fun ls hl => ?_)
  refine lv_dconst0 hx hb dX9_bestTake_24 ?_
  refine lv_dstore_n (lv' := [(3, .double FP.dconst0), (2, .int (nI 0)), (0, .ref (ad mo)), (1, .int (nI v))]) hx hb dX9_bestTake_25 rfl hl (by decide) rfl (fun ls hl => ?_)
  refine lv_iconst (v := nI 1) hx hb dX9_bestTake_26 (by decide) ?_
  refine lv_istore (lv' := [(5, .int (nI 1)), (3, .double FP.dconst0), (2, .int (nI 0)), (0, .ref (ad mo)), (1, .int (nI v))]) hx hb dX9_bestTake_27 hl (by decide) rfl (fun ls hl => ?_)
  refine lv_iload hx hb dX9_bestTake_29 (lv_at hl 0 rfl) ?_
  refine lv_bipush (v := nI 8) hx hb dX9_bestTake_31 (by decide) ?_
  refine lv_icmp_gt (tgt := 107) hx hb dX9_bestTake_33 (by decide) (fun c9 => absurd c9 (by decide)) (fun _ => ?_)
  refine lv_iconst (v := nI 1) hx hb dX9_bestTake_36 (by decide) ?_
  refine lv_istore (lv' := [(6, .int (nI 1)), (5, .int (nI 1)), (3, .double FP.dconst0), (2, .int (nI 0)), (0, .ref (ad mo)), (1, .int (nI v))]) hx hb dX9_bestTake_37 hl (by decide) rfl (fun ls hl => ?_)
  refine lv_iload hx hb dX9_bestTake_39 (lv_at hl 0 rfl) ?_
  refine lv_bipush (v := nI 64) hx hb dX9_bestTake_41 (by decide) ?_
  refine lv_icmp_gt (tgt := 101) hx hb dX9_bestTake_43 (by decide) (fun c9 => absurd c9 (by decide)) (fun _ => ?_)
  have hmq1 : Mod G (N) ad (va_up C mo (ob 9 [.int (nI 0), .ref (ad (mo + 1)), .ref (ad (mo + 2)), .ref (ad (mo + 3)), .ref (ad (mo + 4)), .int (nI 0), .ref (ad (mo + 5)), .ref (ad (mo + 6))])) mo dz (nI 0) := ⟨by omega, va_us _ _ _, (va_un _ _ (by omega)).trans (gm1), (va_un _ _ (by omega)).trans (gm2), (va_un _ _ (by omega)).trans (gm3), (va_un _ _ (by omega)).trans (gm4), (va_un _ _ (by omega)).trans (gm5), (va_un _ _ (by omega)).trans (gm6)⟩
  refine sX9_best_0 hx hb hml hts hown hK hV hZ hA hmq1 hv (Nat.le_of_ble_eq_true rfl) (Nat.le_of_ble_eq_true rfl) hP hD hS (lv_sub hl [4, 5, 3, 2, 1, 0] rfl) (fun H locs ls hP hD hS hl => ?_)
  refine W.widen (k := 3) (n := 72) (Nat.le_of_ble_eq_true rfl) (Nat.le_of_ble_eq_true rfl) ?_
  have hl : lv_has ls 9 [(0, .ref (ad mo)), (1, .int (nI v)), (2, .int (nI 17)), (3, .double (absG v)), (5, .int (nI 1)), (6, .int (nI 2))] := hl
  refine lv_iload hx hb dX9_bestTake_39 (lv_at hl 5 rfl) ?_
  refine lv_bipush (v := nI 64) hx hb dX9_bestTake_41 (by decide) ?_
  refine lv_icmp_gt (tgt := 101) hx hb dX9_bestTake_43 (by decide) (fun c9 => absurd c9 (by decide)) (fun _ => ?_)
  refine sX9_best_1 hx hb hml hts hown hK hV hZ hA hmq1 hv (t1 := 2) (g1 := 1) (by decide) (by decide) (Nat.le_of_ble_eq_true rfl) (Nat.le_of_ble_eq_true rfl) hP hD hS (lv_sub hl [0, 1, 2, 3, 4, 5] rfl) (fun H locs ls hP hD hS hl => ?_)
  refine W.widen (k := 6) (n := 144) (Nat.le_of_ble_eq_true rfl) (Nat.le_of_ble_eq_true rfl) ?_
  have hl : lv_has ls 9 [(0, .ref (ad mo)), (1, .int (nI v)), (2, .int (nI 17)), (3, .double (absG v)), (5, .int (nI 1)), (6, .int (nI 4))] := hl
  refine lv_iload hx hb dX9_bestTake_39 (lv_at hl 5 rfl) ?_
  refine lv_bipush (v := nI 64) hx hb dX9_bestTake_41 (by decide) ?_
  refine lv_icmp_gt (tgt := 101) hx hb dX9_bestTake_43 (by decide) (fun c9 => absurd c9 (by decide)) (fun _ => ?_)
  refine sX9_best_1 hx hb hml hts hown hK hV hZ hA hmq1 hv (t1 := 4) (g1 := 1) (by decide) (by decide) (Nat.le_of_ble_eq_true rfl) (Nat.le_of_ble_eq_true rfl) hP hD hS (lv_sub hl [0, 1, 2, 3, 4, 5] rfl) (fun H locs ls hP hD hS hl => ?_)
  refine W.widen (k := 9) (n := 216) (Nat.le_of_ble_eq_true rfl) (Nat.le_of_ble_eq_true rfl) ?_
  have hl : lv_has ls 9 [(0, .ref (ad mo)), (1, .int (nI v)), (2, .int (nI 17)), (3, .double (absG v)), (5, .int (nI 1)), (6, .int (nI 8))] := hl
  refine lv_iload hx hb dX9_bestTake_39 (lv_at hl 5 rfl) ?_
  refine lv_bipush (v := nI 64) hx hb dX9_bestTake_41 (by decide) ?_
  refine lv_icmp_gt (tgt := 101) hx hb dX9_bestTake_43 (by decide) (fun c9 => absurd c9 (by decide)) (fun _ => ?_)
  refine sX9_best_1 hx hb hml hts hown hK hV hZ hA hmq1 hv (t1 := 8) (g1 := 1) (by decide) (by decide) (Nat.le_of_ble_eq_true rfl) (Nat.le_of_ble_eq_true rfl) hP hD hS (lv_sub hl [0, 1, 2, 3, 4, 5] rfl) (fun H locs ls hP hD hS hl => ?_)
  refine W.widen (k := 12) (n := 288) (Nat.le_of_ble_eq_true rfl) (Nat.le_of_ble_eq_true rfl) ?_
  have hl : lv_has ls 9 [(0, .ref (ad mo)), (1, .int (nI v)), (2, .int (nI 17)), (3, .double (absG v)), (5, .int (nI 1)), (6, .int (nI 16))] := hl
  refine lv_iload hx hb dX9_bestTake_39 (lv_at hl 5 rfl) ?_
  refine lv_bipush (v := nI 64) hx hb dX9_bestTake_41 (by decide) ?_
  refine lv_icmp_gt (tgt := 101) hx hb dX9_bestTake_43 (by decide) (fun c9 => absurd c9 (by decide)) (fun _ => ?_)
  refine sX9_best_1 hx hb hml hts hown hK hV hZ hA hmq1 hv (t1 := 16) (g1 := 1) (by decide) (by decide) (Nat.le_of_ble_eq_true rfl) (Nat.le_of_ble_eq_true rfl) hP hD hS (lv_sub hl [0, 1, 2, 3, 4, 5] rfl) (fun H locs ls hP hD hS hl => ?_)
  refine W.widen (k := 15) (n := 360) (Nat.le_of_ble_eq_true rfl) (Nat.le_of_ble_eq_true rfl) ?_
  have hl : lv_has ls 9 [(0, .ref (ad mo)), (1, .int (nI v)), (2, .int (nI 17)), (3, .double (absG v)), (5, .int (nI 1)), (6, .int (nI 32))] := hl
  refine lv_iload hx hb dX9_bestTake_39 (lv_at hl 5 rfl) ?_
  refine lv_bipush (v := nI 64) hx hb dX9_bestTake_41 (by decide) ?_
  refine lv_icmp_gt (tgt := 101) hx hb dX9_bestTake_43 (by decide) (fun c9 => absurd c9 (by decide)) (fun _ => ?_)
  refine sX9_best_1 hx hb hml hts hown hK hV hZ hA hmq1 hv (t1 := 32) (g1 := 1) (by decide) (by decide) (Nat.le_of_ble_eq_true rfl) (Nat.le_of_ble_eq_true rfl) hP hD hS (lv_sub hl [0, 1, 2, 3, 4, 5] rfl) (fun H locs ls hP hD hS hl => ?_)
  refine W.widen (k := 18) (n := 432) (Nat.le_of_ble_eq_true rfl) (Nat.le_of_ble_eq_true rfl) ?_
  have hl : lv_has ls 9 [(0, .ref (ad mo)), (1, .int (nI v)), (2, .int (nI 17)), (3, .double (absG v)), (5, .int (nI 1)), (6, .int (nI 64))] := hl
  refine lv_iload hx hb dX9_bestTake_39 (lv_at hl 5 rfl) ?_
  refine lv_bipush (v := nI 64) hx hb dX9_bestTake_41 (by decide) ?_
  refine lv_icmp_gt (tgt := 101) hx hb dX9_bestTake_43 (by decide) (fun c9 => absurd c9 (by decide)) (fun _ => ?_)
  refine sX9_best_1 hx hb hml hts hown hK hV hZ hA hmq1 hv (t1 := 64) (g1 := 1) (by decide) (by decide) (Nat.le_of_ble_eq_true rfl) (Nat.le_of_ble_eq_true rfl) hP hD hS (lv_sub hl [0, 1, 2, 3, 4, 5] rfl) (fun H locs ls hP hD hS hl => ?_)
  refine W.widen (k := 21) (n := 504) (Nat.le_of_ble_eq_true rfl) (Nat.le_of_ble_eq_true rfl) ?_
  have hl : lv_has ls 9 [(0, .ref (ad mo)), (1, .int (nI v)), (2, .int (nI 17)), (3, .double (absG v)), (5, .int (nI 1)), (6, .int (nI 128))] := hl
  refine lv_iload hx hb dX9_bestTake_39 (lv_at hl 5 rfl) ?_
  refine lv_bipush (v := nI 64) hx hb dX9_bestTake_41 (by decide) ?_
  refine lv_icmp_gt (tgt := 101) hx hb dX9_bestTake_43 (by decide) (fun _ => ?_) (fun c9 => absurd (by decide) c9)
  refine lv_iinc (v := nI 2) (lv' := [(5, .int (nI 2)), (0, .ref (ad mo)), (1, .int (nI v)), (2, .int (nI 17)), (3, .double (absG v)), (6, .int (nI 128))]) hx hb dX9_bestTake_101 hl (k := 4) rfl (iinc_nat _ 1) (by decide) rfl (fun ls hl => ?_)
  refine lv_goto (tgt := 29) hx hb dX9_bestTake_104 (by decide) ?_
  refine lv_iload hx hb dX9_bestTake_29 (lv_at hl 0 rfl) ?_
  refine lv_bipush (v := nI 8) hx hb dX9_bestTake_31 (by decide) ?_
  refine lv_icmp_gt (tgt := 107) hx hb dX9_bestTake_33 (by decide) (fun c9 => absurd c9 (by decide)) (fun _ => ?_)
  refine lv_iconst (v := nI 1) hx hb dX9_bestTake_36 (by decide) ?_
  refine lv_istore (lv' := [(6, .int (nI 1)), (5, .int (nI 2)), (0, .ref (ad mo)), (1, .int (nI v)), (2, .int (nI 17)), (3, .double (absG v))]) hx hb dX9_bestTake_37 hl (by decide) rfl (fun ls hl => ?_)
  refine lv_iload hx hb dX9_bestTake_39 (lv_at hl 0 rfl) ?_
  refine lv_bipush (v := nI 64) hx hb dX9_bestTake_41 (by decide) ?_
  refine lv_icmp_gt (tgt := 101) hx hb dX9_bestTake_43 (by decide) (fun c9 => absurd c9 (by decide)) (fun _ => ?_)
  refine sX9_best_1 hx hb hml hts hown hK hV hZ hA hmq1 hv (t1 := 1) (g1 := 2) (by decide) (by decide) (Nat.le_of_ble_eq_true rfl) (Nat.le_of_ble_eq_true rfl) hP hD hS (lv_sub hl [2, 3, 4, 5, 1, 0] rfl) (fun H locs ls hP hD hS hl => ?_)
  refine W.widen (k := 24) (n := 576) (Nat.le_of_ble_eq_true rfl) (Nat.le_of_ble_eq_true rfl) ?_
  have hl : lv_has ls 9 [(0, .ref (ad mo)), (1, .int (nI v)), (2, .int (nI 17)), (3, .double (absG v)), (5, .int (nI 2)), (6, .int (nI 2))] := hl
  refine lv_iload hx hb dX9_bestTake_39 (lv_at hl 5 rfl) ?_
  refine lv_bipush (v := nI 64) hx hb dX9_bestTake_41 (by decide) ?_
  refine lv_icmp_gt (tgt := 101) hx hb dX9_bestTake_43 (by decide) (fun c9 => absurd c9 (by decide)) (fun _ => ?_)
  refine sX9_best_1 hx hb hml hts hown hK hV hZ hA hmq1 hv (t1 := 2) (g1 := 2) (by decide) (by decide) (Nat.le_of_ble_eq_true rfl) (Nat.le_of_ble_eq_true rfl) hP hD hS (lv_sub hl [0, 1, 2, 3, 4, 5] rfl) (fun H locs ls hP hD hS hl => ?_)
  refine W.widen (k := 27) (n := 648) (Nat.le_of_ble_eq_true rfl) (Nat.le_of_ble_eq_true rfl) ?_
  have hl : lv_has ls 9 [(0, .ref (ad mo)), (1, .int (nI v)), (2, .int (nI 17)), (3, .double (absG v)), (5, .int (nI 2)), (6, .int (nI 4))] := hl
  refine lv_iload hx hb dX9_bestTake_39 (lv_at hl 5 rfl) ?_
  refine lv_bipush (v := nI 64) hx hb dX9_bestTake_41 (by decide) ?_
  refine lv_icmp_gt (tgt := 101) hx hb dX9_bestTake_43 (by decide) (fun c9 => absurd c9 (by decide)) (fun _ => ?_)
  refine sX9_best_1 hx hb hml hts hown hK hV hZ hA hmq1 hv (t1 := 4) (g1 := 2) (by decide) (by decide) (Nat.le_of_ble_eq_true rfl) (Nat.le_of_ble_eq_true rfl) hP hD hS (lv_sub hl [0, 1, 2, 3, 4, 5] rfl) (fun H locs ls hP hD hS hl => ?_)
  refine W.widen (k := 30) (n := 720) (Nat.le_of_ble_eq_true rfl) (Nat.le_of_ble_eq_true rfl) ?_
  have hl : lv_has ls 9 [(0, .ref (ad mo)), (1, .int (nI v)), (2, .int (nI 17)), (3, .double (absG v)), (5, .int (nI 2)), (6, .int (nI 8))] := hl
  refine lv_iload hx hb dX9_bestTake_39 (lv_at hl 5 rfl) ?_
  refine lv_bipush (v := nI 64) hx hb dX9_bestTake_41 (by decide) ?_
  refine lv_icmp_gt (tgt := 101) hx hb dX9_bestTake_43 (by decide) (fun c9 => absurd c9 (by decide)) (fun _ => ?_)
  refine sX9_best_1 hx hb hml hts hown hK hV hZ hA hmq1 hv (t1 := 8) (g1 := 2) (by decide) (by decide) (Nat.le_of_ble_eq_true rfl) (Nat.le_of_ble_eq_true rfl) hP hD hS (lv_sub hl [0, 1, 2, 3, 4, 5] rfl) (fun H locs ls hP hD hS hl => ?_)
  refine W.widen (k := 33) (n := 792) (Nat.le_of_ble_eq_true rfl) (Nat.le_of_ble_eq_true rfl) ?_
  have hl : lv_has ls 9 [(0, .ref (ad mo)), (1, .int (nI v)), (2, .int (nI 17)), (3, .double (absG v)), (5, .int (nI 2)), (6, .int (nI 16))] := hl
  refine lv_iload hx hb dX9_bestTake_39 (lv_at hl 5 rfl) ?_
  refine lv_bipush (v := nI 64) hx hb dX9_bestTake_41 (by decide) ?_
  refine lv_icmp_gt (tgt := 101) hx hb dX9_bestTake_43 (by decide) (fun c9 => absurd c9 (by decide)) (fun _ => ?_)
  refine sX9_best_1 hx hb hml hts hown hK hV hZ hA hmq1 hv (t1 := 16) (g1 := 2) (by decide) (by decide) (Nat.le_of_ble_eq_true rfl) (Nat.le_of_ble_eq_true rfl) hP hD hS (lv_sub hl [0, 1, 2, 3, 4, 5] rfl) (fun H locs ls hP hD hS hl => ?_)
  refine W.widen (k := 36) (n := 864) (Nat.le_of_ble_eq_true rfl) (Nat.le_of_ble_eq_true rfl) ?_
  have hl : lv_has ls 9 [(0, .ref (ad mo)), (1, .int (nI v)), (2, .int (nI 17)), (3, .double (absG v)), (5, .int (nI 2)), (6, .int (nI 32))] := hl
  refine lv_iload hx hb dX9_bestTake_39 (lv_at hl 5 rfl) ?_
  refine lv_bipush (v := nI 64) hx hb dX9_bestTake_41 (by decide) ?_
  refine lv_icmp_gt (tgt := 101) hx hb dX9_bestTake_43 (by decide) (fun c9 => absurd c9 (by decide)) (fun _ => ?_)
  refine sX9_best_1 hx hb hml hts hown hK hV hZ hA hmq1 hv (t1 := 32) (g1 := 2) (by decide) (by decide) (Nat.le_of_ble_eq_true rfl) (Nat.le_of_ble_eq_true rfl) hP hD hS (lv_sub hl [0, 1, 2, 3, 4, 5] rfl) (fun H locs ls hP hD hS hl => ?_)
  refine W.widen (k := 39) (n := 936) (Nat.le_of_ble_eq_true rfl) (Nat.le_of_ble_eq_true rfl) ?_
  have hl : lv_has ls 9 [(0, .ref (ad mo)), (1, .int (nI v)), (2, .int (nI 17)), (3, .double (absG v)), (5, .int (nI 2)), (6, .int (nI 64))] := hl
  refine lv_iload hx hb dX9_bestTake_39 (lv_at hl 5 rfl) ?_
  refine lv_bipush (v := nI 64) hx hb dX9_bestTake_41 (by decide) ?_
  refine lv_icmp_gt (tgt := 101) hx hb dX9_bestTake_43 (by decide) (fun c9 => absurd c9 (by decide)) (fun _ => ?_)
  refine sX9_best_1 hx hb hml hts hown hK hV hZ hA hmq1 hv (t1 := 64) (g1 := 2) (by decide) (by decide) (Nat.le_of_ble_eq_true rfl) (Nat.le_of_ble_eq_true rfl) hP hD hS (lv_sub hl [0, 1, 2, 3, 4, 5] rfl) (fun H locs ls hP hD hS hl => ?_)
  refine W.widen (k := 42) (n := 1008) (Nat.le_of_ble_eq_true rfl) (Nat.le_of_ble_eq_true rfl) ?_
  have hl : lv_has ls 9 [(0, .ref (ad mo)), (1, .int (nI v)), (2, .int (nI 17)), (3, .double (absG v)), (5, .int (nI 2)), (6, .int (nI 128))] := hl
  refine lv_iload hx hb dX9_bestTake_39 (lv_at hl 5 rfl) ?_
  refine lv_bipush (v := nI 64) hx hb dX9_bestTake_41 (by decide) ?_
  refine lv_icmp_gt (tgt := 101) hx hb dX9_bestTake_43 (by decide) (fun _ => ?_) (fun c9 => absurd (by decide) c9)
  refine lv_iinc (v := nI 3) (lv' := [(5, .int (nI 3)), (0, .ref (ad mo)), (1, .int (nI v)), (2, .int (nI 17)), (3, .double (absG v)), (6, .int (nI 128))]) hx hb dX9_bestTake_101 hl (k := 4) rfl (iinc_nat _ 1) (by decide) rfl (fun ls hl => ?_)
  refine lv_goto (tgt := 29) hx hb dX9_bestTake_104 (by decide) ?_
  refine lv_iload hx hb dX9_bestTake_29 (lv_at hl 0 rfl) ?_
  refine lv_bipush (v := nI 8) hx hb dX9_bestTake_31 (by decide) ?_
  refine lv_icmp_gt (tgt := 107) hx hb dX9_bestTake_33 (by decide) (fun c9 => absurd c9 (by decide)) (fun _ => ?_)
  refine lv_iconst (v := nI 1) hx hb dX9_bestTake_36 (by decide) ?_
  refine lv_istore (lv' := [(6, .int (nI 1)), (5, .int (nI 3)), (0, .ref (ad mo)), (1, .int (nI v)), (2, .int (nI 17)), (3, .double (absG v))]) hx hb dX9_bestTake_37 hl (by decide) rfl (fun ls hl => ?_)
  refine lv_iload hx hb dX9_bestTake_39 (lv_at hl 0 rfl) ?_
  refine lv_bipush (v := nI 64) hx hb dX9_bestTake_41 (by decide) ?_
  refine lv_icmp_gt (tgt := 101) hx hb dX9_bestTake_43 (by decide) (fun c9 => absurd c9 (by decide)) (fun _ => ?_)
  refine sX9_best_1 hx hb hml hts hown hK hV hZ hA hmq1 hv (t1 := 1) (g1 := 3) (by decide) (by decide) (Nat.le_of_ble_eq_true rfl) (Nat.le_of_ble_eq_true rfl) hP hD hS (lv_sub hl [2, 3, 4, 5, 1, 0] rfl) (fun H locs ls hP hD hS hl => ?_)
  refine W.widen (k := 45) (n := 1080) (Nat.le_of_ble_eq_true rfl) (Nat.le_of_ble_eq_true rfl) ?_
  have hl : lv_has ls 9 [(0, .ref (ad mo)), (1, .int (nI v)), (2, .int (nI 17)), (3, .double (absG v)), (5, .int (nI 3)), (6, .int (nI 2))] := hl
  refine lv_iload hx hb dX9_bestTake_39 (lv_at hl 5 rfl) ?_
  refine lv_bipush (v := nI 64) hx hb dX9_bestTake_41 (by decide) ?_
  refine lv_icmp_gt (tgt := 101) hx hb dX9_bestTake_43 (by decide) (fun c9 => absurd c9 (by decide)) (fun _ => ?_)
  refine sX9_best_1 hx hb hml hts hown hK hV hZ hA hmq1 hv (t1 := 2) (g1 := 3) (by decide) (by decide) (Nat.le_of_ble_eq_true rfl) (Nat.le_of_ble_eq_true rfl) hP hD hS (lv_sub hl [0, 1, 2, 3, 4, 5] rfl) (fun H locs ls hP hD hS hl => ?_)
  refine W.widen (k := 48) (n := 1152) (Nat.le_of_ble_eq_true rfl) (Nat.le_of_ble_eq_true rfl) ?_
  have hl : lv_has ls 9 [(0, .ref (ad mo)), (1, .int (nI v)), (2, .int (nI 17)), (3, .double (absG v)), (5, .int (nI 3)), (6, .int (nI 4))] := hl
  refine lv_iload hx hb dX9_bestTake_39 (lv_at hl 5 rfl) ?_
  refine lv_bipush (v := nI 64) hx hb dX9_bestTake_41 (by decide) ?_
  refine lv_icmp_gt (tgt := 101) hx hb dX9_bestTake_43 (by decide) (fun c9 => absurd c9 (by decide)) (fun _ => ?_)
  refine sX9_best_1 hx hb hml hts hown hK hV hZ hA hmq1 hv (t1 := 4) (g1 := 3) (by decide) (by decide) (Nat.le_of_ble_eq_true rfl) (Nat.le_of_ble_eq_true rfl) hP hD hS (lv_sub hl [0, 1, 2, 3, 4, 5] rfl) (fun H locs ls hP hD hS hl => ?_)
  refine W.widen (k := 51) (n := 1224) (Nat.le_of_ble_eq_true rfl) (Nat.le_of_ble_eq_true rfl) ?_
  have hl : lv_has ls 9 [(0, .ref (ad mo)), (1, .int (nI v)), (2, .int (nI 17)), (3, .double (absG v)), (5, .int (nI 3)), (6, .int (nI 8))] := hl
  refine lv_iload hx hb dX9_bestTake_39 (lv_at hl 5 rfl) ?_
  refine lv_bipush (v := nI 64) hx hb dX9_bestTake_41 (by decide) ?_
  refine lv_icmp_gt (tgt := 101) hx hb dX9_bestTake_43 (by decide) (fun c9 => absurd c9 (by decide)) (fun _ => ?_)
  refine sX9_best_1 hx hb hml hts hown hK hV hZ hA hmq1 hv (t1 := 8) (g1 := 3) (by decide) (by decide) (Nat.le_of_ble_eq_true rfl) (Nat.le_of_ble_eq_true rfl) hP hD hS (lv_sub hl [0, 1, 2, 3, 4, 5] rfl) (fun H locs ls hP hD hS hl => ?_)
  refine W.widen (k := 54) (n := 1296) (Nat.le_of_ble_eq_true rfl) (Nat.le_of_ble_eq_true rfl) ?_
  have hl : lv_has ls 9 [(0, .ref (ad mo)), (1, .int (nI v)), (2, .int (nI 17)), (3, .double (absG v)), (5, .int (nI 3)), (6, .int (nI 16))] := hl
  refine lv_iload hx hb dX9_bestTake_39 (lv_at hl 5 rfl) ?_
  refine lv_bipush (v := nI 64) hx hb dX9_bestTake_41 (by decide) ?_
  refine lv_icmp_gt (tgt := 101) hx hb dX9_bestTake_43 (by decide) (fun c9 => absurd c9 (by decide)) (fun _ => ?_)
  refine sX9_best_1 hx hb hml hts hown hK hV hZ hA hmq1 hv (t1 := 16) (g1 := 3) (by decide) (by decide) (Nat.le_of_ble_eq_true rfl) (Nat.le_of_ble_eq_true rfl) hP hD hS (lv_sub hl [0, 1, 2, 3, 4, 5] rfl) (fun H locs ls hP hD hS hl => ?_)
  refine W.widen (k := 57) (n := 1368) (Nat.le_of_ble_eq_true rfl) (Nat.le_of_ble_eq_true rfl) ?_
  have hl : lv_has ls 9 [(0, .ref (ad mo)), (1, .int (nI v)), (2, .int (nI 17)), (3, .double (absG v)), (5, .int (nI 3)), (6, .int (nI 32))] := hl
  refine lv_iload hx hb dX9_bestTake_39 (lv_at hl 5 rfl) ?_
  refine lv_bipush (v := nI 64) hx hb dX9_bestTake_41 (by decide) ?_
  refine lv_icmp_gt (tgt := 101) hx hb dX9_bestTake_43 (by decide) (fun c9 => absurd c9 (by decide)) (fun _ => ?_)
  refine sX9_best_1 hx hb hml hts hown hK hV hZ hA hmq1 hv (t1 := 32) (g1 := 3) (by decide) (by decide) (Nat.le_of_ble_eq_true rfl) (Nat.le_of_ble_eq_true rfl) hP hD hS (lv_sub hl [0, 1, 2, 3, 4, 5] rfl) (fun H locs ls hP hD hS hl => ?_)
  refine W.widen (k := 60) (n := 1440) (Nat.le_of_ble_eq_true rfl) (Nat.le_of_ble_eq_true rfl) ?_
  have hl : lv_has ls 9 [(0, .ref (ad mo)), (1, .int (nI v)), (2, .int (nI 17)), (3, .double (absG v)), (5, .int (nI 3)), (6, .int (nI 64))] := hl
  refine lv_iload hx hb dX9_bestTake_39 (lv_at hl 5 rfl) ?_
  refine lv_bipush (v := nI 64) hx hb dX9_bestTake_41 (by decide) ?_
  refine lv_icmp_gt (tgt := 101) hx hb dX9_bestTake_43 (by decide) (fun c9 => absurd c9 (by decide)) (fun _ => ?_)
  refine sX9_best_1 hx hb hml hts hown hK hV hZ hA hmq1 hv (t1 := 64) (g1 := 3) (by decide) (by decide) (Nat.le_of_ble_eq_true rfl) (Nat.le_of_ble_eq_true rfl) hP hD hS (lv_sub hl [0, 1, 2, 3, 4, 5] rfl) (fun H locs ls hP hD hS hl => ?_)
  refine W.widen (k := 63) (n := 1512) (Nat.le_of_ble_eq_true rfl) (Nat.le_of_ble_eq_true rfl) ?_
  have hl : lv_has ls 9 [(0, .ref (ad mo)), (1, .int (nI v)), (2, .int (nI 17)), (3, .double (absG v)), (5, .int (nI 3)), (6, .int (nI 128))] := hl
  refine lv_iload hx hb dX9_bestTake_39 (lv_at hl 5 rfl) ?_
  refine lv_bipush (v := nI 64) hx hb dX9_bestTake_41 (by decide) ?_
  refine lv_icmp_gt (tgt := 101) hx hb dX9_bestTake_43 (by decide) (fun _ => ?_) (fun c9 => absurd (by decide) c9)
  refine lv_iinc (v := nI 4) (lv' := [(5, .int (nI 4)), (0, .ref (ad mo)), (1, .int (nI v)), (2, .int (nI 17)), (3, .double (absG v)), (6, .int (nI 128))]) hx hb dX9_bestTake_101 hl (k := 4) rfl (iinc_nat _ 1) (by decide) rfl (fun ls hl => ?_)
  refine lv_goto (tgt := 29) hx hb dX9_bestTake_104 (by decide) ?_
  refine lv_iload hx hb dX9_bestTake_29 (lv_at hl 0 rfl) ?_
  refine lv_bipush (v := nI 8) hx hb dX9_bestTake_31 (by decide) ?_
  refine lv_icmp_gt (tgt := 107) hx hb dX9_bestTake_33 (by decide) (fun c9 => absurd c9 (by decide)) (fun _ => ?_)
  refine lv_iconst (v := nI 1) hx hb dX9_bestTake_36 (by decide) ?_
  refine lv_istore (lv' := [(6, .int (nI 1)), (5, .int (nI 4)), (0, .ref (ad mo)), (1, .int (nI v)), (2, .int (nI 17)), (3, .double (absG v))]) hx hb dX9_bestTake_37 hl (by decide) rfl (fun ls hl => ?_)
  refine lv_iload hx hb dX9_bestTake_39 (lv_at hl 0 rfl) ?_
  refine lv_bipush (v := nI 64) hx hb dX9_bestTake_41 (by decide) ?_
  refine lv_icmp_gt (tgt := 101) hx hb dX9_bestTake_43 (by decide) (fun c9 => absurd c9 (by decide)) (fun _ => ?_)
  refine sX9_best_1 hx hb hml hts hown hK hV hZ hA hmq1 hv (t1 := 1) (g1 := 4) (by decide) (by decide) (Nat.le_of_ble_eq_true rfl) (Nat.le_of_ble_eq_true rfl) hP hD hS (lv_sub hl [2, 3, 4, 5, 1, 0] rfl) (fun H locs ls hP hD hS hl => ?_)
  refine W.widen (k := 66) (n := 1584) (Nat.le_of_ble_eq_true rfl) (Nat.le_of_ble_eq_true rfl) ?_
  have hl : lv_has ls 9 [(0, .ref (ad mo)), (1, .int (nI v)), (2, .int (nI 17)), (3, .double (absG v)), (5, .int (nI 4)), (6, .int (nI 2))] := hl
  refine lv_iload hx hb dX9_bestTake_39 (lv_at hl 5 rfl) ?_
  refine lv_bipush (v := nI 64) hx hb dX9_bestTake_41 (by decide) ?_
  refine lv_icmp_gt (tgt := 101) hx hb dX9_bestTake_43 (by decide) (fun c9 => absurd c9 (by decide)) (fun _ => ?_)
  refine sX9_best_1 hx hb hml hts hown hK hV hZ hA hmq1 hv (t1 := 2) (g1 := 4) (by decide) (by decide) (Nat.le_of_ble_eq_true rfl) (Nat.le_of_ble_eq_true rfl) hP hD hS (lv_sub hl [0, 1, 2, 3, 4, 5] rfl) (fun H locs ls hP hD hS hl => ?_)
  refine W.widen (k := 69) (n := 1656) (Nat.le_of_ble_eq_true rfl) (Nat.le_of_ble_eq_true rfl) ?_
  have hl : lv_has ls 9 [(0, .ref (ad mo)), (1, .int (nI v)), (2, .int (nI 17)), (3, .double (absG v)), (5, .int (nI 4)), (6, .int (nI 4))] := hl
  refine lv_iload hx hb dX9_bestTake_39 (lv_at hl 5 rfl) ?_
  refine lv_bipush (v := nI 64) hx hb dX9_bestTake_41 (by decide) ?_
  refine lv_icmp_gt (tgt := 101) hx hb dX9_bestTake_43 (by decide) (fun c9 => absurd c9 (by decide)) (fun _ => ?_)
  refine sX9_best_1 hx hb hml hts hown hK hV hZ hA hmq1 hv (t1 := 4) (g1 := 4) (by decide) (by decide) (Nat.le_of_ble_eq_true rfl) (Nat.le_of_ble_eq_true rfl) hP hD hS (lv_sub hl [0, 1, 2, 3, 4, 5] rfl) (fun H locs ls hP hD hS hl => ?_)
  refine W.widen (k := 72) (n := 1728) (Nat.le_of_ble_eq_true rfl) (Nat.le_of_ble_eq_true rfl) ?_
  have hl : lv_has ls 9 [(0, .ref (ad mo)), (1, .int (nI v)), (2, .int (nI 17)), (3, .double (absG v)), (5, .int (nI 4)), (6, .int (nI 8))] := hl
  refine lv_iload hx hb dX9_bestTake_39 (lv_at hl 5 rfl) ?_
  refine lv_bipush (v := nI 64) hx hb dX9_bestTake_41 (by decide) ?_
  refine lv_icmp_gt (tgt := 101) hx hb dX9_bestTake_43 (by decide) (fun c9 => absurd c9 (by decide)) (fun _ => ?_)
  refine sX9_best_1 hx hb hml hts hown hK hV hZ hA hmq1 hv (t1 := 8) (g1 := 4) (by decide) (by decide) (Nat.le_of_ble_eq_true rfl) (Nat.le_of_ble_eq_true rfl) hP hD hS (lv_sub hl [0, 1, 2, 3, 4, 5] rfl) (fun H locs ls hP hD hS hl => ?_)
  refine W.widen (k := 75) (n := 1800) (Nat.le_of_ble_eq_true rfl) (Nat.le_of_ble_eq_true rfl) ?_
  have hl : lv_has ls 9 [(0, .ref (ad mo)), (1, .int (nI v)), (2, .int (nI 17)), (3, .double (absG v)), (5, .int (nI 4)), (6, .int (nI 16))] := hl
  refine lv_iload hx hb dX9_bestTake_39 (lv_at hl 5 rfl) ?_
  refine lv_bipush (v := nI 64) hx hb dX9_bestTake_41 (by decide) ?_
  refine lv_icmp_gt (tgt := 101) hx hb dX9_bestTake_43 (by decide) (fun c9 => absurd c9 (by decide)) (fun _ => ?_)
  refine sX9_best_1 hx hb hml hts hown hK hV hZ hA hmq1 hv (t1 := 16) (g1 := 4) (by decide) (by decide) (Nat.le_of_ble_eq_true rfl) (Nat.le_of_ble_eq_true rfl) hP hD hS (lv_sub hl [0, 1, 2, 3, 4, 5] rfl) (fun H locs ls hP hD hS hl => ?_)
  refine W.widen (k := 78) (n := 1872) (Nat.le_of_ble_eq_true rfl) (Nat.le_of_ble_eq_true rfl) ?_
  have hl : lv_has ls 9 [(0, .ref (ad mo)), (1, .int (nI v)), (2, .int (nI 17)), (3, .double (absG v)), (5, .int (nI 4)), (6, .int (nI 32))] := hl
  refine lv_iload hx hb dX9_bestTake_39 (lv_at hl 5 rfl) ?_
  refine lv_bipush (v := nI 64) hx hb dX9_bestTake_41 (by decide) ?_
  refine lv_icmp_gt (tgt := 101) hx hb dX9_bestTake_43 (by decide) (fun c9 => absurd c9 (by decide)) (fun _ => ?_)
  refine sX9_best_1 hx hb hml hts hown hK hV hZ hA hmq1 hv (t1 := 32) (g1 := 4) (by decide) (by decide) (Nat.le_of_ble_eq_true rfl) (Nat.le_of_ble_eq_true rfl) hP hD hS (lv_sub hl [0, 1, 2, 3, 4, 5] rfl) (fun H locs ls hP hD hS hl => ?_)
  refine W.widen (k := 81) (n := 1944) (Nat.le_of_ble_eq_true rfl) (Nat.le_of_ble_eq_true rfl) ?_
  have hl : lv_has ls 9 [(0, .ref (ad mo)), (1, .int (nI v)), (2, .int (nI 17)), (3, .double (absG v)), (5, .int (nI 4)), (6, .int (nI 64))] := hl
  refine lv_iload hx hb dX9_bestTake_39 (lv_at hl 5 rfl) ?_
  refine lv_bipush (v := nI 64) hx hb dX9_bestTake_41 (by decide) ?_
  refine lv_icmp_gt (tgt := 101) hx hb dX9_bestTake_43 (by decide) (fun c9 => absurd c9 (by decide)) (fun _ => ?_)
  refine sX9_best_1 hx hb hml hts hown hK hV hZ hA hmq1 hv (t1 := 64) (g1 := 4) (by decide) (by decide) (Nat.le_of_ble_eq_true rfl) (Nat.le_of_ble_eq_true rfl) hP hD hS (lv_sub hl [0, 1, 2, 3, 4, 5] rfl) (fun H locs ls hP hD hS hl => ?_)
  refine W.widen (k := 84) (n := 2016) (Nat.le_of_ble_eq_true rfl) (Nat.le_of_ble_eq_true rfl) ?_
  have hl : lv_has ls 9 [(0, .ref (ad mo)), (1, .int (nI v)), (2, .int (nI 17)), (3, .double (absG v)), (5, .int (nI 4)), (6, .int (nI 128))] := hl
  refine lv_iload hx hb dX9_bestTake_39 (lv_at hl 5 rfl) ?_
  refine lv_bipush (v := nI 64) hx hb dX9_bestTake_41 (by decide) ?_
  refine lv_icmp_gt (tgt := 101) hx hb dX9_bestTake_43 (by decide) (fun _ => ?_) (fun c9 => absurd (by decide) c9)
  refine lv_iinc (v := nI 5) (lv' := [(5, .int (nI 5)), (0, .ref (ad mo)), (1, .int (nI v)), (2, .int (nI 17)), (3, .double (absG v)), (6, .int (nI 128))]) hx hb dX9_bestTake_101 hl (k := 4) rfl (iinc_nat _ 1) (by decide) rfl (fun ls hl => ?_)
  refine lv_goto (tgt := 29) hx hb dX9_bestTake_104 (by decide) ?_
  refine lv_iload hx hb dX9_bestTake_29 (lv_at hl 0 rfl) ?_
  refine lv_bipush (v := nI 8) hx hb dX9_bestTake_31 (by decide) ?_
  refine lv_icmp_gt (tgt := 107) hx hb dX9_bestTake_33 (by decide) (fun c9 => absurd c9 (by decide)) (fun _ => ?_)
  refine lv_iconst (v := nI 1) hx hb dX9_bestTake_36 (by decide) ?_
  refine lv_istore (lv' := [(6, .int (nI 1)), (5, .int (nI 5)), (0, .ref (ad mo)), (1, .int (nI v)), (2, .int (nI 17)), (3, .double (absG v))]) hx hb dX9_bestTake_37 hl (by decide) rfl (fun ls hl => ?_)
  refine lv_iload hx hb dX9_bestTake_39 (lv_at hl 0 rfl) ?_
  refine lv_bipush (v := nI 64) hx hb dX9_bestTake_41 (by decide) ?_
  refine lv_icmp_gt (tgt := 101) hx hb dX9_bestTake_43 (by decide) (fun c9 => absurd c9 (by decide)) (fun _ => ?_)
  refine sX9_best_1 hx hb hml hts hown hK hV hZ hA hmq1 hv (t1 := 1) (g1 := 5) (by decide) (by decide) (Nat.le_of_ble_eq_true rfl) (Nat.le_of_ble_eq_true rfl) hP hD hS (lv_sub hl [2, 3, 4, 5, 1, 0] rfl) (fun H locs ls hP hD hS hl => ?_)
  refine W.widen (k := 87) (n := 2088) (Nat.le_of_ble_eq_true rfl) (Nat.le_of_ble_eq_true rfl) ?_
  have hl : lv_has ls 9 [(0, .ref (ad mo)), (1, .int (nI v)), (2, .int (nI 17)), (3, .double (absG v)), (5, .int (nI 5)), (6, .int (nI 2))] := hl
  refine lv_iload hx hb dX9_bestTake_39 (lv_at hl 5 rfl) ?_
  refine lv_bipush (v := nI 64) hx hb dX9_bestTake_41 (by decide) ?_
  refine lv_icmp_gt (tgt := 101) hx hb dX9_bestTake_43 (by decide) (fun c9 => absurd c9 (by decide)) (fun _ => ?_)
  refine sX9_best_1 hx hb hml hts hown hK hV hZ hA hmq1 hv (t1 := 2) (g1 := 5) (by decide) (by decide) (Nat.le_of_ble_eq_true rfl) (Nat.le_of_ble_eq_true rfl) hP hD hS (lv_sub hl [0, 1, 2, 3, 4, 5] rfl) (fun H locs ls hP hD hS hl => ?_)
  refine W.widen (k := 90) (n := 2160) (Nat.le_of_ble_eq_true rfl) (Nat.le_of_ble_eq_true rfl) ?_
  have hl : lv_has ls 9 [(0, .ref (ad mo)), (1, .int (nI v)), (2, .int (nI 17)), (3, .double (absG v)), (5, .int (nI 5)), (6, .int (nI 4))] := hl
  refine lv_iload hx hb dX9_bestTake_39 (lv_at hl 5 rfl) ?_
  refine lv_bipush (v := nI 64) hx hb dX9_bestTake_41 (by decide) ?_
  refine lv_icmp_gt (tgt := 101) hx hb dX9_bestTake_43 (by decide) (fun c9 => absurd c9 (by decide)) (fun _ => ?_)
  refine sX9_best_1 hx hb hml hts hown hK hV hZ hA hmq1 hv (t1 := 4) (g1 := 5) (by decide) (by decide) (Nat.le_of_ble_eq_true rfl) (Nat.le_of_ble_eq_true rfl) hP hD hS (lv_sub hl [0, 1, 2, 3, 4, 5] rfl) (fun H locs ls hP hD hS hl => ?_)
  refine W.widen (k := 93) (n := 2232) (Nat.le_of_ble_eq_true rfl) (Nat.le_of_ble_eq_true rfl) ?_
  have hl : lv_has ls 9 [(0, .ref (ad mo)), (1, .int (nI v)), (2, .int (nI 17)), (3, .double (absG v)), (5, .int (nI 5)), (6, .int (nI 8))] := hl
  refine lv_iload hx hb dX9_bestTake_39 (lv_at hl 5 rfl) ?_
  refine lv_bipush (v := nI 64) hx hb dX9_bestTake_41 (by decide) ?_
  refine lv_icmp_gt (tgt := 101) hx hb dX9_bestTake_43 (by decide) (fun c9 => absurd c9 (by decide)) (fun _ => ?_)
  refine sX9_best_1 hx hb hml hts hown hK hV hZ hA hmq1 hv (t1 := 8) (g1 := 5) (by decide) (by decide) (Nat.le_of_ble_eq_true rfl) (Nat.le_of_ble_eq_true rfl) hP hD hS (lv_sub hl [0, 1, 2, 3, 4, 5] rfl) (fun H locs ls hP hD hS hl => ?_)
  refine W.widen (k := 96) (n := 2304) (Nat.le_of_ble_eq_true rfl) (Nat.le_of_ble_eq_true rfl) ?_
  have hl : lv_has ls 9 [(0, .ref (ad mo)), (1, .int (nI v)), (2, .int (nI 17)), (3, .double (absG v)), (5, .int (nI 5)), (6, .int (nI 16))] := hl
  refine lv_iload hx hb dX9_bestTake_39 (lv_at hl 5 rfl) ?_
  refine lv_bipush (v := nI 64) hx hb dX9_bestTake_41 (by decide) ?_
  refine lv_icmp_gt (tgt := 101) hx hb dX9_bestTake_43 (by decide) (fun c9 => absurd c9 (by decide)) (fun _ => ?_)
  refine sX9_best_1 hx hb hml hts hown hK hV hZ hA hmq1 hv (t1 := 16) (g1 := 5) (by decide) (by decide) (Nat.le_of_ble_eq_true rfl) (Nat.le_of_ble_eq_true rfl) hP hD hS (lv_sub hl [0, 1, 2, 3, 4, 5] rfl) (fun H locs ls hP hD hS hl => ?_)
  refine W.widen (k := 99) (n := 2376) (Nat.le_of_ble_eq_true rfl) (Nat.le_of_ble_eq_true rfl) ?_
  have hl : lv_has ls 9 [(0, .ref (ad mo)), (1, .int (nI v)), (2, .int (nI 17)), (3, .double (absG v)), (5, .int (nI 5)), (6, .int (nI 32))] := hl
  refine lv_iload hx hb dX9_bestTake_39 (lv_at hl 5 rfl) ?_
  refine lv_bipush (v := nI 64) hx hb dX9_bestTake_41 (by decide) ?_
  refine lv_icmp_gt (tgt := 101) hx hb dX9_bestTake_43 (by decide) (fun c9 => absurd c9 (by decide)) (fun _ => ?_)
  refine sX9_best_1 hx hb hml hts hown hK hV hZ hA hmq1 hv (t1 := 32) (g1 := 5) (by decide) (by decide) (Nat.le_of_ble_eq_true rfl) (Nat.le_of_ble_eq_true rfl) hP hD hS (lv_sub hl [0, 1, 2, 3, 4, 5] rfl) (fun H locs ls hP hD hS hl => ?_)
  refine W.widen (k := 102) (n := 2448) (Nat.le_of_ble_eq_true rfl) (Nat.le_of_ble_eq_true rfl) ?_
  have hl : lv_has ls 9 [(0, .ref (ad mo)), (1, .int (nI v)), (2, .int (nI 17)), (3, .double (absG v)), (5, .int (nI 5)), (6, .int (nI 64))] := hl
  refine lv_iload hx hb dX9_bestTake_39 (lv_at hl 5 rfl) ?_
  refine lv_bipush (v := nI 64) hx hb dX9_bestTake_41 (by decide) ?_
  refine lv_icmp_gt (tgt := 101) hx hb dX9_bestTake_43 (by decide) (fun c9 => absurd c9 (by decide)) (fun _ => ?_)
  refine sX9_best_1 hx hb hml hts hown hK hV hZ hA hmq1 hv (t1 := 64) (g1 := 5) (by decide) (by decide) (Nat.le_of_ble_eq_true rfl) (Nat.le_of_ble_eq_true rfl) hP hD hS (lv_sub hl [0, 1, 2, 3, 4, 5] rfl) (fun H locs ls hP hD hS hl => ?_)
  refine W.widen (k := 105) (n := 2520) (Nat.le_of_ble_eq_true rfl) (Nat.le_of_ble_eq_true rfl) ?_
  have hl : lv_has ls 9 [(0, .ref (ad mo)), (1, .int (nI v)), (2, .int (nI 17)), (3, .double (absG v)), (5, .int (nI 5)), (6, .int (nI 128))] := hl
  refine lv_iload hx hb dX9_bestTake_39 (lv_at hl 5 rfl) ?_
  refine lv_bipush (v := nI 64) hx hb dX9_bestTake_41 (by decide) ?_
  refine lv_icmp_gt (tgt := 101) hx hb dX9_bestTake_43 (by decide) (fun _ => ?_) (fun c9 => absurd (by decide) c9)
  refine lv_iinc (v := nI 6) (lv' := [(5, .int (nI 6)), (0, .ref (ad mo)), (1, .int (nI v)), (2, .int (nI 17)), (3, .double (absG v)), (6, .int (nI 128))]) hx hb dX9_bestTake_101 hl (k := 4) rfl (iinc_nat _ 1) (by decide) rfl (fun ls hl => ?_)
  refine lv_goto (tgt := 29) hx hb dX9_bestTake_104 (by decide) ?_
  refine lv_iload hx hb dX9_bestTake_29 (lv_at hl 0 rfl) ?_
  refine lv_bipush (v := nI 8) hx hb dX9_bestTake_31 (by decide) ?_
  refine lv_icmp_gt (tgt := 107) hx hb dX9_bestTake_33 (by decide) (fun c9 => absurd c9 (by decide)) (fun _ => ?_)
  refine lv_iconst (v := nI 1) hx hb dX9_bestTake_36 (by decide) ?_
  refine lv_istore (lv' := [(6, .int (nI 1)), (5, .int (nI 6)), (0, .ref (ad mo)), (1, .int (nI v)), (2, .int (nI 17)), (3, .double (absG v))]) hx hb dX9_bestTake_37 hl (by decide) rfl (fun ls hl => ?_)
  refine lv_iload hx hb dX9_bestTake_39 (lv_at hl 0 rfl) ?_
  refine lv_bipush (v := nI 64) hx hb dX9_bestTake_41 (by decide) ?_
  refine lv_icmp_gt (tgt := 101) hx hb dX9_bestTake_43 (by decide) (fun c9 => absurd c9 (by decide)) (fun _ => ?_)
  refine sX9_best_1 hx hb hml hts hown hK hV hZ hA hmq1 hv (t1 := 1) (g1 := 6) (by decide) (by decide) (Nat.le_of_ble_eq_true rfl) (Nat.le_of_ble_eq_true rfl) hP hD hS (lv_sub hl [2, 3, 4, 5, 1, 0] rfl) (fun H locs ls hP hD hS hl => ?_)
  refine W.widen (k := 108) (n := 2592) (Nat.le_of_ble_eq_true rfl) (Nat.le_of_ble_eq_true rfl) ?_
  have hl : lv_has ls 9 [(0, .ref (ad mo)), (1, .int (nI v)), (2, .int (nI 17)), (3, .double (absG v)), (5, .int (nI 6)), (6, .int (nI 2))] := hl
  refine lv_iload hx hb dX9_bestTake_39 (lv_at hl 5 rfl) ?_
  refine lv_bipush (v := nI 64) hx hb dX9_bestTake_41 (by decide) ?_
  refine lv_icmp_gt (tgt := 101) hx hb dX9_bestTake_43 (by decide) (fun c9 => absurd c9 (by decide)) (fun _ => ?_)
  refine sX9_best_1 hx hb hml hts hown hK hV hZ hA hmq1 hv (t1 := 2) (g1 := 6) (by decide) (by decide) (Nat.le_of_ble_eq_true rfl) (Nat.le_of_ble_eq_true rfl) hP hD hS (lv_sub hl [0, 1, 2, 3, 4, 5] rfl) (fun H locs ls hP hD hS hl => ?_)
  refine W.widen (k := 111) (n := 2664) (Nat.le_of_ble_eq_true rfl) (Nat.le_of_ble_eq_true rfl) ?_
  have hl : lv_has ls 9 [(0, .ref (ad mo)), (1, .int (nI v)), (2, .int (nI 17)), (3, .double (absG v)), (5, .int (nI 6)), (6, .int (nI 4))] := hl
  refine lv_iload hx hb dX9_bestTake_39 (lv_at hl 5 rfl) ?_
  refine lv_bipush (v := nI 64) hx hb dX9_bestTake_41 (by decide) ?_
  refine lv_icmp_gt (tgt := 101) hx hb dX9_bestTake_43 (by decide) (fun c9 => absurd c9 (by decide)) (fun _ => ?_)
  refine sX9_best_1 hx hb hml hts hown hK hV hZ hA hmq1 hv (t1 := 4) (g1 := 6) (by decide) (by decide) (Nat.le_of_ble_eq_true rfl) (Nat.le_of_ble_eq_true rfl) hP hD hS (lv_sub hl [0, 1, 2, 3, 4, 5] rfl) (fun H locs ls hP hD hS hl => ?_)
  refine W.widen (k := 114) (n := 2736) (Nat.le_of_ble_eq_true rfl) (Nat.le_of_ble_eq_true rfl) ?_
  have hl : lv_has ls 9 [(0, .ref (ad mo)), (1, .int (nI v)), (2, .int (nI 17)), (3, .double (absG v)), (5, .int (nI 6)), (6, .int (nI 8))] := hl
  refine lv_iload hx hb dX9_bestTake_39 (lv_at hl 5 rfl) ?_
  refine lv_bipush (v := nI 64) hx hb dX9_bestTake_41 (by decide) ?_
  refine lv_icmp_gt (tgt := 101) hx hb dX9_bestTake_43 (by decide) (fun c9 => absurd c9 (by decide)) (fun _ => ?_)
  refine sX9_best_1 hx hb hml hts hown hK hV hZ hA hmq1 hv (t1 := 8) (g1 := 6) (by decide) (by decide) (Nat.le_of_ble_eq_true rfl) (Nat.le_of_ble_eq_true rfl) hP hD hS (lv_sub hl [0, 1, 2, 3, 4, 5] rfl) (fun H locs ls hP hD hS hl => ?_)
  refine W.widen (k := 117) (n := 2808) (Nat.le_of_ble_eq_true rfl) (Nat.le_of_ble_eq_true rfl) ?_
  have hl : lv_has ls 9 [(0, .ref (ad mo)), (1, .int (nI v)), (2, .int (nI 17)), (3, .double (absG v)), (5, .int (nI 6)), (6, .int (nI 16))] := hl
  refine lv_iload hx hb dX9_bestTake_39 (lv_at hl 5 rfl) ?_
  refine lv_bipush (v := nI 64) hx hb dX9_bestTake_41 (by decide) ?_
  refine lv_icmp_gt (tgt := 101) hx hb dX9_bestTake_43 (by decide) (fun c9 => absurd c9 (by decide)) (fun _ => ?_)
  refine sX9_best_1 hx hb hml hts hown hK hV hZ hA hmq1 hv (t1 := 16) (g1 := 6) (by decide) (by decide) (Nat.le_of_ble_eq_true rfl) (Nat.le_of_ble_eq_true rfl) hP hD hS (lv_sub hl [0, 1, 2, 3, 4, 5] rfl) (fun H locs ls hP hD hS hl => ?_)
  refine W.widen (k := 120) (n := 2880) (Nat.le_of_ble_eq_true rfl) (Nat.le_of_ble_eq_true rfl) ?_
  have hl : lv_has ls 9 [(0, .ref (ad mo)), (1, .int (nI v)), (2, .int (nI 17)), (3, .double (absG v)), (5, .int (nI 6)), (6, .int (nI 32))] := hl
  refine lv_iload hx hb dX9_bestTake_39 (lv_at hl 5 rfl) ?_
  refine lv_bipush (v := nI 64) hx hb dX9_bestTake_41 (by decide) ?_
  refine lv_icmp_gt (tgt := 101) hx hb dX9_bestTake_43 (by decide) (fun c9 => absurd c9 (by decide)) (fun _ => ?_)
  refine sX9_best_1 hx hb hml hts hown hK hV hZ hA hmq1 hv (t1 := 32) (g1 := 6) (by decide) (by decide) (Nat.le_of_ble_eq_true rfl) (Nat.le_of_ble_eq_true rfl) hP hD hS (lv_sub hl [0, 1, 2, 3, 4, 5] rfl) (fun H locs ls hP hD hS hl => ?_)
  refine W.widen (k := 123) (n := 2952) (Nat.le_of_ble_eq_true rfl) (Nat.le_of_ble_eq_true rfl) ?_
  have hl : lv_has ls 9 [(0, .ref (ad mo)), (1, .int (nI v)), (2, .int (nI 17)), (3, .double (absG v)), (5, .int (nI 6)), (6, .int (nI 64))] := hl
  refine lv_iload hx hb dX9_bestTake_39 (lv_at hl 5 rfl) ?_
  refine lv_bipush (v := nI 64) hx hb dX9_bestTake_41 (by decide) ?_
  refine lv_icmp_gt (tgt := 101) hx hb dX9_bestTake_43 (by decide) (fun c9 => absurd c9 (by decide)) (fun _ => ?_)
  refine sX9_best_1 hx hb hml hts hown hK hV hZ hA hmq1 hv (t1 := 64) (g1 := 6) (by decide) (by decide) (Nat.le_of_ble_eq_true rfl) (Nat.le_of_ble_eq_true rfl) hP hD hS (lv_sub hl [0, 1, 2, 3, 4, 5] rfl) (fun H locs ls hP hD hS hl => ?_)
  refine W.widen (k := 126) (n := 3024) (Nat.le_of_ble_eq_true rfl) (Nat.le_of_ble_eq_true rfl) ?_
  have hl : lv_has ls 9 [(0, .ref (ad mo)), (1, .int (nI v)), (2, .int (nI 17)), (3, .double (absG v)), (5, .int (nI 6)), (6, .int (nI 128))] := hl
  refine lv_iload hx hb dX9_bestTake_39 (lv_at hl 5 rfl) ?_
  refine lv_bipush (v := nI 64) hx hb dX9_bestTake_41 (by decide) ?_
  refine lv_icmp_gt (tgt := 101) hx hb dX9_bestTake_43 (by decide) (fun _ => ?_) (fun c9 => absurd (by decide) c9)
  refine lv_iinc (v := nI 7) (lv' := [(5, .int (nI 7)), (0, .ref (ad mo)), (1, .int (nI v)), (2, .int (nI 17)), (3, .double (absG v)), (6, .int (nI 128))]) hx hb dX9_bestTake_101 hl (k := 4) rfl (iinc_nat _ 1) (by decide) rfl (fun ls hl => ?_)
  refine lv_goto (tgt := 29) hx hb dX9_bestTake_104 (by decide) ?_
  refine lv_iload hx hb dX9_bestTake_29 (lv_at hl 0 rfl) ?_
  refine lv_bipush (v := nI 8) hx hb dX9_bestTake_31 (by decide) ?_
  refine lv_icmp_gt (tgt := 107) hx hb dX9_bestTake_33 (by decide) (fun c9 => absurd c9 (by decide)) (fun _ => ?_)
  refine lv_iconst (v := nI 1) hx hb dX9_bestTake_36 (by decide) ?_
  refine lv_istore (lv' := [(6, .int (nI 1)), (5, .int (nI 7)), (0, .ref (ad mo)), (1, .int (nI v)), (2, .int (nI 17)), (3, .double (absG v))]) hx hb dX9_bestTake_37 hl (by decide) rfl (fun ls hl => ?_)
  refine lv_iload hx hb dX9_bestTake_39 (lv_at hl 0 rfl) ?_
  refine lv_bipush (v := nI 64) hx hb dX9_bestTake_41 (by decide) ?_
  refine lv_icmp_gt (tgt := 101) hx hb dX9_bestTake_43 (by decide) (fun c9 => absurd c9 (by decide)) (fun _ => ?_)
  refine sX9_best_1 hx hb hml hts hown hK hV hZ hA hmq1 hv (t1 := 1) (g1 := 7) (by decide) (by decide) (Nat.le_of_ble_eq_true rfl) (Nat.le_of_ble_eq_true rfl) hP hD hS (lv_sub hl [2, 3, 4, 5, 1, 0] rfl) (fun H locs ls hP hD hS hl => ?_)
  refine W.widen (k := 129) (n := 3096) (Nat.le_of_ble_eq_true rfl) (Nat.le_of_ble_eq_true rfl) ?_
  have hl : lv_has ls 9 [(0, .ref (ad mo)), (1, .int (nI v)), (2, .int (nI 17)), (3, .double (absG v)), (5, .int (nI 7)), (6, .int (nI 2))] := hl
  refine lv_iload hx hb dX9_bestTake_39 (lv_at hl 5 rfl) ?_
  refine lv_bipush (v := nI 64) hx hb dX9_bestTake_41 (by decide) ?_
  refine lv_icmp_gt (tgt := 101) hx hb dX9_bestTake_43 (by decide) (fun c9 => absurd c9 (by decide)) (fun _ => ?_)
  refine sX9_best_1 hx hb hml hts hown hK hV hZ hA hmq1 hv (t1 := 2) (g1 := 7) (by decide) (by decide) (Nat.le_of_ble_eq_true rfl) (Nat.le_of_ble_eq_true rfl) hP hD hS (lv_sub hl [0, 1, 2, 3, 4, 5] rfl) (fun H locs ls hP hD hS hl => ?_)
  refine W.widen (k := 132) (n := 3168) (Nat.le_of_ble_eq_true rfl) (Nat.le_of_ble_eq_true rfl) ?_
  have hl : lv_has ls 9 [(0, .ref (ad mo)), (1, .int (nI v)), (2, .int (nI 17)), (3, .double (absG v)), (5, .int (nI 7)), (6, .int (nI 4))] := hl
  refine lv_iload hx hb dX9_bestTake_39 (lv_at hl 5 rfl) ?_
  refine lv_bipush (v := nI 64) hx hb dX9_bestTake_41 (by decide) ?_
  refine lv_icmp_gt (tgt := 101) hx hb dX9_bestTake_43 (by decide) (fun c9 => absurd c9 (by decide)) (fun _ => ?_)
  refine sX9_best_1 hx hb hml hts hown hK hV hZ hA hmq1 hv (t1 := 4) (g1 := 7) (by decide) (by decide) (Nat.le_of_ble_eq_true rfl) (Nat.le_of_ble_eq_true rfl) hP hD hS (lv_sub hl [0, 1, 2, 3, 4, 5] rfl) (fun H locs ls hP hD hS hl => ?_)
  refine W.widen (k := 135) (n := 3240) (Nat.le_of_ble_eq_true rfl) (Nat.le_of_ble_eq_true rfl) ?_
  have hl : lv_has ls 9 [(0, .ref (ad mo)), (1, .int (nI v)), (2, .int (nI 17)), (3, .double (absG v)), (5, .int (nI 7)), (6, .int (nI 8))] := hl
  refine lv_iload hx hb dX9_bestTake_39 (lv_at hl 5 rfl) ?_
  refine lv_bipush (v := nI 64) hx hb dX9_bestTake_41 (by decide) ?_
  refine lv_icmp_gt (tgt := 101) hx hb dX9_bestTake_43 (by decide) (fun c9 => absurd c9 (by decide)) (fun _ => ?_)
  refine sX9_best_1 hx hb hml hts hown hK hV hZ hA hmq1 hv (t1 := 8) (g1 := 7) (by decide) (by decide) (Nat.le_of_ble_eq_true rfl) (Nat.le_of_ble_eq_true rfl) hP hD hS (lv_sub hl [0, 1, 2, 3, 4, 5] rfl) (fun H locs ls hP hD hS hl => ?_)
  refine W.widen (k := 138) (n := 3312) (Nat.le_of_ble_eq_true rfl) (Nat.le_of_ble_eq_true rfl) ?_
  have hl : lv_has ls 9 [(0, .ref (ad mo)), (1, .int (nI v)), (2, .int (nI 17)), (3, .double (absG v)), (5, .int (nI 7)), (6, .int (nI 16))] := hl
  refine lv_iload hx hb dX9_bestTake_39 (lv_at hl 5 rfl) ?_
  refine lv_bipush (v := nI 64) hx hb dX9_bestTake_41 (by decide) ?_
  refine lv_icmp_gt (tgt := 101) hx hb dX9_bestTake_43 (by decide) (fun c9 => absurd c9 (by decide)) (fun _ => ?_)
  refine sX9_best_1 hx hb hml hts hown hK hV hZ hA hmq1 hv (t1 := 16) (g1 := 7) (by decide) (by decide) (Nat.le_of_ble_eq_true rfl) (Nat.le_of_ble_eq_true rfl) hP hD hS (lv_sub hl [0, 1, 2, 3, 4, 5] rfl) (fun H locs ls hP hD hS hl => ?_)
  refine W.widen (k := 141) (n := 3384) (Nat.le_of_ble_eq_true rfl) (Nat.le_of_ble_eq_true rfl) ?_
  have hl : lv_has ls 9 [(0, .ref (ad mo)), (1, .int (nI v)), (2, .int (nI 17)), (3, .double (absG v)), (5, .int (nI 7)), (6, .int (nI 32))] := hl
  refine lv_iload hx hb dX9_bestTake_39 (lv_at hl 5 rfl) ?_
  refine lv_bipush (v := nI 64) hx hb dX9_bestTake_41 (by decide) ?_
  refine lv_icmp_gt (tgt := 101) hx hb dX9_bestTake_43 (by decide) (fun c9 => absurd c9 (by decide)) (fun _ => ?_)
  refine sX9_best_1 hx hb hml hts hown hK hV hZ hA hmq1 hv (t1 := 32) (g1 := 7) (by decide) (by decide) (Nat.le_of_ble_eq_true rfl) (Nat.le_of_ble_eq_true rfl) hP hD hS (lv_sub hl [0, 1, 2, 3, 4, 5] rfl) (fun H locs ls hP hD hS hl => ?_)
  refine W.widen (k := 144) (n := 3456) (Nat.le_of_ble_eq_true rfl) (Nat.le_of_ble_eq_true rfl) ?_
  have hl : lv_has ls 9 [(0, .ref (ad mo)), (1, .int (nI v)), (2, .int (nI 17)), (3, .double (absG v)), (5, .int (nI 7)), (6, .int (nI 64))] := hl
  refine lv_iload hx hb dX9_bestTake_39 (lv_at hl 5 rfl) ?_
  refine lv_bipush (v := nI 64) hx hb dX9_bestTake_41 (by decide) ?_
  refine lv_icmp_gt (tgt := 101) hx hb dX9_bestTake_43 (by decide) (fun c9 => absurd c9 (by decide)) (fun _ => ?_)
  refine sX9_best_1 hx hb hml hts hown hK hV hZ hA hmq1 hv (t1 := 64) (g1 := 7) (by decide) (by decide) (Nat.le_of_ble_eq_true rfl) (Nat.le_of_ble_eq_true rfl) hP hD hS (lv_sub hl [0, 1, 2, 3, 4, 5] rfl) (fun H locs ls hP hD hS hl => ?_)
  refine W.widen (k := 147) (n := 3528) (Nat.le_of_ble_eq_true rfl) (Nat.le_of_ble_eq_true rfl) ?_
  have hl : lv_has ls 9 [(0, .ref (ad mo)), (1, .int (nI v)), (2, .int (nI 17)), (3, .double (absG v)), (5, .int (nI 7)), (6, .int (nI 128))] := hl
  refine lv_iload hx hb dX9_bestTake_39 (lv_at hl 5 rfl) ?_
  refine lv_bipush (v := nI 64) hx hb dX9_bestTake_41 (by decide) ?_
  refine lv_icmp_gt (tgt := 101) hx hb dX9_bestTake_43 (by decide) (fun _ => ?_) (fun c9 => absurd (by decide) c9)
  refine lv_iinc (v := nI 8) (lv' := [(5, .int (nI 8)), (0, .ref (ad mo)), (1, .int (nI v)), (2, .int (nI 17)), (3, .double (absG v)), (6, .int (nI 128))]) hx hb dX9_bestTake_101 hl (k := 4) rfl (iinc_nat _ 1) (by decide) rfl (fun ls hl => ?_)
  refine lv_goto (tgt := 29) hx hb dX9_bestTake_104 (by decide) ?_
  refine lv_iload hx hb dX9_bestTake_29 (lv_at hl 0 rfl) ?_
  refine lv_bipush (v := nI 8) hx hb dX9_bestTake_31 (by decide) ?_
  refine lv_icmp_gt (tgt := 107) hx hb dX9_bestTake_33 (by decide) (fun c9 => absurd c9 (by decide)) (fun _ => ?_)
  refine lv_iconst (v := nI 1) hx hb dX9_bestTake_36 (by decide) ?_
  refine lv_istore (lv' := [(6, .int (nI 1)), (5, .int (nI 8)), (0, .ref (ad mo)), (1, .int (nI v)), (2, .int (nI 17)), (3, .double (absG v))]) hx hb dX9_bestTake_37 hl (by decide) rfl (fun ls hl => ?_)
  refine lv_iload hx hb dX9_bestTake_39 (lv_at hl 0 rfl) ?_
  refine lv_bipush (v := nI 64) hx hb dX9_bestTake_41 (by decide) ?_
  refine lv_icmp_gt (tgt := 101) hx hb dX9_bestTake_43 (by decide) (fun c9 => absurd c9 (by decide)) (fun _ => ?_)
  refine sX9_best_1 hx hb hml hts hown hK hV hZ hA hmq1 hv (t1 := 1) (g1 := 8) (by decide) (by decide) (Nat.le_of_ble_eq_true rfl) (Nat.le_of_ble_eq_true rfl) hP hD hS (lv_sub hl [2, 3, 4, 5, 1, 0] rfl) (fun H locs ls hP hD hS hl => ?_)
  refine W.widen (k := 150) (n := 3600) (Nat.le_of_ble_eq_true rfl) (Nat.le_of_ble_eq_true rfl) ?_
  have hl : lv_has ls 9 [(0, .ref (ad mo)), (1, .int (nI v)), (2, .int (nI 17)), (3, .double (absG v)), (5, .int (nI 8)), (6, .int (nI 2))] := hl
  refine lv_iload hx hb dX9_bestTake_39 (lv_at hl 5 rfl) ?_
  refine lv_bipush (v := nI 64) hx hb dX9_bestTake_41 (by decide) ?_
  refine lv_icmp_gt (tgt := 101) hx hb dX9_bestTake_43 (by decide) (fun c9 => absurd c9 (by decide)) (fun _ => ?_)
  refine sX9_best_1 hx hb hml hts hown hK hV hZ hA hmq1 hv (t1 := 2) (g1 := 8) (by decide) (by decide) (Nat.le_of_ble_eq_true rfl) (Nat.le_of_ble_eq_true rfl) hP hD hS (lv_sub hl [0, 1, 2, 3, 4, 5] rfl) (fun H locs ls hP hD hS hl => ?_)
  refine W.widen (k := 153) (n := 3672) (Nat.le_of_ble_eq_true rfl) (Nat.le_of_ble_eq_true rfl) ?_
  have hl : lv_has ls 9 [(0, .ref (ad mo)), (1, .int (nI v)), (2, .int (nI 17)), (3, .double (absG v)), (5, .int (nI 8)), (6, .int (nI 4))] := hl
  refine lv_iload hx hb dX9_bestTake_39 (lv_at hl 5 rfl) ?_
  refine lv_bipush (v := nI 64) hx hb dX9_bestTake_41 (by decide) ?_
  refine lv_icmp_gt (tgt := 101) hx hb dX9_bestTake_43 (by decide) (fun c9 => absurd c9 (by decide)) (fun _ => ?_)
  refine sX9_best_1 hx hb hml hts hown hK hV hZ hA hmq1 hv (t1 := 4) (g1 := 8) (by decide) (by decide) (Nat.le_of_ble_eq_true rfl) (Nat.le_of_ble_eq_true rfl) hP hD hS (lv_sub hl [0, 1, 2, 3, 4, 5] rfl) (fun H locs ls hP hD hS hl => ?_)
  refine W.widen (k := 156) (n := 3744) (Nat.le_of_ble_eq_true rfl) (Nat.le_of_ble_eq_true rfl) ?_
  have hl : lv_has ls 9 [(0, .ref (ad mo)), (1, .int (nI v)), (2, .int (nI 17)), (3, .double (absG v)), (5, .int (nI 8)), (6, .int (nI 8))] := hl
  refine lv_iload hx hb dX9_bestTake_39 (lv_at hl 5 rfl) ?_
  refine lv_bipush (v := nI 64) hx hb dX9_bestTake_41 (by decide) ?_
  refine lv_icmp_gt (tgt := 101) hx hb dX9_bestTake_43 (by decide) (fun c9 => absurd c9 (by decide)) (fun _ => ?_)
  refine sX9_best_1 hx hb hml hts hown hK hV hZ hA hmq1 hv (t1 := 8) (g1 := 8) (by decide) (by decide) (Nat.le_of_ble_eq_true rfl) (Nat.le_of_ble_eq_true rfl) hP hD hS (lv_sub hl [0, 1, 2, 3, 4, 5] rfl) (fun H locs ls hP hD hS hl => ?_)
  refine W.widen (k := 159) (n := 3816) (Nat.le_of_ble_eq_true rfl) (Nat.le_of_ble_eq_true rfl) ?_
  have hl : lv_has ls 9 [(0, .ref (ad mo)), (1, .int (nI v)), (2, .int (nI 17)), (3, .double (absG v)), (5, .int (nI 8)), (6, .int (nI 16))] := hl
  refine lv_iload hx hb dX9_bestTake_39 (lv_at hl 5 rfl) ?_
  refine lv_bipush (v := nI 64) hx hb dX9_bestTake_41 (by decide) ?_
  refine lv_icmp_gt (tgt := 101) hx hb dX9_bestTake_43 (by decide) (fun c9 => absurd c9 (by decide)) (fun _ => ?_)
  refine sX9_best_1 hx hb hml hts hown hK hV hZ hA hmq1 hv (t1 := 16) (g1 := 8) (by decide) (by decide) (Nat.le_of_ble_eq_true rfl) (Nat.le_of_ble_eq_true rfl) hP hD hS (lv_sub hl [0, 1, 2, 3, 4, 5] rfl) (fun H locs ls hP hD hS hl => ?_)
  refine W.widen (k := 162) (n := 3888) (Nat.le_of_ble_eq_true rfl) (Nat.le_of_ble_eq_true rfl) ?_
  have hl : lv_has ls 9 [(0, .ref (ad mo)), (1, .int (nI v)), (2, .int (nI 17)), (3, .double (absG v)), (5, .int (nI 8)), (6, .int (nI 32))] := hl
  refine lv_iload hx hb dX9_bestTake_39 (lv_at hl 5 rfl) ?_
  refine lv_bipush (v := nI 64) hx hb dX9_bestTake_41 (by decide) ?_
  refine lv_icmp_gt (tgt := 101) hx hb dX9_bestTake_43 (by decide) (fun c9 => absurd c9 (by decide)) (fun _ => ?_)
  refine sX9_best_1 hx hb hml hts hown hK hV hZ hA hmq1 hv (t1 := 32) (g1 := 8) (by decide) (by decide) (Nat.le_of_ble_eq_true rfl) (Nat.le_of_ble_eq_true rfl) hP hD hS (lv_sub hl [0, 1, 2, 3, 4, 5] rfl) (fun H locs ls hP hD hS hl => ?_)
  refine W.widen (k := 165) (n := 3960) (Nat.le_of_ble_eq_true rfl) (Nat.le_of_ble_eq_true rfl) ?_
  have hl : lv_has ls 9 [(0, .ref (ad mo)), (1, .int (nI v)), (2, .int (nI 17)), (3, .double (absG v)), (5, .int (nI 8)), (6, .int (nI 64))] := hl
  refine lv_iload hx hb dX9_bestTake_39 (lv_at hl 5 rfl) ?_
  refine lv_bipush (v := nI 64) hx hb dX9_bestTake_41 (by decide) ?_
  refine lv_icmp_gt (tgt := 101) hx hb dX9_bestTake_43 (by decide) (fun c9 => absurd c9 (by decide)) (fun _ => ?_)
  refine sX9_best_1 hx hb hml hts hown hK hV hZ hA hmq1 hv (t1 := 64) (g1 := 8) (by decide) (by decide) (Nat.le_of_ble_eq_true rfl) (Nat.le_of_ble_eq_true rfl) hP hD hS (lv_sub hl [0, 1, 2, 3, 4, 5] rfl) (fun H locs ls hP hD hS hl => ?_)
  refine W.widen (k := 168) (n := 4032) (Nat.le_of_ble_eq_true rfl) (Nat.le_of_ble_eq_true rfl) ?_
  have hl : lv_has ls 9 [(0, .ref (ad mo)), (1, .int (nI v)), (2, .int (nI 17)), (3, .double (absG v)), (5, .int (nI 8)), (6, .int (nI 128))] := hl
  refine lv_iload hx hb dX9_bestTake_39 (lv_at hl 5 rfl) ?_
  refine lv_bipush (v := nI 64) hx hb dX9_bestTake_41 (by decide) ?_
  refine lv_icmp_gt (tgt := 101) hx hb dX9_bestTake_43 (by decide) (fun _ => ?_) (fun c9 => absurd (by decide) c9)
  refine lv_iinc (v := nI 9) (lv' := [(5, .int (nI 9)), (0, .ref (ad mo)), (1, .int (nI v)), (2, .int (nI 17)), (3, .double (absG v)), (6, .int (nI 128))]) hx hb dX9_bestTake_101 hl (k := 4) rfl (iinc_nat _ 1) (by decide) rfl (fun ls hl => ?_)
  refine lv_goto (tgt := 29) hx hb dX9_bestTake_104 (by decide) ?_
  refine lv_iload hx hb dX9_bestTake_29 (lv_at hl 0 rfl) ?_
  refine lv_bipush (v := nI 8) hx hb dX9_bestTake_31 (by decide) ?_
  refine lv_icmp_gt (tgt := 107) hx hb dX9_bestTake_33 (by decide) (fun _ => ?_) (fun c9 => absurd (by decide) c9)
  refine lv_iload_n hx hb dX9_bestTake_107 rfl (lv_at hl 3 rfl) ?_
  refine W.widen (k := 168) (n := 4032) (Nat.le_of_ble_eq_true rfl) (Nat.le_of_ble_eq_true rfl) ?_
  exact W.iret (v := (nI 17)) hx hb hr (fun t ht hW => ⟨⟨_, (ad, va_up C mo (ob 9 [.int (nI 0), .ref (ad (mo + 1)), .ref (ad (mo + 2)), .ref (ad (mo + 3)), .ref (ad (mo + 4)), .int (nI 0), .ref (ad (mo + 5)), .ref (ad (mo + 6))])), rfl, ⟨rfl, ⟨fun j h => rfl, fun j h hx9 => (va_un _ _ (by omega)).trans (rfl), ⟨_, va_us _ _ _⟩⟩⟩, ⟨by rw [ht]; exact hP, hD⟩⟩, hS.F ht⟩) hS.2.2 dX9_bestTake_108
abbrev rmX9_digest_v : Room := { frames := 6, cells := 10, slots := 121, locals := 129 }
set_option maxRecDepth 20000 in
theorem il_X9_digest_33 : (Cond.fieldLink RX9 33 "BayerGateModel" "thrown" "I") ∈ wsX9_digest := by decide +kernel
set_option maxRecDepth 20000 in
theorem iu_X9_digest_9 : ∀ w ∈ u_ws RX9 TX9 8, w ∈ wsX9_digest := by decide +kernel
set_option maxRecDepth 20000 in
theorem il_X9_digest_207 : (Cond.constantLong RX9 207 (9602)) ∈ wsX9_digest := by decide +kernel
set_option maxRecDepth 20000 in
theorem il_X9_digest_209 : (Cond.constantLong RX9 209 (31)) ∈ wsX9_digest := by decide +kernel
set_option maxRecDepth 20000 in
theorem il_X9_digest_26 : (Cond.fieldLink RX9 26 "BayerGateModel" "frames" "Ljava/util/List;") ∈ wsX9_digest := by decide +kernel
set_option maxRecDepth 20000 in
theorem il_X9_digest_30 : (Cond.fieldLink RX9 30 "BayerGateModel" "files" "Ljava/util/List;") ∈ wsX9_digest := by decide +kernel
set_option maxHeartbeats 4000000 in
set_option maxRecDepth 100000 in
theorem kX9_digest (l : Launch) (G : iG) (N : Nat) (ad : Nat → Nat) (C : Nat → va_E) (mo dz : Nat) (th : Int32) (hmod : Mod G N ad C mo dz th)  (sz : Nat) : Met l yX9_digest wsX9_digest rmX9_digest_v (iPreZ G (N) ad C dz sz [.ref (ad mo)]) (va_Ql (fun (r : Int64) (u : iU) => (r = (8189459741508482 : Int64)) ∧ (∀ j, j < N → u.1 j = ad j) ∧ (∀ j, j < N → (j < mo ∨ mo + 7 ≤ j) → u.2 j = C j) ∧ Thr u.1 u.2 mo (nI 0)) (iB2 G (N + 10) (iA (N) ad sz)) (iA (N) ad sz)) 10 121 (iA (N) ad sz) := by
  refine Met.ofW (cc := cX9_digest) (maxL := 8) (ret := (some .long)) (by decide) rfl ?_
  intro p e s m args below meth c s₁ B hml hv
  obtain ⟨rfl, ⟨⟨hsz, hP, hK, hD0⟩, hV⟩, hZ⟩ := hv
  have hx := B.exec
  have hb := B.bytes
  have hr := B.returns
  have hts := atoms_spec (ws := wsX9_digest) B.pre
  have hown : s.vm.findClass RX9 = some m.cls := findClass_of_methodNamed B.named
  have hlocks := B.notSynchronized
  subst hsz
  have hD := wl_self hD0 s.heap.size
  have hA : ∀ q : Nat, s.heap.size ≤ q → iA (N) ad s.heap.size q := fun q h => Or.inr h
  have hS : va_S (iA (N) ad s.heap.size) s.heap s.heap [] := va_S.rf
  have hP : va_P G.1 vwB (wl (N) ad C) s.heap := hP
  have hl := lv_entry ([.ref (ad mo)]) (n := 8) (Nat.le_of_ble_eq_true rfl)
  rw [lg_entry_eq]
  generalize (lg_sl ([.ref (ad mo)]) ++ List.replicate (8 - (lg_sl ([.ref (ad mo)])).length) Slot.unset).toArray = ls at hl ⊢
  have hl : lv_has ls 8 [(0, .ref (ad mo))] := hl
  obtain ⟨hN, gm0, gm1, gm2, gm3, gm4, gm5, gm6⟩ := id hmod
  refine lv_aload_n hx hb dX9_digest_0 rfl (lv_at hl 0 rfl) ?_
  refine lv_iconst (v := nI 0) hx hb dX9_digest_1 (by decide) ?_
  refine iw_put (ty := .int) hx hb hts iu_X9_digest_9 tyX9 tyX9_ok nmX9 hown hK hP hD hS (by omega) (gm0) rfl 0 (by decide) (hts _ il_X9_digest_33) (fun _ h9 => h9) rfl (by decide +kernel) rfl rfl (Nat.le_of_ble_eq_true rfl) rfl dX9_digest_2 (fun H locs hP hD hS => ?_)
  refine lv_ldc2 hx hb hown (hts _ il_X9_digest_207) dX9_digest_5 ?_
  refine lv_lstore_n (lv' := [(1, .long (9602)), (0, .ref (ad mo))]) hx hb dX9_digest_8 rfl hl (by decide) rfl (fun ls hl => ?_)
  refine lv_iconst (v := nI 0) hx hb dX9_digest_9 (by decide) ?_
  refine lv_istore_n (lv' := [(3, .int (nI 0)), (1, .long (9602)), (0, .ref (ad mo))]) hx hb dX9_digest_10 rfl hl (by decide) rfl (fun ls hl => ?_)
  refine lv_iload_n hx hb dX9_digest_11 rfl (lv_at hl 0 rfl) ?_
  refine lv_bipush (v := nI 6) hx hb dX9_digest_12 (by decide) ?_
  refine lv_icmp_gt (tgt := 36) hx hb dX9_digest_14 (by decide) (fun c9 => absurd c9 (by decide)) (fun _ => ?_)
  refine lv_lload_n hx hb dX9_digest_17 rfl (lv_at hl 1 rfl) ?_
  refine lv_ldc2 hx hb hown (hts _ il_X9_digest_209) dX9_digest_18 ?_
  refine lv_lmul hx hb dX9_digest_21 ?_
  refine lv_aload_n hx hb dX9_digest_22 rfl (lv_at hl 2 rfl) ?_
  refine lv_iload_n hx hb dX9_digest_23 rfl (lv_at hl 0 rfl) ?_
  have hmq1 : Mod G (N) ad (va_up C mo (ob 9 [.int (nI 0), .ref (ad (mo + 1)), .ref (ad (mo + 2)), .ref (ad (mo + 3)), .ref (ad (mo + 4)), .int (nI 0), .ref (ad (mo + 5)), .ref (ad (mo + 6))])) mo dz (nI 0) := ⟨by omega, va_us _ _ _, (va_un _ _ (by omega)).trans (gm1), (va_un _ _ (by omega)).trans (gm2), (va_un _ _ (by omega)).trans (gm3), (va_un _ _ (by omega)).trans (gm4), (va_un _ _ (by omega)).trans (gm5), (va_un _ _ (by omega)).trans (gm6)⟩
  refine iwg_i (va_runV (As := [.int (nI 0)]) (rest := [.long ((9602) * (31))]) ⟨hx, hb, hml, hown, hts⟩ (kX9_manyNow l G (N) ad _ mo dz (nI 0) hmq1 (0) (by omega) _) (cwV 1 hts gX9_digest_X9_manyNow rfl rfl rfl (by decide +kernel) ⟨Nat.le_of_ble_eq_true rfl, Nat.le_of_ble_eq_true rfl⟩) (iPVZ hK hV hZ hS hA hP hD (by omega) (va_us _ _ _) rfl [.int (nI 0)]) rfl rfl hl.1 rfl (lv_room (Nat.le_of_ble_eq_true rfl)) dX9_digest_24 ⟨Nat.le_of_ble_eq_true rfl, Nat.le_of_ble_eq_true rfl⟩) hD hS hA (fun r8 ad1 C1 H locs hw8 hP hD hS => ?_)
  dsimp only at hw8
  obtain ⟨hr8, e1, c1, q1_t⟩ := hw8
  refine lv_asI hr8 ?_
  have k1_mo : C1 mo = ob 9 [.int (nI 0), .ref (ad1 (mo + 1)), .ref (ad1 (mo + 2)), .ref (ad1 (mo + 3)), .ref (ad1 (mo + 4)), .int (nI 0), .ref (ad1 (mo + 5)), .ref (ad1 (mo + 6))] := (c1 _ (by omega)).trans ((va_us _ _ _).trans (by first | (rw [e1 (mo + 1) (by omega), e1 (mo + 2) (by omega), e1 (mo + 3) (by omega), e1 (mo + 4) (by omega), e1 (mo + 5) (by omega), e1 (mo + 6) (by omega)]; done) | (rw [e1 (mo + 1) (by omega), e1 (mo + 2) (by omega), e1 (mo + 3) (by omega), e1 (mo + 4) (by omega), e1 (mo + 5) (by omega), e1 (mo + 6) (by omega)]; rfl)))
  have k1_mo_1 : C1 (mo + 1) = ia G 192 (fun _ => nI 0) := (c1 _ (by omega)).trans ((va_un _ _ (by omega)).trans (gm1))
  have k1_mo_2 : C1 (mo + 2) = ia G 3 (fun _ => nI 4) := (c1 _ (by omega)).trans ((va_un _ _ (by omega)).trans (gm2))
  have k1_mo_3 : C1 (mo + 3) = ia G 64 (fun _ => nI 0) := (c1 _ (by omega)).trans ((va_un _ _ (by omega)).trans (gm3))
  have k1_mo_4 : C1 (mo + 4) = za G 64 (fun _ => nI 0) := (c1 _ (by omega)).trans ((va_un _ _ (by omega)).trans (gm4))
  have k1_mo_5 : C1 (mo + 5) = ob 10 [.int (nI 0), .ref dz, .int (nI 0)] := (c1 _ (by omega)).trans ((va_un _ _ (by omega)).trans (gm5))
  have k1_mo_6 : C1 (mo + 6) = ob 10 [.int (nI 0), .ref dz, .int (nI 0)] := (c1 _ (by omega)).trans ((va_un _ _ (by omega)).trans (gm6))
  have ea1 : ∀ j, j < N → ad1 j = ad j := fun j h => e1 j (by omega)
  have ca1 : ∀ j, j < N → (j < mo ∨ mo + 7 ≤ j) → C1 j = C j := fun j h hx9 => (c1 j (by omega)).trans ((va_un _ _ (by omega)).trans (rfl))
  have hl : lv_has ls 8 [(3, .int (nI 0)), (1, .long (9602)), (0, .ref (ad1 mo))] := by rw [e1 mo (by omega)]; exact hl
  refine lv_i2l (v := (nI 0).toInt64) hx hb dX9_digest_27 rfl ?_
  refine lv_ladd hx hb dX9_digest_28 ?_
  refine lv_asL (y := (297662 : Int64)) (by decide +kernel) ?_
  refine lv_lstore_n (lv' := [(1, .long (297662 : Int64)), (3, .int (nI 0)), (0, .ref (ad1 mo))]) hx hb dX9_digest_29 rfl hl (by decide) rfl (fun ls hl => ?_)
  refine lv_iinc (v := nI 1) (lv' := [(3, .int (nI 1)), (1, .long (297662 : Int64)), (0, .ref (ad1 mo))]) hx hb dX9_digest_30 hl (k := 1) rfl (iinc_nat _ 1) (by decide) rfl (fun ls hl => ?_)
  refine lv_goto (tgt := 11) hx hb dX9_digest_33 (by decide) ?_
  refine lv_iload_n hx hb dX9_digest_11 rfl (lv_at hl 0 rfl) ?_
  refine lv_bipush (v := nI 6) hx hb dX9_digest_12 (by decide) ?_
  refine lv_icmp_gt (tgt := 36) hx hb dX9_digest_14 (by decide) (fun c9 => absurd c9 (by decide)) (fun _ => ?_)
  refine lv_lload_n hx hb dX9_digest_17 rfl (lv_at hl 1 rfl) ?_
  refine lv_ldc2 hx hb hown (hts _ il_X9_digest_209) dX9_digest_18 ?_
  refine lv_lmul hx hb dX9_digest_21 ?_
  refine lv_aload_n hx hb dX9_digest_22 rfl (lv_at hl 2 rfl) ?_
  refine lv_iload_n hx hb dX9_digest_23 rfl (lv_at hl 0 rfl) ?_
  have hmq2 : Mod G (N + 1) ad1 (C1) mo dz (nI 0) := ⟨by omega, k1_mo, k1_mo_1, k1_mo_2, k1_mo_3, k1_mo_4, k1_mo_5, k1_mo_6⟩
  refine iwg_i (va_runV (As := [.int (nI 1)]) (rest := [.long ((297662 : Int64) * (31))]) ⟨hx, hb, hml, hown, hts⟩ (kX9_manyNow l G (N + 1) ad1 _ mo dz (nI 0) hmq2 (1) (by omega) _) (cwV 1 hts gX9_digest_X9_manyNow rfl rfl rfl (by decide +kernel) ⟨Nat.le_of_ble_eq_true rfl, Nat.le_of_ble_eq_true rfl⟩) (iPVZ hK hV hZ hS hA hP hD (by omega) (k1_mo) rfl [.int (nI 1)]) rfl rfl hl.1 rfl (lv_room (Nat.le_of_ble_eq_true rfl)) dX9_digest_24 ⟨Nat.le_of_ble_eq_true rfl, Nat.le_of_ble_eq_true rfl⟩) hD hS hA (fun r8 ad2 C2 H locs hw8 hP hD hS => ?_)
  dsimp only at hw8
  obtain ⟨hr8, e2, c2, q2_t⟩ := hw8
  refine lv_asI hr8 ?_
  have k2_mo : C2 mo = ob 9 [.int (nI 0), .ref (ad2 (mo + 1)), .ref (ad2 (mo + 2)), .ref (ad2 (mo + 3)), .ref (ad2 (mo + 4)), .int (nI 0), .ref (ad2 (mo + 5)), .ref (ad2 (mo + 6))] := (c2 _ (by omega)).trans ((k1_mo).trans (by first | (rw [e2 (mo + 1) (by omega), e2 (mo + 2) (by omega), e2 (mo + 3) (by omega), e2 (mo + 4) (by omega), e2 (mo + 5) (by omega), e2 (mo + 6) (by omega)]; done) | (rw [e2 (mo + 1) (by omega), e2 (mo + 2) (by omega), e2 (mo + 3) (by omega), e2 (mo + 4) (by omega), e2 (mo + 5) (by omega), e2 (mo + 6) (by omega)]; rfl)))
  have k2_mo_1 : C2 (mo + 1) = ia G 192 (fun _ => nI 0) := (c2 _ (by omega)).trans (k1_mo_1)
  have k2_mo_2 : C2 (mo + 2) = ia G 3 (fun _ => nI 4) := (c2 _ (by omega)).trans (k1_mo_2)
  have k2_mo_3 : C2 (mo + 3) = ia G 64 (fun _ => nI 0) := (c2 _ (by omega)).trans (k1_mo_3)
  have k2_mo_4 : C2 (mo + 4) = za G 64 (fun _ => nI 0) := (c2 _ (by omega)).trans (k1_mo_4)
  have k2_mo_5 : C2 (mo + 5) = ob 10 [.int (nI 0), .ref dz, .int (nI 0)] := (c2 _ (by omega)).trans (k1_mo_5)
  have k2_mo_6 : C2 (mo + 6) = ob 10 [.int (nI 0), .ref dz, .int (nI 0)] := (c2 _ (by omega)).trans (k1_mo_6)
  have ea2 : ∀ j, j < N → ad2 j = ad j := fun j h => (e2 j (by omega)).trans (ea1 j h)
  have ca2 : ∀ j, j < N → (j < mo ∨ mo + 7 ≤ j) → C2 j = C j := fun j h hx9 => (c2 j (by omega)).trans (ca1 j h hx9)
  have hl : lv_has ls 8 [(3, .int (nI 1)), (1, .long (297662 : Int64)), (0, .ref (ad2 mo))] := by rw [e2 mo (by omega)]; exact hl
  refine lv_i2l (v := (nI 0).toInt64) hx hb dX9_digest_27 rfl ?_
  refine lv_ladd hx hb dX9_digest_28 ?_
  refine lv_asL (y := (9227522 : Int64)) (by decide +kernel) ?_
  refine lv_lstore_n (lv' := [(1, .long (9227522 : Int64)), (3, .int (nI 1)), (0, .ref (ad2 mo))]) hx hb dX9_digest_29 rfl hl (by decide) rfl (fun ls hl => ?_)
  refine lv_iinc (v := nI 2) (lv' := [(3, .int (nI 2)), (1, .long (9227522 : Int64)), (0, .ref (ad2 mo))]) hx hb dX9_digest_30 hl (k := 1) rfl (iinc_nat _ 1) (by decide) rfl (fun ls hl => ?_)
  refine lv_goto (tgt := 11) hx hb dX9_digest_33 (by decide) ?_
  refine lv_iload_n hx hb dX9_digest_11 rfl (lv_at hl 0 rfl) ?_
  refine lv_bipush (v := nI 6) hx hb dX9_digest_12 (by decide) ?_
  refine lv_icmp_gt (tgt := 36) hx hb dX9_digest_14 (by decide) (fun c9 => absurd c9 (by decide)) (fun _ => ?_)
  refine lv_lload_n hx hb dX9_digest_17 rfl (lv_at hl 1 rfl) ?_
  refine lv_ldc2 hx hb hown (hts _ il_X9_digest_209) dX9_digest_18 ?_
  refine lv_lmul hx hb dX9_digest_21 ?_
  refine lv_aload_n hx hb dX9_digest_22 rfl (lv_at hl 2 rfl) ?_
  refine lv_iload_n hx hb dX9_digest_23 rfl (lv_at hl 0 rfl) ?_
  have hmq3 : Mod G (N + 2) ad2 (C2) mo dz (nI 0) := ⟨by omega, k2_mo, k2_mo_1, k2_mo_2, k2_mo_3, k2_mo_4, k2_mo_5, k2_mo_6⟩
  refine iwg_i (va_runV (As := [.int (nI 2)]) (rest := [.long ((9227522 : Int64) * (31))]) ⟨hx, hb, hml, hown, hts⟩ (kX9_manyNow l G (N + 2) ad2 _ mo dz (nI 0) hmq3 (2) (by omega) _) (cwV 1 hts gX9_digest_X9_manyNow rfl rfl rfl (by decide +kernel) ⟨Nat.le_of_ble_eq_true rfl, Nat.le_of_ble_eq_true rfl⟩) (iPVZ hK hV hZ hS hA hP hD (by omega) (k2_mo) rfl [.int (nI 2)]) rfl rfl hl.1 rfl (lv_room (Nat.le_of_ble_eq_true rfl)) dX9_digest_24 ⟨Nat.le_of_ble_eq_true rfl, Nat.le_of_ble_eq_true rfl⟩) hD hS hA (fun r8 ad3 C3 H locs hw8 hP hD hS => ?_)
  dsimp only at hw8
  obtain ⟨hr8, e3, c3, q3_t⟩ := hw8
  refine lv_asI hr8 ?_
  have k3_mo : C3 mo = ob 9 [.int (nI 0), .ref (ad3 (mo + 1)), .ref (ad3 (mo + 2)), .ref (ad3 (mo + 3)), .ref (ad3 (mo + 4)), .int (nI 0), .ref (ad3 (mo + 5)), .ref (ad3 (mo + 6))] := (c3 _ (by omega)).trans ((k2_mo).trans (by first | (rw [e3 (mo + 1) (by omega), e3 (mo + 2) (by omega), e3 (mo + 3) (by omega), e3 (mo + 4) (by omega), e3 (mo + 5) (by omega), e3 (mo + 6) (by omega)]; done) | (rw [e3 (mo + 1) (by omega), e3 (mo + 2) (by omega), e3 (mo + 3) (by omega), e3 (mo + 4) (by omega), e3 (mo + 5) (by omega), e3 (mo + 6) (by omega)]; rfl)))
  have k3_mo_1 : C3 (mo + 1) = ia G 192 (fun _ => nI 0) := (c3 _ (by omega)).trans (k2_mo_1)
  have k3_mo_2 : C3 (mo + 2) = ia G 3 (fun _ => nI 4) := (c3 _ (by omega)).trans (k2_mo_2)
  have k3_mo_3 : C3 (mo + 3) = ia G 64 (fun _ => nI 0) := (c3 _ (by omega)).trans (k2_mo_3)
  have k3_mo_4 : C3 (mo + 4) = za G 64 (fun _ => nI 0) := (c3 _ (by omega)).trans (k2_mo_4)
  have k3_mo_5 : C3 (mo + 5) = ob 10 [.int (nI 0), .ref dz, .int (nI 0)] := (c3 _ (by omega)).trans (k2_mo_5)
  have k3_mo_6 : C3 (mo + 6) = ob 10 [.int (nI 0), .ref dz, .int (nI 0)] := (c3 _ (by omega)).trans (k2_mo_6)
  have ea3 : ∀ j, j < N → ad3 j = ad j := fun j h => (e3 j (by omega)).trans (ea2 j h)
  have ca3 : ∀ j, j < N → (j < mo ∨ mo + 7 ≤ j) → C3 j = C j := fun j h hx9 => (c3 j (by omega)).trans (ca2 j h hx9)
  have hl : lv_has ls 8 [(3, .int (nI 2)), (1, .long (9227522 : Int64)), (0, .ref (ad3 mo))] := by rw [e3 mo (by omega)]; exact hl
  refine lv_i2l (v := (nI 0).toInt64) hx hb dX9_digest_27 rfl ?_
  refine lv_ladd hx hb dX9_digest_28 ?_
  refine lv_asL (y := (286053182 : Int64)) (by decide +kernel) ?_
  refine lv_lstore_n (lv' := [(1, .long (286053182 : Int64)), (3, .int (nI 2)), (0, .ref (ad3 mo))]) hx hb dX9_digest_29 rfl hl (by decide) rfl (fun ls hl => ?_)
  refine lv_iinc (v := nI 3) (lv' := [(3, .int (nI 3)), (1, .long (286053182 : Int64)), (0, .ref (ad3 mo))]) hx hb dX9_digest_30 hl (k := 1) rfl (iinc_nat _ 1) (by decide) rfl (fun ls hl => ?_)
  refine lv_goto (tgt := 11) hx hb dX9_digest_33 (by decide) ?_
  refine lv_iload_n hx hb dX9_digest_11 rfl (lv_at hl 0 rfl) ?_
  refine lv_bipush (v := nI 6) hx hb dX9_digest_12 (by decide) ?_
  refine lv_icmp_gt (tgt := 36) hx hb dX9_digest_14 (by decide) (fun c9 => absurd c9 (by decide)) (fun _ => ?_)
  refine lv_lload_n hx hb dX9_digest_17 rfl (lv_at hl 1 rfl) ?_
  refine lv_ldc2 hx hb hown (hts _ il_X9_digest_209) dX9_digest_18 ?_
  refine lv_lmul hx hb dX9_digest_21 ?_
  refine lv_aload_n hx hb dX9_digest_22 rfl (lv_at hl 2 rfl) ?_
  refine lv_iload_n hx hb dX9_digest_23 rfl (lv_at hl 0 rfl) ?_
  have hmq4 : Mod G (N + 3) ad3 (C3) mo dz (nI 0) := ⟨by omega, k3_mo, k3_mo_1, k3_mo_2, k3_mo_3, k3_mo_4, k3_mo_5, k3_mo_6⟩
  refine iwg_i (va_runV (As := [.int (nI 3)]) (rest := [.long ((286053182 : Int64) * (31))]) ⟨hx, hb, hml, hown, hts⟩ (kX9_manyNow l G (N + 3) ad3 _ mo dz (nI 0) hmq4 (3) (by omega) _) (cwV 1 hts gX9_digest_X9_manyNow rfl rfl rfl (by decide +kernel) ⟨Nat.le_of_ble_eq_true rfl, Nat.le_of_ble_eq_true rfl⟩) (iPVZ hK hV hZ hS hA hP hD (by omega) (k3_mo) rfl [.int (nI 3)]) rfl rfl hl.1 rfl (lv_room (Nat.le_of_ble_eq_true rfl)) dX9_digest_24 ⟨Nat.le_of_ble_eq_true rfl, Nat.le_of_ble_eq_true rfl⟩) hD hS hA (fun r8 ad4 C4 H locs hw8 hP hD hS => ?_)
  dsimp only at hw8
  obtain ⟨hr8, e4, c4, q4_t⟩ := hw8
  refine lv_asI hr8 ?_
  have k4_mo : C4 mo = ob 9 [.int (nI 0), .ref (ad4 (mo + 1)), .ref (ad4 (mo + 2)), .ref (ad4 (mo + 3)), .ref (ad4 (mo + 4)), .int (nI 0), .ref (ad4 (mo + 5)), .ref (ad4 (mo + 6))] := (c4 _ (by omega)).trans ((k3_mo).trans (by first | (rw [e4 (mo + 1) (by omega), e4 (mo + 2) (by omega), e4 (mo + 3) (by omega), e4 (mo + 4) (by omega), e4 (mo + 5) (by omega), e4 (mo + 6) (by omega)]; done) | (rw [e4 (mo + 1) (by omega), e4 (mo + 2) (by omega), e4 (mo + 3) (by omega), e4 (mo + 4) (by omega), e4 (mo + 5) (by omega), e4 (mo + 6) (by omega)]; rfl)))
  have k4_mo_1 : C4 (mo + 1) = ia G 192 (fun _ => nI 0) := (c4 _ (by omega)).trans (k3_mo_1)
  have k4_mo_2 : C4 (mo + 2) = ia G 3 (fun _ => nI 4) := (c4 _ (by omega)).trans (k3_mo_2)
  have k4_mo_3 : C4 (mo + 3) = ia G 64 (fun _ => nI 0) := (c4 _ (by omega)).trans (k3_mo_3)
  have k4_mo_4 : C4 (mo + 4) = za G 64 (fun _ => nI 0) := (c4 _ (by omega)).trans (k3_mo_4)
  have k4_mo_5 : C4 (mo + 5) = ob 10 [.int (nI 0), .ref dz, .int (nI 0)] := (c4 _ (by omega)).trans (k3_mo_5)
  have k4_mo_6 : C4 (mo + 6) = ob 10 [.int (nI 0), .ref dz, .int (nI 0)] := (c4 _ (by omega)).trans (k3_mo_6)
  have ea4 : ∀ j, j < N → ad4 j = ad j := fun j h => (e4 j (by omega)).trans (ea3 j h)
  have ca4 : ∀ j, j < N → (j < mo ∨ mo + 7 ≤ j) → C4 j = C j := fun j h hx9 => (c4 j (by omega)).trans (ca3 j h hx9)
  have hl : lv_has ls 8 [(3, .int (nI 3)), (1, .long (286053182 : Int64)), (0, .ref (ad4 mo))] := by rw [e4 mo (by omega)]; exact hl
  refine lv_i2l (v := (nI 0).toInt64) hx hb dX9_digest_27 rfl ?_
  refine lv_ladd hx hb dX9_digest_28 ?_
  refine lv_asL (y := (8867648642 : Int64)) (by decide +kernel) ?_
  refine lv_lstore_n (lv' := [(1, .long (8867648642 : Int64)), (3, .int (nI 3)), (0, .ref (ad4 mo))]) hx hb dX9_digest_29 rfl hl (by decide) rfl (fun ls hl => ?_)
  refine lv_iinc (v := nI 4) (lv' := [(3, .int (nI 4)), (1, .long (8867648642 : Int64)), (0, .ref (ad4 mo))]) hx hb dX9_digest_30 hl (k := 1) rfl (iinc_nat _ 1) (by decide) rfl (fun ls hl => ?_)
  refine lv_goto (tgt := 11) hx hb dX9_digest_33 (by decide) ?_
  refine lv_iload_n hx hb dX9_digest_11 rfl (lv_at hl 0 rfl) ?_
  refine lv_bipush (v := nI 6) hx hb dX9_digest_12 (by decide) ?_
  refine lv_icmp_gt (tgt := 36) hx hb dX9_digest_14 (by decide) (fun c9 => absurd c9 (by decide)) (fun _ => ?_)
  refine lv_lload_n hx hb dX9_digest_17 rfl (lv_at hl 1 rfl) ?_
  refine lv_ldc2 hx hb hown (hts _ il_X9_digest_209) dX9_digest_18 ?_
  refine lv_lmul hx hb dX9_digest_21 ?_
  refine lv_aload_n hx hb dX9_digest_22 rfl (lv_at hl 2 rfl) ?_
  refine lv_iload_n hx hb dX9_digest_23 rfl (lv_at hl 0 rfl) ?_
  have hmq5 : Mod G (N + 4) ad4 (C4) mo dz (nI 0) := ⟨by omega, k4_mo, k4_mo_1, k4_mo_2, k4_mo_3, k4_mo_4, k4_mo_5, k4_mo_6⟩
  refine iwg_i (va_runV (As := [.int (nI 4)]) (rest := [.long ((8867648642 : Int64) * (31))]) ⟨hx, hb, hml, hown, hts⟩ (kX9_manyNow l G (N + 4) ad4 _ mo dz (nI 0) hmq5 (4) (by omega) _) (cwV 1 hts gX9_digest_X9_manyNow rfl rfl rfl (by decide +kernel) ⟨Nat.le_of_ble_eq_true rfl, Nat.le_of_ble_eq_true rfl⟩) (iPVZ hK hV hZ hS hA hP hD (by omega) (k4_mo) rfl [.int (nI 4)]) rfl rfl hl.1 rfl (lv_room (Nat.le_of_ble_eq_true rfl)) dX9_digest_24 ⟨Nat.le_of_ble_eq_true rfl, Nat.le_of_ble_eq_true rfl⟩) hD hS hA (fun r8 ad5 C5 H locs hw8 hP hD hS => ?_)
  dsimp only at hw8
  obtain ⟨hr8, e5, c5, q5_t⟩ := hw8
  refine lv_asI hr8 ?_
  have k5_mo : C5 mo = ob 9 [.int (nI 0), .ref (ad5 (mo + 1)), .ref (ad5 (mo + 2)), .ref (ad5 (mo + 3)), .ref (ad5 (mo + 4)), .int (nI 0), .ref (ad5 (mo + 5)), .ref (ad5 (mo + 6))] := (c5 _ (by omega)).trans ((k4_mo).trans (by first | (rw [e5 (mo + 1) (by omega), e5 (mo + 2) (by omega), e5 (mo + 3) (by omega), e5 (mo + 4) (by omega), e5 (mo + 5) (by omega), e5 (mo + 6) (by omega)]; done) | (rw [e5 (mo + 1) (by omega), e5 (mo + 2) (by omega), e5 (mo + 3) (by omega), e5 (mo + 4) (by omega), e5 (mo + 5) (by omega), e5 (mo + 6) (by omega)]; rfl)))
  have k5_mo_1 : C5 (mo + 1) = ia G 192 (fun _ => nI 0) := (c5 _ (by omega)).trans (k4_mo_1)
  have k5_mo_2 : C5 (mo + 2) = ia G 3 (fun _ => nI 4) := (c5 _ (by omega)).trans (k4_mo_2)
  have k5_mo_3 : C5 (mo + 3) = ia G 64 (fun _ => nI 0) := (c5 _ (by omega)).trans (k4_mo_3)
  have k5_mo_4 : C5 (mo + 4) = za G 64 (fun _ => nI 0) := (c5 _ (by omega)).trans (k4_mo_4)
  have k5_mo_5 : C5 (mo + 5) = ob 10 [.int (nI 0), .ref dz, .int (nI 0)] := (c5 _ (by omega)).trans (k4_mo_5)
  have k5_mo_6 : C5 (mo + 6) = ob 10 [.int (nI 0), .ref dz, .int (nI 0)] := (c5 _ (by omega)).trans (k4_mo_6)
  have ea5 : ∀ j, j < N → ad5 j = ad j := fun j h => (e5 j (by omega)).trans (ea4 j h)
  have ca5 : ∀ j, j < N → (j < mo ∨ mo + 7 ≤ j) → C5 j = C j := fun j h hx9 => (c5 j (by omega)).trans (ca4 j h hx9)
  have hl : lv_has ls 8 [(3, .int (nI 4)), (1, .long (8867648642 : Int64)), (0, .ref (ad5 mo))] := by rw [e5 mo (by omega)]; exact hl
  refine lv_i2l (v := (nI 0).toInt64) hx hb dX9_digest_27 rfl ?_
  refine lv_ladd hx hb dX9_digest_28 ?_
  refine lv_asL (y := (274897107902 : Int64)) (by decide +kernel) ?_
  refine lv_lstore_n (lv' := [(1, .long (274897107902 : Int64)), (3, .int (nI 4)), (0, .ref (ad5 mo))]) hx hb dX9_digest_29 rfl hl (by decide) rfl (fun ls hl => ?_)
  refine lv_iinc (v := nI 5) (lv' := [(3, .int (nI 5)), (1, .long (274897107902 : Int64)), (0, .ref (ad5 mo))]) hx hb dX9_digest_30 hl (k := 1) rfl (iinc_nat _ 1) (by decide) rfl (fun ls hl => ?_)
  refine lv_goto (tgt := 11) hx hb dX9_digest_33 (by decide) ?_
  refine lv_iload_n hx hb dX9_digest_11 rfl (lv_at hl 0 rfl) ?_
  refine lv_bipush (v := nI 6) hx hb dX9_digest_12 (by decide) ?_
  refine lv_icmp_gt (tgt := 36) hx hb dX9_digest_14 (by decide) (fun c9 => absurd c9 (by decide)) (fun _ => ?_)
  refine lv_lload_n hx hb dX9_digest_17 rfl (lv_at hl 1 rfl) ?_
  refine lv_ldc2 hx hb hown (hts _ il_X9_digest_209) dX9_digest_18 ?_
  refine lv_lmul hx hb dX9_digest_21 ?_
  refine lv_aload_n hx hb dX9_digest_22 rfl (lv_at hl 2 rfl) ?_
  refine lv_iload_n hx hb dX9_digest_23 rfl (lv_at hl 0 rfl) ?_
  have hmq6 : Mod G (N + 5) ad5 (C5) mo dz (nI 0) := ⟨by omega, k5_mo, k5_mo_1, k5_mo_2, k5_mo_3, k5_mo_4, k5_mo_5, k5_mo_6⟩
  refine iwg_i (va_runV (As := [.int (nI 5)]) (rest := [.long ((274897107902 : Int64) * (31))]) ⟨hx, hb, hml, hown, hts⟩ (kX9_manyNow l G (N + 5) ad5 _ mo dz (nI 0) hmq6 (5) (by omega) _) (cwV 1 hts gX9_digest_X9_manyNow rfl rfl rfl (by decide +kernel) ⟨Nat.le_of_ble_eq_true rfl, Nat.le_of_ble_eq_true rfl⟩) (iPVZ hK hV hZ hS hA hP hD (by omega) (k5_mo) rfl [.int (nI 5)]) rfl rfl hl.1 rfl (lv_room (Nat.le_of_ble_eq_true rfl)) dX9_digest_24 ⟨Nat.le_of_ble_eq_true rfl, Nat.le_of_ble_eq_true rfl⟩) hD hS hA (fun r8 ad6 C6 H locs hw8 hP hD hS => ?_)
  dsimp only at hw8
  obtain ⟨hr8, e6, c6, q6_t⟩ := hw8
  refine lv_asI hr8 ?_
  have k6_mo : C6 mo = ob 9 [.int (nI 0), .ref (ad6 (mo + 1)), .ref (ad6 (mo + 2)), .ref (ad6 (mo + 3)), .ref (ad6 (mo + 4)), .int (nI 0), .ref (ad6 (mo + 5)), .ref (ad6 (mo + 6))] := (c6 _ (by omega)).trans ((k5_mo).trans (by first | (rw [e6 (mo + 1) (by omega), e6 (mo + 2) (by omega), e6 (mo + 3) (by omega), e6 (mo + 4) (by omega), e6 (mo + 5) (by omega), e6 (mo + 6) (by omega)]; done) | (rw [e6 (mo + 1) (by omega), e6 (mo + 2) (by omega), e6 (mo + 3) (by omega), e6 (mo + 4) (by omega), e6 (mo + 5) (by omega), e6 (mo + 6) (by omega)]; rfl)))
  have k6_mo_1 : C6 (mo + 1) = ia G 192 (fun _ => nI 0) := (c6 _ (by omega)).trans (k5_mo_1)
  have k6_mo_2 : C6 (mo + 2) = ia G 3 (fun _ => nI 4) := (c6 _ (by omega)).trans (k5_mo_2)
  have k6_mo_3 : C6 (mo + 3) = ia G 64 (fun _ => nI 0) := (c6 _ (by omega)).trans (k5_mo_3)
  have k6_mo_4 : C6 (mo + 4) = za G 64 (fun _ => nI 0) := (c6 _ (by omega)).trans (k5_mo_4)
  have k6_mo_5 : C6 (mo + 5) = ob 10 [.int (nI 0), .ref dz, .int (nI 0)] := (c6 _ (by omega)).trans (k5_mo_5)
  have k6_mo_6 : C6 (mo + 6) = ob 10 [.int (nI 0), .ref dz, .int (nI 0)] := (c6 _ (by omega)).trans (k5_mo_6)
  have ea6 : ∀ j, j < N → ad6 j = ad j := fun j h => (e6 j (by omega)).trans (ea5 j h)
  have ca6 : ∀ j, j < N → (j < mo ∨ mo + 7 ≤ j) → C6 j = C j := fun j h hx9 => (c6 j (by omega)).trans (ca5 j h hx9)
  have hl : lv_has ls 8 [(3, .int (nI 5)), (1, .long (274897107902 : Int64)), (0, .ref (ad6 mo))] := by rw [e6 mo (by omega)]; exact hl
  refine lv_i2l (v := (nI 0).toInt64) hx hb dX9_digest_27 rfl ?_
  refine lv_ladd hx hb dX9_digest_28 ?_
  refine lv_asL (y := (8521810344962 : Int64)) (by decide +kernel) ?_
  refine lv_lstore_n (lv' := [(1, .long (8521810344962 : Int64)), (3, .int (nI 5)), (0, .ref (ad6 mo))]) hx hb dX9_digest_29 rfl hl (by decide) rfl (fun ls hl => ?_)
  refine lv_iinc (v := nI 6) (lv' := [(3, .int (nI 6)), (1, .long (8521810344962 : Int64)), (0, .ref (ad6 mo))]) hx hb dX9_digest_30 hl (k := 1) rfl (iinc_nat _ 1) (by decide) rfl (fun ls hl => ?_)
  refine lv_goto (tgt := 11) hx hb dX9_digest_33 (by decide) ?_
  refine lv_iload_n hx hb dX9_digest_11 rfl (lv_at hl 0 rfl) ?_
  refine lv_bipush (v := nI 6) hx hb dX9_digest_12 (by decide) ?_
  refine lv_icmp_gt (tgt := 36) hx hb dX9_digest_14 (by decide) (fun c9 => absurd c9 (by decide)) (fun _ => ?_)
  refine lv_lload_n hx hb dX9_digest_17 rfl (lv_at hl 1 rfl) ?_
  refine lv_ldc2 hx hb hown (hts _ il_X9_digest_209) dX9_digest_18 ?_
  refine lv_lmul hx hb dX9_digest_21 ?_
  refine lv_aload_n hx hb dX9_digest_22 rfl (lv_at hl 2 rfl) ?_
  refine lv_iload_n hx hb dX9_digest_23 rfl (lv_at hl 0 rfl) ?_
  have hmq7 : Mod G (N + 6) ad6 (C6) mo dz (nI 0) := ⟨by omega, k6_mo, k6_mo_1, k6_mo_2, k6_mo_3, k6_mo_4, k6_mo_5, k6_mo_6⟩
  refine iwg_i (va_runV (As := [.int (nI 6)]) (rest := [.long ((8521810344962 : Int64) * (31))]) ⟨hx, hb, hml, hown, hts⟩ (kX9_manyNow l G (N + 6) ad6 _ mo dz (nI 0) hmq7 (6) (by omega) _) (cwV 1 hts gX9_digest_X9_manyNow rfl rfl rfl (by decide +kernel) ⟨Nat.le_of_ble_eq_true rfl, Nat.le_of_ble_eq_true rfl⟩) (iPVZ hK hV hZ hS hA hP hD (by omega) (k6_mo) rfl [.int (nI 6)]) rfl rfl hl.1 rfl (lv_room (Nat.le_of_ble_eq_true rfl)) dX9_digest_24 ⟨Nat.le_of_ble_eq_true rfl, Nat.le_of_ble_eq_true rfl⟩) hD hS hA (fun r8 ad7 C7 H locs hw8 hP hD hS => ?_)
  dsimp only at hw8
  obtain ⟨hr8, e7, c7, q7_t⟩ := hw8
  refine lv_asI hr8 ?_
  have k7_mo : C7 mo = ob 9 [.int (nI 0), .ref (ad7 (mo + 1)), .ref (ad7 (mo + 2)), .ref (ad7 (mo + 3)), .ref (ad7 (mo + 4)), .int (nI 0), .ref (ad7 (mo + 5)), .ref (ad7 (mo + 6))] := (c7 _ (by omega)).trans ((k6_mo).trans (by first | (rw [e7 (mo + 1) (by omega), e7 (mo + 2) (by omega), e7 (mo + 3) (by omega), e7 (mo + 4) (by omega), e7 (mo + 5) (by omega), e7 (mo + 6) (by omega)]; done) | (rw [e7 (mo + 1) (by omega), e7 (mo + 2) (by omega), e7 (mo + 3) (by omega), e7 (mo + 4) (by omega), e7 (mo + 5) (by omega), e7 (mo + 6) (by omega)]; rfl)))
  have k7_mo_1 : C7 (mo + 1) = ia G 192 (fun _ => nI 0) := (c7 _ (by omega)).trans (k6_mo_1)
  have k7_mo_2 : C7 (mo + 2) = ia G 3 (fun _ => nI 4) := (c7 _ (by omega)).trans (k6_mo_2)
  have k7_mo_3 : C7 (mo + 3) = ia G 64 (fun _ => nI 0) := (c7 _ (by omega)).trans (k6_mo_3)
  have k7_mo_4 : C7 (mo + 4) = za G 64 (fun _ => nI 0) := (c7 _ (by omega)).trans (k6_mo_4)
  have k7_mo_5 : C7 (mo + 5) = ob 10 [.int (nI 0), .ref dz, .int (nI 0)] := (c7 _ (by omega)).trans (k6_mo_5)
  have k7_mo_6 : C7 (mo + 6) = ob 10 [.int (nI 0), .ref dz, .int (nI 0)] := (c7 _ (by omega)).trans (k6_mo_6)
  have ea7 : ∀ j, j < N → ad7 j = ad j := fun j h => (e7 j (by omega)).trans (ea6 j h)
  have ca7 : ∀ j, j < N → (j < mo ∨ mo + 7 ≤ j) → C7 j = C j := fun j h hx9 => (c7 j (by omega)).trans (ca6 j h hx9)
  have hl : lv_has ls 8 [(3, .int (nI 6)), (1, .long (8521810344962 : Int64)), (0, .ref (ad7 mo))] := by rw [e7 mo (by omega)]; exact hl
  refine lv_i2l (v := (nI 0).toInt64) hx hb dX9_digest_27 rfl ?_
  refine lv_ladd hx hb dX9_digest_28 ?_
  refine lv_asL (y := (264176120693822 : Int64)) (by decide +kernel) ?_
  refine lv_lstore_n (lv' := [(1, .long (264176120693822 : Int64)), (3, .int (nI 6)), (0, .ref (ad7 mo))]) hx hb dX9_digest_29 rfl hl (by decide) rfl (fun ls hl => ?_)
  refine lv_iinc (v := nI 7) (lv' := [(3, .int (nI 7)), (1, .long (264176120693822 : Int64)), (0, .ref (ad7 mo))]) hx hb dX9_digest_30 hl (k := 1) rfl (iinc_nat _ 1) (by decide) rfl (fun ls hl => ?_)
  refine lv_goto (tgt := 11) hx hb dX9_digest_33 (by decide) ?_
  refine lv_iload_n hx hb dX9_digest_11 rfl (lv_at hl 0 rfl) ?_
  refine lv_bipush (v := nI 6) hx hb dX9_digest_12 (by decide) ?_
  refine lv_icmp_gt (tgt := 36) hx hb dX9_digest_14 (by decide) (fun _ => ?_) (fun c9 => absurd (by decide) c9)
  refine lv_iconst (v := nI 0) hx hb dX9_digest_36 (by decide) ?_
  refine lv_istore_n (lv' := [(3, .int (nI 0)), (1, .long (264176120693822 : Int64)), (0, .ref (ad7 mo))]) hx hb dX9_digest_37 rfl hl (by decide) rfl (fun ls hl => ?_)
  refine lv_iload_n hx hb dX9_digest_38 rfl (lv_at hl 0 rfl) ?_
  refine lv_aload_n hx hb dX9_digest_39 rfl (lv_at hl 2 rfl) ?_
  refine iw_get hx hb hts iu_X9_digest_9 hown hK hP (by omega) (k7_mo) rfl 6 (by decide) (hts _ il_X9_digest_26) (fun _ h9 => h9) rfl dX9_digest_40 ?_
  refine iw5_i (va_runF (hK.1.1 10 _ rfl).2 (As := []) (rest := [.int (nI 0)]) ⟨hx, hb, hml, hown, hts⟩ (kJx4a65c_size_8abf5 l G _ ad7 _ (by omega) (k7_mo_5) _) (va_cwF 0 hts gX9_digest_Jx4a65c_size_8abf5_f41Jx4a65c rfl rfl rfl (vx_fSize hV) (by decide +kernel) ⟨Nat.le_of_ble_eq_true rfl, Nat.le_of_ble_eq_true rfl⟩) (iPV hK hP hD (by omega) (k7_mo_5) rfl []) rfl rfl hl.1 rfl (lv_room (Nat.le_of_ble_eq_true rfl)) dX9_digest_43 ⟨Nat.le_of_ble_eq_true rfl, Nat.le_of_ble_eq_true rfl⟩) hD hS hA (fun r8 u8 H locs hw8 hP hD hS => ?_)
  obtain ⟨hr8, hu8⟩ := hw8
  refine lv_asI hr8 ?_
  rw [hu8] at hP hD
  refine lv_icmp_ge (tgt := 189) hx hb dX9_digest_48 (by decide) (fun _ => ?_) (fun c9 => absurd (by decide) c9)
  refine lv_iconst (v := nI 0) hx hb dX9_digest_189 (by decide) ?_
  refine lv_istore_n (lv' := [(3, .int (nI 0)), (1, .long (264176120693822 : Int64)), (0, .ref (ad7 mo))]) hx hb dX9_digest_190 rfl hl (by decide) rfl (fun ls hl => ?_)
  refine lv_iload_n hx hb dX9_digest_191 rfl (lv_at hl 0 rfl) ?_
  refine lv_aload_n hx hb dX9_digest_192 rfl (lv_at hl 2 rfl) ?_
  refine iw_get hx hb hts iu_X9_digest_9 hown hK hP (by omega) (k7_mo) rfl 7 (by decide) (hts _ il_X9_digest_30) (fun _ h9 => h9) rfl dX9_digest_193 ?_
  refine iw5_i (va_runF (hK.1.1 10 _ rfl).2 (As := []) (rest := [.int (nI 0)]) ⟨hx, hb, hml, hown, hts⟩ (kJx4a65c_size_8abf5 l G _ ad7 _ (by omega) (k7_mo_6) _) (va_cwF 0 hts gX9_digest_Jx4a65c_size_8abf5_f41Jx4a65c rfl rfl rfl (vx_fSize hV) (by decide +kernel) ⟨Nat.le_of_ble_eq_true rfl, Nat.le_of_ble_eq_true rfl⟩) (iPV hK hP hD (by omega) (k7_mo_6) rfl []) rfl rfl hl.1 rfl (lv_room (Nat.le_of_ble_eq_true rfl)) dX9_digest_196 ⟨Nat.le_of_ble_eq_true rfl, Nat.le_of_ble_eq_true rfl⟩) hD hS hA (fun r8 u8 H locs hw8 hP hD hS => ?_)
  obtain ⟨hr8, hu8⟩ := hw8
  refine lv_asI hr8 ?_
  rw [hu8] at hP hD
  refine lv_icmp_ge (tgt := 240) hx hb dX9_digest_201 (by decide) (fun _ => ?_) (fun c9 => absurd (by decide) c9)
  refine lv_lload_n hx hb dX9_digest_240 rfl (lv_at hl 1 rfl) ?_
  refine lv_ldc2 hx hb hown (hts _ il_X9_digest_209) dX9_digest_241 ?_
  refine lv_lmul hx hb dX9_digest_244 ?_
  refine lv_aload_n hx hb dX9_digest_245 rfl (lv_at hl 2 rfl) ?_
  refine lv_bipush (v := nI 16) hx hb dX9_digest_246 (by decide) ?_
  refine lv_iconst (v := nI 1) hx hb dX9_digest_248 (by decide) ?_
  refine lv_iconst (v := nI 0) hx hb dX9_digest_249 (by decide) ?_
  have hmq8 : Mod G (N + 7) ad7 (C7) mo dz (nI 0) := ⟨by omega, k7_mo, k7_mo_1, k7_mo_2, k7_mo_3, k7_mo_4, k7_mo_5, k7_mo_6⟩
  refine iwg_r (k := N + 8) (va_runV (As := [.int (nI 16), .int (nI 1), .int (nI 0)]) (rest := [.long ((264176120693822 : Int64) * (31))]) ⟨hx, hb, hml, hown, hts⟩ (kX9_taken_0 l G (N + 7) ad7 _ mo dz (nI 0) hmq8 (16) (1) (by omega) (by omega) _) (cwV 3 hts gX9_digest_X9_taken rfl rfl rfl (by decide +kernel) ⟨Nat.le_of_ble_eq_true rfl, Nat.le_of_ble_eq_true rfl⟩) (iPVZ hK hV hZ hS hA hP hD (by omega) (k7_mo) rfl [.int (nI 16), .int (nI 1), .int (nI 0)]) rfl rfl hl.1 rfl (lv_room (Nat.le_of_ble_eq_true rfl)) dX9_digest_250 ⟨Nat.le_of_ble_eq_true rfl, Nat.le_of_ble_eq_true rfl⟩) hD hS hA (fun ad8 C8 H locs hw8 hP hD hS => ?_)
  dsimp only at hw8
  obtain ⟨e8, c8, q8_m, q8_r, q8_f⟩ := hw8
  have k8_mo_1 : C8 (mo + 1) = ia G 192 (fun _ => nI 0) := (c8 _ (by omega)).trans (k7_mo_1)
  have k8_mo_2 : C8 (mo + 2) = ia G 3 (fun _ => nI 4) := (c8 _ (by omega)).trans (k7_mo_2)
  have k8_mo_3 : C8 (mo + 3) = ia G 64 (fun _ => nI 0) := (c8 _ (by omega)).trans (k7_mo_3)
  have k8_mo_4 : C8 (mo + 4) = za G 64 (fun _ => nI 0) := (c8 _ (by omega)).trans (k7_mo_4)
  have k8_mo_5 : C8 (mo + 5) = ob 10 [.int (nI 0), .ref dz, .int (nI 0)] := (c8 _ (by omega)).trans (k7_mo_5)
  have k8_mo_6 : C8 (mo + 6) = ob 10 [.int (nI 0), .ref dz, .int (nI 0)] := (c8 _ (by omega)).trans (k7_mo_6)
  have ea8 : ∀ j, j < N → ad8 j = ad j := fun j h => (e8 j (by omega)).trans (ea7 j h)
  have ca8 : ∀ j, j < N → (j < mo ∨ mo + 7 ≤ j) → C8 j = C j := fun j h hx9 => (c8 j (by omega)).trans (ca7 j h hx9)
  have hl : lv_has ls 8 [(3, .int (nI 0)), (1, .long (264176120693822 : Int64)), (0, .ref (ad8 mo))] := by rw [e8 mo (by omega)]; exact hl
  refine iw_i (va_runV (As := []) (rest := [.long ((264176120693822 : Int64) * (31))]) ⟨hx, hb, hml, hown, hts⟩ (kX7_clipped l G _ ad8 _ (N + 8) (N + 7) R0 _ _ _ _ (by omega) (by omega) (q8_f) (q8_r) R0_le _) (cwV 0 hts gX9_digest_X7_clipped rfl rfl rfl (by decide +kernel) ⟨Nat.le_of_ble_eq_true rfl, Nat.le_of_ble_eq_true rfl⟩) (iPV hK hP hD (by omega) (q8_f) rfl []) rfl rfl hl.1 rfl (lv_room (Nat.le_of_ble_eq_true rfl)) dX9_digest_253 ⟨Nat.le_of_ble_eq_true rfl, Nat.le_of_ble_eq_true rfl⟩) hD hS hA (fun r8 u8 H locs hw8 hP hD hS => ?_)
  obtain ⟨hr8, hu8⟩ := hw8
  refine lv_asI hr8 ?_
  rw [hu8] at hP hD
  refine lv_asI (y := nI 0) (congrArg nI cl0) ?_
  refine lv_i2l (v := (nI 0).toInt64) hx hb dX9_digest_256 rfl ?_
  refine lv_ladd hx hb dX9_digest_257 ?_
  refine lv_asL (y := (8189459741508482 : Int64)) (by decide +kernel) ?_
  refine W.widen (k := 10) (n := 121) (Nat.le_of_ble_eq_true rfl) (Nat.le_of_ble_eq_true rfl) ?_
  exact W.lret (v := (8189459741508482 : Int64)) hx hb hr (fun t ht hW => ⟨⟨_, (ad8, C8), rfl, ⟨rfl, ⟨ea8, fun j h hx9 => ca8 j h hx9, ⟨_, q8_m⟩⟩⟩, ⟨by rw [ht]; exact hP, hD⟩⟩, hS.F ht⟩) hS.2.2 dX9_digest_258
set_option maxRecDepth 20000 in
theorem il_X9_paint_9 : (Cond.fieldLink RX9 9 "BayerGateModel" "scene" "[I") ∈ wsX9_paint := by decide +kernel
set_option maxRecDepth 20000 in
theorem il_X9_paint_60 : (Cond.constant RX9 60 (65536)) ∈ wsX9_paint := by decide +kernel
set_option maxHeartbeats 4000000 in
set_option maxRecDepth 100000 in
theorem lX9_paint_x {p : Program} {l : Launch} {e : Env} {s : State} {m : MethodId} {args : Array Value} {below : List Frame} {meth : Method} {c : Code} {Q : State → Prop} {A : Nat → Prop} {H0 : Heap} {cells slots : Nat} (hx : p.tables.exec = Jvm.exec) (hb : c.code = cX9_paint) (hml : c.maxLocals = 8) (hr : meth.sig.returnType = (some .int)) (hts : ∀ w ∈ wsX9_paint, w.before args s = true) (hown : s.vm.findClass RX9 = some m.cls) {G : iG} (hK : KB G s) (hA : ∀ q, H0.size ≤ q → A q) {N : Nat} {ad : Nat → Nat} {C : Nat → va_E}  (hcc : cells ≤ rmX9_paint.cells) (hcs : slots ≤ rmX9_paint.slots) {mo dz : Nat} {th : Int32} (hmod : Mod G N ad C mo dz th) {x y tx ty co : Nat} (hxy : x ≤ tx ∧ tx < 8 ∧ y ≤ ty ∧ ty < 8) (hco : co < 16777216) {j : Nat} (hj : y + j ≤ ty) (kx : ∀ (f : Nat → Int32) (H : Heap) (locs : List Loc) (ls : Array Slot), va_P G.1 vwB (wl N ad (va_up (va_up C mo (ob 9 [.int (nI 0), .ref (ad (mo + 1)), .ref (ad (mo + 2)), .ref (ad (mo + 3)), .ref (ad (mo + 4)), .int (nI 0), .ref (ad (mo + 5)), .ref (ad (mo + 6))])) (mo + 1) (ia G 192 f))) H → va_D A (wl N ad (va_up (va_up C mo (ob 9 [.int (nI 0), .ref (ad (mo + 1)), .ref (ad (mo + 2)), .ref (ad (mo + 3)), .ref (ad (mo + 4)), .int (nI 0), .ref (ad (mo + 5)), .ref (ad (mo + 6))])) (mo + 1) (ia G 192 f))) → va_S A H0 H locs → lv_has ls 8 [(6, .int (nI (y + j))), (0, .ref (ad mo)), (1, .int (nI x)), (2, .int (nI y)), (3, .int (nI tx)), (4, .int (nI ty)), (5, .int (nI co))] → W p l e rmX9_paint s m args below meth c H locs cells slots Q (F0 m 148 ls [])) : ∀ (d : Nat) (i : Nat) (f : Nat → Int32) (H : Heap) (locs : List Loc) (ls : Array Slot), tx + 1 - (x + i) < d → x + i ≤ tx + 1 → va_P G.1 vwB (wl N ad (va_up (va_up C mo (ob 9 [.int (nI 0), .ref (ad (mo + 1)), .ref (ad (mo + 2)), .ref (ad (mo + 3)), .ref (ad (mo + 4)), .int (nI 0), .ref (ad (mo + 5)), .ref (ad (mo + 6))])) (mo + 1) (ia G 192 f))) H → va_D A (wl N ad (va_up (va_up C mo (ob 9 [.int (nI 0), .ref (ad (mo + 1)), .ref (ad (mo + 2)), .ref (ad (mo + 3)), .ref (ad (mo + 4)), .int (nI 0), .ref (ad (mo + 5)), .ref (ad (mo + 6))])) (mo + 1) (ia G 192 f))) → va_S A H0 H locs → lv_has ls 8 [(7, .int (nI (x + i))), (6, .int (nI (y + j))), (0, .ref (ad mo)), (1, .int (nI x)), (2, .int (nI y)), (3, .int (nI tx)), (4, .int (nI ty)), (5, .int (nI co))] → W p l e rmX9_paint s m args below meth c H locs cells slots Q (F0 m 69 ls []) := by
  intro d
  induction d with
  | zero => intro i f H locs ls hd; exact absurd hd (Nat.not_lt_zero _)
  | succ d ih =>
    intro i f H locs ls hd h2 hP hD hS hl
    obtain ⟨hN, gm0, gm1, gm2, gm3, gm4, gm5, gm6⟩ := id hmod
    refine lv_iload hx hb dX9_paint_69 (lv_at hl 0 rfl) ?_
    refine lv_iload_n hx hb dX9_paint_71 rfl (lv_at hl 5 rfl) ?_
    refine lv_icmp_gt (tgt := 148) hx hb dX9_paint_72 (by decide) (fun c72 => ?_) (fun c72 => ?_)
    · have h5 : i = tx - x + 1 := by have := (nI_ltI (by omega) (by omega)).mp c72; omega
      exact kx f H locs ls hP hD hS (lv_sub hl [1, 2, 3, 4, 5, 6, 7] rfl)
    · have h4 : x + i ≤ tx := by have := mt (nI_ltI (by omega) (by omega)).mpr c72; omega
      refine lv_aload_n hx hb dX9_paint_75 rfl (lv_at hl 2 rfl) ?_
      refine iw_get hx hb hts iu_X9_paint_9 hown hK hP (by omega) ((va_un _ _ (by omega)).trans (va_us _ _ _)) rfl 1 (by decide) (hts _ il_X9_paint_9) (fun _ h9 => h9) rfl dX9_paint_76 ?_
      refine lv_iconst (v := nI 3) hx hb dX9_paint_79 (by decide) ?_
      refine lv_iload hx hb dX9_paint_80 (lv_at hl 0 rfl) ?_
      refine lv_iload hx hb dX9_paint_82 (lv_at hl 1 rfl) ?_
      refine iw_pi (va_runS (As := [.int (nI (x + i)), .int (nI (y + j))]) (rest := [.int (nI 3), .ref (ad (mo + 1))]) ⟨hx, hb, hml, hown, hts⟩ (kX9_at l (x + i) (y + j)) (va_cwS 2 hts gX9_paint_X9_at rfl rfl rfl (by decide +kernel) ⟨Nat.le_of_ble_eq_true rfl, Nat.le_of_ble_eq_true rfl⟩) ⟨fun a U g mk q => q, fun U hU hW => ⟨rfl, trivial⟩⟩ rfl rfl hl.1 rfl (lv_room (Nat.le_of_ble_eq_true rfl)) dX9_paint_84 ⟨hcc, hcs⟩) hP hS (fun r8 u8 H locs hw8 hP hS => ?_)
      refine lv_asI hw8 ?_
      refine lv_imul hx hb dX9_paint_87 ?_
      refine lv_asI (y := nI (3 * (8 * (y + j) + (x + i)))) (pk_mul _ _) ?_
      refine lv_iload hx hb dX9_paint_88 (lv_at hl 7 rfl) ?_
      refine lv_sipush (v := nI 256) hx hb dX9_paint_90 (by decide) ?_
      refine lv_irem hx hb dX9_paint_93 (by decide) ?_
      refine lv_asI (y := nI (co % 256)) (pk_rem (by omega) (by omega) (by omega)) ?_
      refine iw_iast hx hb hK hP hD hS (by omega) (va_us _ _ _) (vp_in_nI (show 3 * (8 * (y + j) + (x + i)) < 192 by omega) (by omega)) (nI_clamp (by omega)) dX9_paint_94 (fun H locs hP hD hS => ?_)
      rw [va_uu _ _ _ _] at hP hD
      refine lv_aload_n hx hb dX9_paint_95 rfl (lv_at hl 2 rfl) ?_
      refine iw_get hx hb hts iu_X9_paint_9 hown hK hP (by omega) ((va_un _ _ (by omega)).trans (va_us _ _ _)) rfl 1 (by decide) (hts _ il_X9_paint_9) (fun _ h9 => h9) rfl dX9_paint_96 ?_
      refine lv_iconst (v := nI 3) hx hb dX9_paint_99 (by decide) ?_
      refine lv_iload hx hb dX9_paint_100 (lv_at hl 0 rfl) ?_
      refine lv_iload hx hb dX9_paint_102 (lv_at hl 1 rfl) ?_
      refine iw_pi (va_runS (As := [.int (nI (x + i)), .int (nI (y + j))]) (rest := [.int (nI 3), .ref (ad (mo + 1))]) ⟨hx, hb, hml, hown, hts⟩ (kX9_at l (x + i) (y + j)) (va_cwS 2 hts gX9_paint_X9_at rfl rfl rfl (by decide +kernel) ⟨Nat.le_of_ble_eq_true rfl, Nat.le_of_ble_eq_true rfl⟩) ⟨fun a U g mk q => q, fun U hU hW => ⟨rfl, trivial⟩⟩ rfl rfl hl.1 rfl (lv_room (Nat.le_of_ble_eq_true rfl)) dX9_paint_104 ⟨hcc, hcs⟩) hP hS (fun r8 u8 H locs hw8 hP hS => ?_)
      refine lv_asI hw8 ?_
      refine lv_imul hx hb dX9_paint_107 ?_
      refine lv_asI (y := nI (3 * (8 * (y + j) + (x + i)))) (pk_mul _ _) ?_
      refine lv_iconst (v := nI 1) hx hb dX9_paint_108 (by decide) ?_
      refine lv_iadd hx hb dX9_paint_109 ?_
      refine lv_asI (y := nI ((3 * (8 * (y + j) + (x + i))) + 1)) (nI_add _ _) ?_
      refine lv_iload hx hb dX9_paint_110 (lv_at hl 7 rfl) ?_
      refine lv_sipush (v := nI 256) hx hb dX9_paint_112 (by decide) ?_
      refine lv_idiv hx hb dX9_paint_115 (by decide) ?_
      refine lv_asI (y := nI (co / 256)) (pk_div (by omega) (by omega) (by omega)) ?_
      refine lv_sipush (v := nI 256) hx hb dX9_paint_116 (by decide) ?_
      refine lv_irem hx hb dX9_paint_119 (by decide) ?_
      refine lv_asI (y := nI ((co / 256) % 256)) (pk_rem (by omega) (by omega) (by omega)) ?_
      refine iw_iast hx hb hK hP hD hS (by omega) (va_us _ _ _) (vp_in_nI (show (3 * (8 * (y + j) + (x + i))) + 1 < 192 by omega) (by omega)) (nI_clamp (by omega)) dX9_paint_120 (fun H locs hP hD hS => ?_)
      rw [va_uu _ _ _ _] at hP hD
      refine lv_aload_n hx hb dX9_paint_121 rfl (lv_at hl 2 rfl) ?_
      refine iw_get hx hb hts iu_X9_paint_9 hown hK hP (by omega) ((va_un _ _ (by omega)).trans (va_us _ _ _)) rfl 1 (by decide) (hts _ il_X9_paint_9) (fun _ h9 => h9) rfl dX9_paint_122 ?_
      refine lv_iconst (v := nI 3) hx hb dX9_paint_125 (by decide) ?_
      refine lv_iload hx hb dX9_paint_126 (lv_at hl 0 rfl) ?_
      refine lv_iload hx hb dX9_paint_128 (lv_at hl 1 rfl) ?_
      refine iw_pi (va_runS (As := [.int (nI (x + i)), .int (nI (y + j))]) (rest := [.int (nI 3), .ref (ad (mo + 1))]) ⟨hx, hb, hml, hown, hts⟩ (kX9_at l (x + i) (y + j)) (va_cwS 2 hts gX9_paint_X9_at rfl rfl rfl (by decide +kernel) ⟨Nat.le_of_ble_eq_true rfl, Nat.le_of_ble_eq_true rfl⟩) ⟨fun a U g mk q => q, fun U hU hW => ⟨rfl, trivial⟩⟩ rfl rfl hl.1 rfl (lv_room (Nat.le_of_ble_eq_true rfl)) dX9_paint_130 ⟨hcc, hcs⟩) hP hS (fun r8 u8 H locs hw8 hP hS => ?_)
      refine lv_asI hw8 ?_
      refine lv_imul hx hb dX9_paint_133 ?_
      refine lv_asI (y := nI (3 * (8 * (y + j) + (x + i)))) (pk_mul _ _) ?_
      refine lv_iconst (v := nI 2) hx hb dX9_paint_134 (by decide) ?_
      refine lv_iadd hx hb dX9_paint_135 ?_
      refine lv_asI (y := nI ((3 * (8 * (y + j) + (x + i))) + 2)) (nI_add _ _) ?_
      refine lv_iload hx hb dX9_paint_136 (lv_at hl 7 rfl) ?_
      refine lv_ldc hx hb hown (hts _ il_X9_paint_60) dX9_paint_138 ?_
      refine lv_asI (y := nI 65536) (by decide) ?_
      refine lv_idiv hx hb dX9_paint_140 (by decide) ?_
      refine lv_asI (y := nI (co / 65536)) (pk_div (by omega) (by omega) (by omega)) ?_
      refine iw_iast hx hb hK hP hD hS (by omega) (va_us _ _ _) (vp_in_nI (show (3 * (8 * (y + j) + (x + i))) + 2 < 192 by omega) (by omega)) (nI_clamp (by omega)) dX9_paint_141 (fun H locs hP hD hS => ?_)
      rw [va_uu _ _ _ _] at hP hD
      refine lv_iinc (v := nI ((x + i) + 1)) (lv' := [(7, .int (nI ((x + i) + 1))), (6, .int (nI (y + j))), (0, .ref (ad mo)), (1, .int (nI x)), (2, .int (nI y)), (3, .int (nI tx)), (4, .int (nI ty)), (5, .int (nI co))]) hx hb dX9_paint_142 hl (k := 0) rfl (iinc_nat _ 1) (by decide) rfl (fun ls hl => ?_)
      refine lv_goto (tgt := 69) hx hb dX9_paint_145 (by decide) ?_
      exact ih (i + 1) (upd (upd (upd f (3 * (8 * (y + j) + (x + i))) (nI (co % 256))) ((3 * (8 * (y + j) + (x + i))) + 1) (nI ((co / 256) % 256))) ((3 * (8 * (y + j) + (x + i))) + 2) (nI (co / 65536))) H locs ls (by omega) (by omega) hP hD hS (lv_sub hl [0, 1, 2, 3, 4, 5, 6, 7] rfl)
set_option maxHeartbeats 4000000 in
set_option maxRecDepth 100000 in
theorem lX9_paint_y {p : Program} {l : Launch} {e : Env} {s : State} {m : MethodId} {args : Array Value} {below : List Frame} {meth : Method} {c : Code} {Q : State → Prop} {A : Nat → Prop} {H0 : Heap} {cells slots : Nat} (hx : p.tables.exec = Jvm.exec) (hb : c.code = cX9_paint) (hml : c.maxLocals = 8) (hr : meth.sig.returnType = (some .int)) (hts : ∀ w ∈ wsX9_paint, w.before args s = true) (hown : s.vm.findClass RX9 = some m.cls) {G : iG} (hK : KB G s) (hA : ∀ q, H0.size ≤ q → A q) {N : Nat} {ad : Nat → Nat} {C : Nat → va_E}  (hcc : cells ≤ rmX9_paint.cells) (hcs : slots ≤ rmX9_paint.slots) {mo dz : Nat} {th : Int32} (hmod : Mod G N ad C mo dz th) {x y tx ty co : Nat} (hxy : x ≤ tx ∧ tx < 8 ∧ y ≤ ty ∧ ty < 8) (hco : co < 16777216) (kx : ∀ (f : Nat → Int32) (H : Heap) (locs : List Loc) (ls : Array Slot), va_P G.1 vwB (wl N ad (va_up (va_up C mo (ob 9 [.int (nI 0), .ref (ad (mo + 1)), .ref (ad (mo + 2)), .ref (ad (mo + 3)), .ref (ad (mo + 4)), .int (nI 0), .ref (ad (mo + 5)), .ref (ad (mo + 6))])) (mo + 1) (ia G 192 f))) H → va_D A (wl N ad (va_up (va_up C mo (ob 9 [.int (nI 0), .ref (ad (mo + 1)), .ref (ad (mo + 2)), .ref (ad (mo + 3)), .ref (ad (mo + 4)), .int (nI 0), .ref (ad (mo + 5)), .ref (ad (mo + 6))])) (mo + 1) (ia G 192 f))) → va_S A H0 H locs → lv_has ls 8 [(0, .ref (ad mo)), (1, .int (nI x)), (2, .int (nI y)), (3, .int (nI tx)), (4, .int (nI ty)), (5, .int (nI co))] → W p l e rmX9_paint s m args below meth c H locs cells slots Q (F0 m 154 ls [])) : ∀ (d : Nat) (j : Nat) (f : Nat → Int32) (H : Heap) (locs : List Loc) (ls : Array Slot), ty + 1 - (y + j) < d → y + j ≤ ty + 1 → va_P G.1 vwB (wl N ad (va_up (va_up C mo (ob 9 [.int (nI 0), .ref (ad (mo + 1)), .ref (ad (mo + 2)), .ref (ad (mo + 3)), .ref (ad (mo + 4)), .int (nI 0), .ref (ad (mo + 5)), .ref (ad (mo + 6))])) (mo + 1) (ia G 192 f))) H → va_D A (wl N ad (va_up (va_up C mo (ob 9 [.int (nI 0), .ref (ad (mo + 1)), .ref (ad (mo + 2)), .ref (ad (mo + 3)), .ref (ad (mo + 4)), .int (nI 0), .ref (ad (mo + 5)), .ref (ad (mo + 6))])) (mo + 1) (ia G 192 f))) → va_S A H0 H locs → lv_has ls 8 [(6, .int (nI (y + j))), (0, .ref (ad mo)), (1, .int (nI x)), (2, .int (nI y)), (3, .int (nI tx)), (4, .int (nI ty)), (5, .int (nI co))] → W p l e rmX9_paint s m args below meth c H locs cells slots Q (F0 m 59 ls []) := by
  intro d
  induction d with
  | zero => intro j f H locs ls hd; exact absurd hd (Nat.not_lt_zero _)
  | succ d ih =>
    intro j f H locs ls hd h2 hP hD hS hl
    obtain ⟨hN, gm0, gm1, gm2, gm3, gm4, gm5, gm6⟩ := id hmod
    refine lv_iload hx hb dX9_paint_59 (lv_at hl 0 rfl) ?_
    refine lv_iload hx hb dX9_paint_61 (lv_at hl 5 rfl) ?_
    refine lv_icmp_gt (tgt := 154) hx hb dX9_paint_63 (by decide) (fun c63 => ?_) (fun c63 => ?_)
    · have h5 : j = ty - y + 1 := by have := (nI_ltI (by omega) (by omega)).mp c63; omega
      exact kx f H locs ls hP hD hS (lv_sub hl [1, 2, 3, 4, 5, 6] rfl)
    · have h4 : y + j ≤ ty := by have := mt (nI_ltI (by omega) (by omega)).mpr c63; omega
      refine lv_iload_n hx hb dX9_paint_66 rfl (lv_at hl 2 rfl) ?_
      refine lv_istore (lv' := [(7, .int (nI x)), (6, .int (nI (y + j))), (0, .ref (ad mo)), (1, .int (nI x)), (2, .int (nI y)), (3, .int (nI tx)), (4, .int (nI ty)), (5, .int (nI co))]) hx hb dX9_paint_67 hl (by decide) rfl (fun ls hl => ?_)
      refine lX9_paint_x hx hb hml hr hts hown hK hA hcc hcs hmod hxy hco h4 (fun f H locs ls hP hD hS hl => ?_) (tx + 2) 0 f H locs ls (by omega) (by omega) hP hD hS (lv_sub hl [0, 1, 2, 3, 4, 5, 6, 7] rfl)
      refine lv_iinc (v := nI ((y + j) + 1)) (lv' := [(6, .int (nI ((y + j) + 1))), (0, .ref (ad mo)), (1, .int (nI x)), (2, .int (nI y)), (3, .int (nI tx)), (4, .int (nI ty)), (5, .int (nI co))]) hx hb dX9_paint_148 hl (k := 0) rfl (iinc_nat _ 1) (by decide) rfl (fun ls hl => ?_)
      refine lv_goto (tgt := 59) hx hb dX9_paint_151 (by decide) ?_
      exact ih (j + 1) f H locs ls (by omega) (by omega) hP hD hS (lv_sub hl [0, 1, 2, 3, 4, 5, 6] rfl)
set_option maxHeartbeats 4000000 in
set_option maxRecDepth 100000 in
theorem kX9_paint (l : Launch) (G : iG) (N : Nat) (ad : Nat → Nat) (C : Nat → va_E) (mo dz : Nat) (th : Int32) (hmod : Mod G N ad C mo dz th) (x y tx ty co : Nat) (hxy : x ≤ tx ∧ tx < 8 ∧ y ≤ ty ∧ ty < 8) (hco : co < 16777216) (sz : Nat) : Met l yX9_paint wsX9_paint rmX9_paint (iPre G N ad C sz [.ref (ad mo), .int (nI x), .int (nI y), .int (nI tx), .int (nI ty), .int (nI co)]) (va_Qi (fun (r : Int32) (u : Nat → va_E) => r = nI ((tx - x + 1) * (ty - y + 1)) ∧ Thr ad u mo (nI 0) ∧ sameM C u mo) (iB G N ad) (iA N ad sz)) 0 0 (iA N ad sz) := by
  refine Met.ofW (cc := cX9_paint) (maxL := 8) (ret := (some .int)) (by decide) rfl ?_
  intro p e s m args below meth c s₁ B hml hv
  obtain ⟨rfl, hsz, hP, hK, hD0⟩ := hv
  have hx := B.exec
  have hb := B.bytes
  have hr := B.returns
  have hts := atoms_spec (ws := wsX9_paint) B.pre
  have hown : s.vm.findClass RX9 = some m.cls := findClass_of_methodNamed B.named
  have hlocks := B.notSynchronized
  subst hsz
  have hD := wl_self hD0 s.heap.size
  have hA : ∀ q : Nat, s.heap.size ≤ q → iA N ad s.heap.size q := fun q h => Or.inr h
  have hS : va_S (iA N ad s.heap.size) s.heap s.heap [] := va_S.rf
  have hP : va_P G.1 vwB (wl N ad C) s.heap := hP
  have hl := lv_entry ([.ref (ad mo), .int (nI x), .int (nI y), .int (nI tx), .int (nI ty), .int (nI co)]) (n := 8) (Nat.le_of_ble_eq_true rfl)
  rw [lg_entry_eq]
  generalize (lg_sl ([.ref (ad mo), .int (nI x), .int (nI y), .int (nI tx), .int (nI ty), .int (nI co)]) ++ List.replicate (8 - (lg_sl ([.ref (ad mo), .int (nI x), .int (nI y), .int (nI tx), .int (nI ty), .int (nI co)])).length) Slot.unset).toArray = ls at hl ⊢
  have hl : lv_has ls 8 [(0, .ref (ad mo)), (1, .int (nI x)), (2, .int (nI y)), (3, .int (nI tx)), (4, .int (nI ty)), (5, .int (nI co))] := hl
  obtain ⟨hN, gm0, gm1, gm2, gm3, gm4, gm5, gm6⟩ := id hmod
  refine lv_aload_n hx hb dX9_paint_0 rfl (lv_at hl 0 rfl) ?_
  refine lv_iconst (v := nI 0) hx hb dX9_paint_1 (by decide) ?_
  refine iw_put (ty := .int) hx hb hts iu_X9_paint_9 tyX9 tyX9_ok nmX9 hown hK hP hD hS (by omega) (gm0) rfl 0 (by decide) (hts _ il_X9_paint_33) (fun _ h9 => h9) rfl (by decide +kernel) rfl rfl (Nat.le_of_ble_eq_true rfl) rfl dX9_paint_2 (fun H locs hP hD hS => ?_)
  refine lv_iload_n hx hb dX9_paint_5 rfl (lv_at hl 1 rfl) ?_
  refine lv_iload_n hx hb dX9_paint_6 rfl (lv_at hl 2 rfl) ?_
  refine iw_pi (va_runS (As := [.int (nI x), .int (nI y)]) (rest := []) ⟨hx, hb, hml, hown, hts⟩ (kX9_isPlace l (nI x) (nI y)) (va_cwS 2 hts gX9_paint_X9_isPlace rfl rfl rfl (by decide +kernel) ⟨Nat.le_of_ble_eq_true rfl, Nat.le_of_ble_eq_true rfl⟩) ⟨fun a U g mk q => q, fun U hU hW => ⟨rfl, trivial⟩⟩ rfl rfl hl.1 rfl (lv_room (Nat.le_of_ble_eq_true rfl)) dX9_paint_7 ⟨Nat.le_of_ble_eq_true rfl, Nat.le_of_ble_eq_true rfl⟩) hP hS (fun r8 u8 H locs hw8 hP hS => ?_)
  refine lv_asI hw8 ?_
  refine lv_asI (y := nI 1) (by rw [isPl_ok (by omega) (by omega)]; rfl) ?_
  refine lv_if_eq (tgt := 22) hx hb dX9_paint_10 (by decide) (fun c9 => absurd c9 (by decide)) (fun _ => ?_)
  refine lv_iload_n hx hb dX9_paint_13 rfl (lv_at hl 3 rfl) ?_
  refine lv_iload hx hb dX9_paint_14 (lv_at hl 4 rfl) ?_
  refine iw_pi (va_runS (As := [.int (nI tx), .int (nI ty)]) (rest := []) ⟨hx, hb, hml, hown, hts⟩ (kX9_isPlace l (nI tx) (nI ty)) (va_cwS 2 hts gX9_paint_X9_isPlace rfl rfl rfl (by decide +kernel) ⟨Nat.le_of_ble_eq_true rfl, Nat.le_of_ble_eq_true rfl⟩) ⟨fun a U g mk q => q, fun U hU hW => ⟨rfl, trivial⟩⟩ rfl rfl hl.1 rfl (lv_room (Nat.le_of_ble_eq_true rfl)) dX9_paint_16 ⟨Nat.le_of_ble_eq_true rfl, Nat.le_of_ble_eq_true rfl⟩) hP hS (fun r8 u8 H locs hw8 hP hS => ?_)
  refine lv_asI hw8 ?_
  refine lv_asI (y := nI 1) (by rw [isPl_ok (by omega) (by omega)]; rfl) ?_
  refine lv_if_ne (tgt := 28) hx hb dX9_paint_19 (by decide) (fun _ => ?_) (fun c9 => absurd c9 (by decide))
  refine lv_iload_n hx hb dX9_paint_28 rfl (lv_at hl 3 rfl) ?_
  refine lv_iload_n hx hb dX9_paint_29 rfl (lv_at hl 1 rfl) ?_
  refine lv_icmp_lt (tgt := 50) hx hb dX9_paint_30 (by decide) (fun c9 => absurd c9 (nI_nlt (by omega) (by omega))) (fun _ => ?_)
  refine lv_iload hx hb dX9_paint_33 (lv_at hl 4 rfl) ?_
  refine lv_iload_n hx hb dX9_paint_35 rfl (lv_at hl 2 rfl) ?_
  refine lv_icmp_lt (tgt := 50) hx hb dX9_paint_36 (by decide) (fun c9 => absurd c9 (nI_nlt (by omega) (by omega))) (fun _ => ?_)
  refine lv_iload hx hb dX9_paint_39 (lv_at hl 5 rfl) ?_
  refine lv_iconst (v := nI 0) hx hb dX9_paint_41 (by decide) ?_
  refine lv_ldc hx hb hown (hts _ il_X9_paint_55) dX9_paint_42 ?_
  refine lv_asI (y := nI 16777215) (by decide) ?_
  refine iw_pi (va_runS (As := [.int (nI co), .int (nI 0), .int (nI 16777215)]) (rest := []) ⟨hx, hb, hml, hown, hts⟩ (kX9_in l (nI co) (nI 0) (nI 16777215)) (va_cwS 3 hts gX9_paint_X9_in rfl rfl rfl (by decide +kernel) ⟨Nat.le_of_ble_eq_true rfl, Nat.le_of_ble_eq_true rfl⟩) ⟨fun a U g mk q => q, fun U hU hW => ⟨rfl, trivial⟩⟩ rfl rfl hl.1 rfl (lv_room (Nat.le_of_ble_eq_true rfl)) dX9_paint_44 ⟨Nat.le_of_ble_eq_true rfl, Nat.le_of_ble_eq_true rfl⟩) hP hS (fun r8 u8 H locs hw8 hP hS => ?_)
  refine lv_asI hw8 ?_
  refine lv_asI (y := nI 1) (inB_in (nI_nlt (by omega) (by omega)) (nI_le (by omega) (by omega))) ?_
  refine lv_if_ne (tgt := 56) hx hb dX9_paint_47 (by decide) (fun _ => ?_) (fun c9 => absurd c9 (by decide))
  refine lv_iload_n hx hb dX9_paint_56 rfl (lv_at hl 2 rfl) ?_
  refine lv_istore (lv' := [(6, .int (nI y)), (0, .ref (ad mo)), (1, .int (nI x)), (2, .int (nI y)), (3, .int (nI tx)), (4, .int (nI ty)), (5, .int (nI co))]) hx hb dX9_paint_57 hl (by decide) rfl (fun ls hl => ?_)
  have hP := wl_selfE hP ((va_un _ _ (by omega)).trans (gm1))
  have hD := wl_D hD (va_up (va_up C mo (ob 9 [.int (nI 0), .ref (ad (mo + 1)), .ref (ad (mo + 2)), .ref (ad (mo + 3)), .ref (ad (mo + 4)), .int (nI 0), .ref (ad (mo + 5)), .ref (ad (mo + 6))])) (mo + 1) (ia G 192 (fun _ => nI 0)))
  refine lX9_paint_y hx hb hml hr hts hown hK hA (Nat.le_refl _) (Nat.le_refl _) hmod hxy hco (fun f H locs ls hP hD hS hl => ?_) (ty + 2) 0 _ _ _ ls (by omega) (by omega) hP hD hS (lv_sub hl [0, 1, 2, 3, 4, 5, 6] rfl)
  refine lv_iload_n hx hb dX9_paint_154 rfl (lv_at hl 3 rfl) ?_
  refine lv_iload_n hx hb dX9_paint_155 rfl (lv_at hl 1 rfl) ?_
  refine lv_isub hx hb dX9_paint_156 ?_
  refine lv_asI (y := nI (tx - x)) (pk_sub (by omega)) ?_
  refine lv_iconst (v := nI 1) hx hb dX9_paint_157 (by decide) ?_
  refine lv_iadd hx hb dX9_paint_158 ?_
  refine lv_asI (y := nI ((tx - x) + 1)) (nI_add _ _) ?_
  refine lv_iload hx hb dX9_paint_159 (lv_at hl 4 rfl) ?_
  refine lv_iload_n hx hb dX9_paint_161 rfl (lv_at hl 2 rfl) ?_
  refine lv_isub hx hb dX9_paint_162 ?_
  refine lv_asI (y := nI (ty - y)) (pk_sub (by omega)) ?_
  refine lv_iconst (v := nI 1) hx hb dX9_paint_163 (by decide) ?_
  refine lv_iadd hx hb dX9_paint_164 ?_
  refine lv_asI (y := nI ((ty - y) + 1)) (nI_add _ _) ?_
  refine lv_imul hx hb dX9_paint_165 ?_
  refine lv_asI (y := nI (((tx - x) + 1) * ((ty - y) + 1))) (pk_mul _ _) ?_
  exact W.iret (v := (nI (((tx - x) + 1) * ((ty - y) + 1)))) hx hb hr (fun t ht hW => ⟨⟨_, _, rfl, ⟨rfl, ⟨_, (va_un _ _ (by omega)).trans (va_us _ _ _)⟩, sameM_up (sameM_up (sameM_rf) _ (by omega) (by omega)) _ (by omega) (by omega)⟩, iB_of ht hP⟩, hS.F ht⟩) hS.2.2 dX9_paint_166
