set_option maxRecDepth 20000 in
theorem ggX6_take_X6_needExposure : GoodIn wsX6_take wsX6_needExposure := goodIn_ca (goodIn_r _ [8, 9, 10, 7, 11, 12, 13] (by decide +kernel) (by decide +kernel)) (goodIn_sub (fun _ h => List.mem_cons_of_mem _ (List.mem_append_left _ (List.mem_append_right _ h))) (by decide +kernel))
set_option maxRecDepth 20000 in
theorem gX6_take_X6_needExposure : GoodIn wsX6_take (va_wsS RX6 102 yX6_needExposure wsX6_needExposure) := goodIn_app (goodIn_of _ (by decide +kernel)) ggX6_take_X6_needExposure
set_option maxRecDepth 20000 in
theorem ggX6_take_X6_needRoom : GoodIn wsX6_take wsX6_needRoom := goodIn_ca (goodIn_r _ [16, 17, 18] (by decide +kernel) (by decide +kernel)) (goodIn_sub (fun _ h => List.mem_cons_of_mem _ (List.mem_append_right _ h)) (by decide +kernel))
set_option maxRecDepth 20000 in
theorem gX6_take_X6_needRoom : GoodIn wsX6_take (va_wsS RX6 105 yX6_needRoom wsX6_needRoom) := goodIn_app (goodIn_of _ (by decide +kernel)) ggX6_take_X6_needRoom
set_option maxRecDepth 20000 in
theorem ggX6_take_X4_expose : GoodIn wsX6_take wsX4_expose := goodIn_r _ [23, 24, 25, 26, 7, 27, 28, 29, 30, 31, 32, 33, 34, 35, 36, 37, 38, 39, 40, 41, 42, 43, 22, 44, 45, 46, 47, 48, 49, 50, 51, 65, 66, 67, 68, 69, 70, 71, 72, 73, 74, 75] (by decide +kernel) (by decide +kernel)
set_option maxRecDepth 20000 in
theorem gX6_take_X4_expose : GoodIn wsX6_take (wsV RX6 108 RX4 yX4_expose wsX4_expose) := goodIn_app (goodIn_of _ (by decide +kernel)) ggX6_take_X4_expose
set_option maxRecDepth 20000 in
theorem ggX6_take_X4_advance : GoodIn wsX6_take wsX4_advance := goodIn_r _ [55, 24, 65, 66, 67] (by decide +kernel) (by decide +kernel)
set_option maxRecDepth 20000 in
theorem gX6_take_X4_advance : GoodIn wsX6_take (wsV RX6 112 RX4 yX4_advance wsX4_advance) := goodIn_app (goodIn_of _ (by decide +kernel)) ggX6_take_X4_advance
theorem up_take {G : iG} {N : Nat} {ad : Nat → Nat} {C : Nat → va_E} {o : Nat} {S : St} (h : Cam G N ad C o S) {k : Nat} (hk : k < 6) {rw : Nat → Nat} (hv : ∀ i, i < 64 → rw i ≤ 255) (t g q : Int32) : Cam G N ad (va_up (va_up C (o + 20 + 5 * k + 1) (ia G 64 (fun i => nI (rw i)))) (o + 20 + 5 * k) (ob 1 [.ref (ad (o + 20 + 5 * k + 1)), .ref (ad (o + 20 + 5 * k + 2)), .int t, .int g, .int q])) o (mkS (sSh S) (sFac S) (sGq S) (sHw S) (sMp S) (sDr S) (sFn S) (sFl S) (va_up (sFr S) k (rw, (sFr S k).2.1, t, g, q)) (sFi S)) := by
  obtain ⟨hN, ⟨ok1, ok2, ok3, ok4, ok5, ok6, ok7, ok8, ok9⟩, h0, ⟨s1, s2, s3⟩, ⟨e1, e2, e3⟩, h7, h8, ⟨TF, h9⟩, ⟨TD, h14⟩, ⟨TC, h17⟩, hfr, hfi⟩ := h
  exact ⟨hN, ⟨ok1, ok2, ok3, ok4, ok5, ok6, ok7, fun i hi => by
    by_cases e : i = k
    · subst e
      show okFr (va_up (sFr S) i _ i)
      rw [va_us]
      exact ⟨hv, (ok8 i hi).2⟩
    · show okFr (va_up (sFr S) k _ i)
      rw [va_un _ _ e]
      exact ok8 i hi, ok9⟩, ((va_un _ _ (by omega)).trans ((va_un _ _ (by omega)).trans h0)), ⟨((va_un _ _ (by omega)).trans ((va_un _ _ (by omega)).trans s1)), ((va_un _ _ (by omega)).trans ((va_un _ _ (by omega)).trans s2)), ((va_un _ _ (by omega)).trans ((va_un _ _ (by omega)).trans s3))⟩, ⟨((va_un _ _ (by omega)).trans ((va_un _ _ (by omega)).trans e1)), ((va_un _ _ (by omega)).trans ((va_un _ _ (by omega)).trans e2)), ((va_un _ _ (by omega)).trans ((va_un _ _ (by omega)).trans e3))⟩, ((va_un _ _ (by omega)).trans ((va_un _ _ (by omega)).trans h7)), ((va_un _ _ (by omega)).trans ((va_un _ _ (by omega)).trans h8)), ⟨TF, (isFr_up (isFr_up h9 (by omega)) (by omega))⟩, ⟨TD, (isPi_up (isPi_up h14 (by omega)) (by omega))⟩, ⟨TC, (isPi_up (isPi_up h17 (by omega)) (by omega))⟩, fun i hi => by
    by_cases e : i = k
    · subst e
      show isFr G ad _ _ (va_up (sFr S) i _ i)
      rw [va_us]
      obtain ⟨a1, a2, a3, a4, a5⟩ := hfr i hi
      exact ⟨(va_us _ _ _), ((va_un _ _ (by omega)).trans (va_us _ _ _)), ((va_un _ _ (by omega)).trans ((va_un _ _ (by omega)).trans a3)), ((va_un _ _ (by omega)).trans ((va_un _ _ (by omega)).trans a4)), ((va_un _ _ (by omega)).trans ((va_un _ _ (by omega)).trans a5))⟩
    · show isFr G ad _ _ (va_up (sFr S) k _ i)
      rw [va_un _ _ e]
      exact (isFr_up (isFr_up (hfr i hi) (by omega)) (by omega)), fun i hi => (isFi_up (isFi_up (hfi i hi) (by omega)) (by omega))⟩
abbrev rmX6_needFrame : Room := { frames := 0, cells := 0, slots := 0, locals := 0 }
set_option maxRecDepth 20000 in
theorem iu_X6_needFrame_6 : ∀ w ∈ u_ws RX6 TX6 9, w ∈ wsX6_needFrame := by decide +kernel
set_option maxRecDepth 20000 in
theorem il_X6_needFrame_35 : (Cond.fieldLink RX6 35 "BayerGate" "frameCount" "I") ∈ wsX6_needFrame := by decide +kernel
set_option maxHeartbeats 4000000 in
set_option maxRecDepth 100000 in
theorem kX6_needFrame (l : Launch) (G : iG) (N : Nat) (ad : Nat → Nat) (C : Nat → va_E) (o : Nat) {fn fl q0 q1 q2 q3 q6 q7 q8 : Nat} (lo : o < N) (h0 : C o = ob 6 [.ref (ad q0), .ref (ad q1), .ref (ad q2), .ref (ad q3), .int (nI fn), .int (nI fl), .ref (ad q6), .ref (ad q7), .ref (ad q8)]) (k : Nat) (hfn : fn ≤ 6) (hk : k < fn) (sz : Nat) : Met l yX6_needFrame wsX6_needFrame rmX6_needFrame (iPre G N ad C sz [.ref (ad o), .int (nI k)]) (va_Qv (fun (u : Nat → va_E) => u = C) (iB G N ad) (iA N ad sz)) 0 0 (iA N ad sz) := by
  refine Met.ofW (cc := cX6_needFrame) (maxL := 2) (ret := none) (by decide) rfl ?_
  intro p e s m args below meth c s₁ B hml hv
  obtain ⟨rfl, hsz, hP, hK, hD0⟩ := hv
  have hx := B.exec
  have hb := B.bytes
  have hr := B.returns
  have hts := atoms_spec (ws := wsX6_needFrame) B.pre
  have hown : s.vm.findClass RX6 = some m.cls := findClass_of_methodNamed B.named
  have hlocks := B.notSynchronized
  subst hsz
  have hD := wl_self hD0 s.heap.size
  have hA : ∀ q : Nat, s.heap.size ≤ q → iA N ad s.heap.size q := fun q h => Or.inr h
  have hS : va_S (iA N ad s.heap.size) s.heap s.heap [] := va_S.rf
  have hP : va_P G.1 vwB (wl N ad C) s.heap := hP
  have hl := lv_entry ([.ref (ad o), .int (nI k)]) (n := 2) (Nat.le_of_ble_eq_true rfl)
  rw [lg_entry_eq]
  generalize (lg_sl ([.ref (ad o), .int (nI k)]) ++ List.replicate (2 - (lg_sl ([.ref (ad o), .int (nI k)])).length) Slot.unset).toArray = ls at hl ⊢
  have hl : lv_has ls 2 [(0, .ref (ad o)), (1, .int (nI k))] := hl
  refine lv_iload_n hx hb dX6_needFrame_0 rfl (lv_at hl 1 rfl) ?_
  refine lv_if_lt (tgt := 12) hx hb dX6_needFrame_1 (by decide) (fun c9 => absurd c9 (nI_pos (by omega))) (fun _ => ?_)
  refine lv_iload_n hx hb dX6_needFrame_4 rfl (lv_at hl 1 rfl) ?_
  refine lv_aload_n hx hb dX6_needFrame_5 rfl (lv_at hl 0 rfl) ?_
  refine iw_get hx hb hts iu_X6_needFrame_6 hown hK hP lo (h0) rfl 4 (by decide) (hts _ il_X6_needFrame_35) (fun _ h9 => h9) rfl dX6_needFrame_6 ?_
  refine lv_icmp_lt (tgt := 23) hx hb dX6_needFrame_9 (by decide) (fun _ => ?_) (fun c9 => absurd (nI_lt hk (by omega)) c9)
  exact W.vret hx hb hr (fun t ht hW => ⟨⟨_, rfl, rfl, iB_of ht hP⟩, hS.F ht⟩) hS.2.2 dX6_needFrame_23
abbrev rmX6_take : Room := { frames := 3, cells := 0, slots := 0, locals := 74 }
set_option maxRecDepth 20000 in
theorem iu_X6_take_6 : ∀ w ∈ u_ws RX6 TX6 9, w ∈ wsX6_take := by decide +kernel
set_option maxRecDepth 20000 in
theorem il_X6_take_35 : (Cond.fieldLink RX6 35 "BayerGate" "frameCount" "I") ∈ wsX6_take := by decide +kernel
set_option maxRecDepth 20000 in
theorem il_X6_take_19 : (Cond.fieldLink RX6 19 "BayerGate" "sensor" "LBayerGate$Sensor;") ∈ wsX6_take := by decide +kernel
set_option maxRecDepth 20000 in
theorem il_X6_take_12 : (Cond.fieldLink RX6 12 "BayerGate" "scene" "LBayerGate$Scene;") ∈ wsX6_take := by decide +kernel
set_option maxRecDepth 20000 in
theorem il_X6_take_25 : (Cond.fieldLink RX6 25 "BayerGate" "frameRow" "[LBayerGate$Frame;") ∈ wsX6_take := by decide +kernel
set_option maxHeartbeats 4000000 in
set_option maxRecDepth 100000 in
theorem kX6_take (l : Launch) (G : iG) (N : Nat) (ad : Nat → Nat) (C : Nat → va_E) (o : Nat) (S : St) (hcam : Cam G N ad C o S) (t1 g1 : Nat) (ht : 0 < t1 ∧ t1 < 65) (hg : 0 < g1 ∧ g1 < 9) (hfn : sFn S < 6) (sz : Nat) : Met l yX6_take wsX6_take rmX6_take (iPre G N ad C sz [.ref (ad o), .int (nI t1), .int (nI g1)]) (va_Qi (fun (r : Int32) (u : Nat → va_E) => r = nI (sFn S) ∧ Cam G N ad u o (mkS (sSh S) (sFac S) (sGq S) (sHw S) (sMp S) (drN (sDr S) 64) (sFn S + 1) (sFl S) (va_up (sFr S) (sFn S) ((exN (sHw S) (sSh S) (sFac S) (sDr S) t1 g1), (sFr S (sFn S)).2.1, nI t1, nI g1, (sFr S (sFn S)).2.2.2.2)) (sFi S)) ∧ same C u o) (iB G N ad) (iA N ad sz)) 0 0 (iA N ad sz) := by
  refine Met.ofW (cc := cX6_take) (maxL := 4) (ret := (some .int)) (by decide) rfl ?_
  intro p e s m args below meth c s₁ B hml hv
  obtain ⟨rfl, hsz, hP, hK, hD0⟩ := hv
  have hx := B.exec
  have hb := B.bytes
  have hr := B.returns
  have hts := atoms_spec (ws := wsX6_take) B.pre
  have hown : s.vm.findClass RX6 = some m.cls := findClass_of_methodNamed B.named
  have hlocks := B.notSynchronized
  subst hsz
  have hD := wl_self hD0 s.heap.size
  have hA : ∀ q : Nat, s.heap.size ≤ q → iA N ad s.heap.size q := fun q h => Or.inr h
  have hS : va_S (iA N ad s.heap.size) s.heap s.heap [] := va_S.rf
  have hP : va_P G.1 vwB (wl N ad C) s.heap := hP
  have hl := lv_entry ([.ref (ad o), .int (nI t1), .int (nI g1)]) (n := 4) (Nat.le_of_ble_eq_true rfl)
  rw [lg_entry_eq]
  generalize (lg_sl ([.ref (ad o), .int (nI t1), .int (nI g1)]) ++ List.replicate (4 - (lg_sl ([.ref (ad o), .int (nI t1), .int (nI g1)])).length) Slot.unset).toArray = ls at hl ⊢
  have hl : lv_has ls 4 [(0, .ref (ad o)), (1, .int (nI t1)), (2, .int (nI g1))] := hl
  obtain ⟨hN, ⟨ok1, ok2, ok3, ok4, ok5, ok6, ok7, ok8, ok9⟩, h0, ⟨s1, s2, s3⟩, ⟨e1, e2, e3⟩, h7, h8, ⟨TF, tr1, tr2, tr3, tr4, tr5⟩, ⟨TD, dv1, dv2, dv3⟩, ⟨TC, cv1, cv2, cv3⟩, hfr, hfi⟩ := id hcam
  obtain ⟨f1, f2, f3, f4, f5⟩ := hfr (sFn S) hfn
  obtain ⟨okr, oke, oki⟩ := ok8 (sFn S) hfn
  refine lv_iload_n hx hb dX6_take_0 rfl (lv_at hl 1 rfl) ?_
  refine lv_iload_n hx hb dX6_take_1 rfl (lv_at hl 2 rfl) ?_
  refine iw_pv (va_runS (As := [.int (nI t1), .int (nI g1)]) (rest := []) ⟨hx, hb, hml, hown, hts⟩ (kX6_needExposure l t1 g1 ht hg) (va_cwS 2 hts gX6_take_X6_needExposure rfl rfl rfl (by decide +kernel) ⟨Nat.le_of_ble_eq_true rfl, Nat.le_of_ble_eq_true rfl⟩) ⟨fun a U g mk q => q, fun U hU hW => ⟨rfl, trivial⟩⟩ rfl rfl hl.1 rfl (lv_room (Nat.le_of_ble_eq_true rfl)) dX6_take_2 ⟨Nat.le_of_ble_eq_true rfl, Nat.le_of_ble_eq_true rfl⟩) hP hS (fun u8 H locs hw8 hP hS => ?_)
  refine lv_aload_n hx hb dX6_take_5 rfl (lv_at hl 0 rfl) ?_
  refine iw_get hx hb hts iu_X6_take_6 hown hK hP (by omega) (h0) rfl 4 (by decide) (hts _ il_X6_take_35) (fun _ h9 => h9) rfl dX6_take_6 ?_
  refine lv_bipush (v := nI 6) hx hb dX6_take_9 (by decide) ?_
  refine iw_pv (va_runS (As := [.int (nI (sFn S)), .int (nI 6)]) (rest := []) ⟨hx, hb, hml, hown, hts⟩ (kX6_needRoom l (sFn S) 6 hfn (by omega)) (va_cwS 2 hts gX6_take_X6_needRoom rfl rfl rfl (by decide +kernel) ⟨Nat.le_of_ble_eq_true rfl, Nat.le_of_ble_eq_true rfl⟩) ⟨fun a U g mk q => q, fun U hU hW => ⟨rfl, trivial⟩⟩ rfl rfl hl.1 rfl (lv_room (Nat.le_of_ble_eq_true rfl)) dX6_take_11 ⟨Nat.le_of_ble_eq_true rfl, Nat.le_of_ble_eq_true rfl⟩) hP hS (fun u8 H locs hw8 hP hS => ?_)
  refine lv_aload_n hx hb dX6_take_14 rfl (lv_at hl 0 rfl) ?_
  refine iw_get hx hb hts iu_X6_take_6 hown hK hP (by omega) (h0) rfl 4 (by decide) (hts _ il_X6_take_35) (fun _ h9 => h9) rfl dX6_take_15 ?_
  refine lv_istore_n (lv' := [(3, .int (nI (sFn S))), (0, .ref (ad o)), (1, .int (nI t1)), (2, .int (nI g1))]) hx hb dX6_take_18 rfl hl (by decide) rfl (fun ls hl => ?_)
  refine lv_aload_n hx hb dX6_take_19 rfl (lv_at hl 1 rfl) ?_
  refine iw_get hx hb hts iu_X6_take_6 hown hK hP (by omega) (h0) rfl 1 (by decide) (hts _ il_X6_take_19) (fun _ h9 => h9) rfl dX6_take_20 ?_
  refine lv_aload_n hx hb dX6_take_23 rfl (lv_at hl 1 rfl) ?_
  refine iw_get hx hb hts iu_X6_take_6 hown hK hP (by omega) (h0) rfl 1 (by decide) (hts _ il_X6_take_19) (fun _ h9 => h9) rfl dX6_take_24 ?_
  refine lv_aload_n hx hb dX6_take_27 rfl (lv_at hl 1 rfl) ?_
  refine iw_get hx hb hts iu_X6_take_6 hown hK hP (by omega) (h0) rfl 0 (by decide) (hts _ il_X6_take_12) (fun _ h9 => h9) rfl dX6_take_28 ?_
  refine lv_iload_n hx hb dX6_take_31 rfl (lv_at hl 2 rfl) ?_
  refine lv_iload_n hx hb dX6_take_32 rfl (lv_at hl 3 rfl) ?_
  refine lv_aload_n hx hb dX6_take_33 rfl (lv_at hl 1 rfl) ?_
  refine iw_get hx hb hts iu_X6_take_6 hown hK hP (by omega) (h0) rfl 2 (by decide) (hts _ il_X6_take_25) (fun _ h9 => h9) rfl dX6_take_34 ?_
  refine lv_iload_n hx hb dX6_take_37 rfl (lv_at hl 0 rfl) ?_
  refine iw_ralM (v := ad (o + 20 + 5 * (sFn S))) hx hb hK hP (by omega) (h7) (vp_in_nI (show sFn S < 6 by omega) (by omega)) (congrArg (fun k => some (ad (o + 20 + 5 * k))) (nI_clamp (by omega))) dX6_take_38 ?_
  refine iw_i (va_runV (As := [.ref (ad (o + 1)), .int (nI t1), .int (nI g1), .ref (ad (o + 20 + 5 * (sFn S)))]) (rest := [.ref (ad (o + 4))]) ⟨hx, hb, hml, hown, hts⟩ (kX4_expose l G N ad _ (by omega) (by omega) (by omega) (s1) (s2) (s3) (by omega) (by omega) (by omega) (e1) (e2) (e3) (by omega) (by omega) (f1) (f2) (by omega) (by omega) ok5 (time := t1) (gain := g1) ht.1 ht.2 ok2 _) (cwV 4 hts gX6_take_X4_expose rfl rfl rfl (by decide +kernel) ⟨Nat.le_of_ble_eq_true rfl, Nat.le_of_ble_eq_true rfl⟩) (iPV hK hP hD (by omega) (e1) rfl [.ref (ad (o + 1)), .int (nI t1), .int (nI g1), .ref (ad (o + 20 + 5 * (sFn S)))]) rfl rfl hl.1 rfl (lv_room (Nat.le_of_ble_eq_true rfl)) dX6_take_39 ⟨Nat.le_of_ble_eq_true rfl, Nat.le_of_ble_eq_true rfl⟩) hD hS hA (fun r8 u8 H locs hw8 hP hD hS => ?_)
  obtain ⟨hr8, hu8⟩ := hw8
  refine lv_asI hr8 ?_
  rw [hu8] at hP hD
  refine iw_v (va_runV (As := [.int (nI (drN (sDr S) 64))]) (rest := []) ⟨hx, hb, hml, hown, hts⟩ (kX4_advance l G N ad _ (by omega) (by omega) (by omega) ((va_un _ _ (by omega)).trans ((va_un _ _ (by omega)).trans (e1))) ((va_un _ _ (by omega)).trans ((va_un _ _ (by omega)).trans (e2))) ((va_un _ _ (by omega)).trans ((va_un _ _ (by omega)).trans (e3))) (drN (sDr S) 64) _) (cwV 1 hts gX6_take_X4_advance rfl rfl rfl (by decide +kernel) ⟨Nat.le_of_ble_eq_true rfl, Nat.le_of_ble_eq_true rfl⟩) (iPV hK hP hD (by omega) ((va_un _ _ (by omega)).trans ((va_un _ _ (by omega)).trans (e1))) rfl [.int (nI (drN (sDr S) 64))]) rfl rfl hl.1 rfl (lv_room (Nat.le_of_ble_eq_true rfl)) dX6_take_42 ⟨Nat.le_of_ble_eq_true rfl, Nat.le_of_ble_eq_true rfl⟩) hD hS hA (fun u8 H locs hw8 hP hD hS => ?_)
  rw [hw8] at hP hD
  refine lv_aload_n hx hb dX6_take_45 rfl (lv_at hl 1 rfl) ?_
  refine lv_iload_n hx hb dX6_take_46 rfl (lv_at hl 0 rfl) ?_
  refine lv_iconst (v := nI 1) hx hb dX6_take_47 (by decide) ?_
  refine lv_iadd hx hb dX6_take_48 ?_
  refine lv_asI (y := nI ((sFn S) + 1)) (nI_add _ _) ?_
  refine iw_put (ty := .int) hx hb hts iu_X6_take_6 tyX6 tyX6_ok nmX6 hown hK hP hD hS (by omega) ((va_un _ _ (by omega)).trans ((va_un _ _ (by omega)).trans ((va_un _ _ (by omega)).trans (h0)))) rfl 4 (by decide) (hts _ il_X6_take_35) (fun _ h9 => h9) rfl (by decide +kernel) rfl rfl (Nat.le_of_ble_eq_true rfl) rfl dX6_take_49 (fun H locs hP hD hS => ?_)
  refine lv_iload_n hx hb dX6_take_52 rfl (lv_at hl 0 rfl) ?_
  have q1 := up_take hcam hfn (rw := (exN (sHw S) (sSh S) (sFac S) (sDr S) t1 g1)) (fun i hi => (exN_ok _ _ _ _ _ _ i).1) (nI t1) (nI g1) (sFr S (sFn S)).2.2.2.2
  have q2 := up_dr q1 (d := drN (sDr S) 64) (drN_lt ok5 64)
  have q3 := up_fn q2 (n := sFn S + 1) (by omega)
  exact W.iret (v := (nI (sFn S))) hx hb hr (fun t ht hW => ⟨⟨_, _, rfl, ⟨rfl, q3, same_up (same_up (same_up (same_up (same_rf) _ (by omega) (by omega)) _ (by omega) (by omega)) _ (by omega) (by omega)) _ (by omega) (by omega)⟩, iB_of ht hP⟩, hS.F ht⟩) hS.2.2 dX6_take_53
