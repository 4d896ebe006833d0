set_option maxRecDepth 20000 in
theorem ggX6_bestTake_X4_expose : GoodIn wsX6_bestTake wsX4_expose := goodIn_r _ [14, 15, 16, 17, 6, 18, 19, 20, 21, 22, 23, 24, 25, 26, 27, 28, 29, 30, 31, 32, 33, 34, 13, 35, 36, 37, 38, 39, 40, 41, 42, 64, 65, 66, 67, 68, 69, 70, 71, 72, 73, 74] (by decide +kernel) (by decide +kernel)
set_option maxRecDepth 20000 in
theorem gX6_bestTake_X4_expose : GoodIn wsX6_bestTake (wsV RX6 108 RX4 yX4_expose wsX4_expose) := goodIn_app (goodIn_of _ (by decide +kernel)) ggX6_bestTake_X4_expose
set_option maxRecDepth 20000 in
theorem ggX6_bestTake_X1_meanOfZones : GoodIn wsX6_bestTake wsX1_meanOfZones := goodIn_r _ [47, 48, 49, 50, 51, 46, 52, 53, 54, 19, 6, 20, 17, 18, 67, 68, 69, 70, 71] (by decide +kernel) (by decide +kernel)
set_option maxRecDepth 20000 in
theorem gX6_bestTake_X1_meanOfZones : GoodIn wsX6_bestTake (wsV RX6 207 RX1 yX1_meanOfZones wsX1_meanOfZones) := goodIn_app (goodIn_of _ (by decide +kernel)) ggX6_bestTake_X1_meanOfZones
set_option maxRecDepth 20000 in
theorem ggX6_digest_X6_many : GoodIn wsX6_digest wsX6_many := goodIn_ca (goodIn_r _ [11, 3, 6, 12, 13, 14, 10, 15, 16, 17, 18, 19, 20, 21, 22, 23, 24, 25, 26, 27, 5, 28, 29, 30, 31, 32, 33, 34, 35, 36, 37, 38, 214, 215, 216, 217, 218, 219, 220, 221, 222, 228, 229, 230, 223, 224, 225, 226, 227, 231, 232, 233] (by decide +kernel) (by decide +kernel)) (goodIn_sub (fun _ h => List.mem_cons_of_mem _ (List.mem_append_left _ (List.mem_append_right _ h))) (by decide +kernel))
set_option maxRecDepth 20000 in
theorem gX6_digest_X6_many : GoodIn wsX6_digest (wsV RX6 264 RX6 yX6_many wsX6_many) := goodIn_app (goodIn_of _ (by decide +kernel)) ggX6_digest_X6_many
set_option maxRecDepth 20000 in
theorem ggX6_digest_X6_wouldClip : GoodIn wsX6_digest wsX6_wouldClip := goodIn_ca (goodIn_r _ [186, 12, 187, 188, 189, 190, 10, 191, 13, 14, 15, 16, 17, 192, 193, 194, 21, 195, 196, 38, 65, 66, 63, 64, 197, 198, 199, 200, 201, 202, 203, 204, 205, 206, 207, 208, 209, 210, 211, 212, 72, 61, 73, 213, 75, 76, 49, 50, 51, 52, 53, 54, 214, 215, 216, 217, 218, 219, 220, 221, 222, 228, 229, 230, 223, 224, 225, 226, 227, 239, 240, 241] (by decide +kernel) (by decide +kernel)) (goodIn_sub (fun _ h => List.mem_cons_of_mem _ (List.mem_append_left _ (List.mem_append_right _ h))) (by decide +kernel))
set_option maxRecDepth 20000 in
theorem gX6_digest_X6_wouldClip : GoodIn wsX6_digest (wsV RX6 281 RX6 yX6_wouldClip wsX6_wouldClip) := goodIn_app (goodIn_of _ (by decide +kernel)) ggX6_digest_X6_wouldClip
abbrev rmX6_bestTake : Room := { frames := 3, cells := 0, slots := 0, locals := 74 }
set_option maxRecDepth 20000 in
theorem iu_X6_bestTake_6 : ∀ w ∈ u_ws RX6 TX6 9, w ∈ wsX6_bestTake := by decide +kernel
set_option maxRecDepth 20000 in
theorem il_X6_bestTake_19 : (Cond.fieldLink RX6 19 "BayerGate" "sensor" "LBayerGate$Sensor;") ∈ wsX6_bestTake := by decide +kernel
set_option maxRecDepth 20000 in
theorem il_X6_bestTake_12 : (Cond.fieldLink RX6 12 "BayerGate" "scene" "LBayerGate$Scene;") ∈ wsX6_bestTake := by decide +kernel
set_option maxRecDepth 20000 in
theorem il_X6_bestTake_43 : (Cond.fieldLink RX6 43 "BayerGate" "trial" "LBayerGate$Frame;") ∈ wsX6_bestTake := by decide +kernel
set_option maxHeartbeats 4000000 in
set_option maxRecDepth 100000 in
theorem lX6_bestTake_t {p : Program} {l : Launch} {e : Env} {s : State} {m : MethodId} {args : Array Value} {below : List Frame} {meth : Method} {c : Code} {Q : State → Prop} {A : Nat → Prop} {H0 : Heap} {cells slots : Nat} (hx : p.tables.exec = Jvm.exec) (hb : c.code = cX6_bestTake) (hml : c.maxLocals = 9) (hr : meth.sig.returnType = (some .int)) (hts : ∀ w ∈ wsX6_bestTake, w.before args s = true) (hown : s.vm.findClass RX6 = some m.cls) {G : iG} (hK : KB G s) (hA : ∀ q, H0.size ≤ q → A q) {N : Nat} {ad : Nat → Nat} {C : Nat → va_E}  (hcc : cells ≤ rmX6_bestTake.cells) (hcs : slots ≤ rmX6_bestTake.slots) {o : Nat} {S : St} (hcam : Cam G N ad C o S) (hdk : ∀ t g : Nat, t < 65 → exN (sHw S) (sSh S) (sFac S) (sDr S) t g = R0) {v : Nat} (hv : v < 256) {g : Nat} (hg : 0 < g ∧ g < 9) (kx : ∀ (ta ga qa : Int32) (H : Heap) (locs : List Loc) (ls : Array Slot), va_P G.1 vwB (wl N ad (va_up (va_up C (o + 9 + 1) (ia G 64 (fun i => nI (R0 i)))) (o + 9) (ob 1 [.ref (ad (o + 9 + 1)), .ref (ad (o + 9 + 2)), .int ta, .int ga, .int qa]))) H → va_D A (wl N ad (va_up (va_up C (o + 9 + 1) (ia G 64 (fun i => nI (R0 i)))) (o + 9) (ob 1 [.ref (ad (o + 9 + 1)), .ref (ad (o + 9 + 2)), .int ta, .int ga, .int qa]))) → va_S A H0 H locs → lv_has ls 9 [(0, .ref (ad o)), (1, .int (nI v)), (2, .int (nI 17)), (3, .double (absF v)), (5, .int (nI g))] → W p l e rmX6_bestTake s m args below meth c H locs cells slots Q (F0 m 114 ls [])) : ∀ (d : Nat) (t : Nat) (ta ga qa : Int32) (H : Heap) (locs : List Loc) (ls : Array Slot), 129 - t < d → t = 1 ∨ t = 2 ∨ t = 4 ∨ t = 8 ∨ t = 16 ∨ t = 32 ∨ t = 64 ∨ t = 128 → va_P G.1 vwB (wl N ad (va_up (va_up C (o + 9 + 1) (ia G 64 (fun i => nI (R0 i)))) (o + 9) (ob 1 [.ref (ad (o + 9 + 1)), .ref (ad (o + 9 + 2)), .int ta, .int ga, .int qa]))) H → va_D A (wl N ad (va_up (va_up C (o + 9 + 1) (ia G 64 (fun i => nI (R0 i)))) (o + 9) (ob 1 [.ref (ad (o + 9 + 1)), .ref (ad (o + 9 + 2)), .int ta, .int ga, .int qa]))) → va_S A H0 H locs → lv_has ls 9 [(0, .ref (ad o)), (1, .int (nI v)), (2, .int (nI 17)), (3, .double (absF v)), (5, .int (nI g)), (6, .int (nI t))] → W p l e rmX6_bestTake s m args below meth c H locs cells slots Q (F0 m 25 ls []) := by
  intro d
  induction d with
  | zero => intro t ta ga qa H locs ls hd; exact absurd hd (Nat.not_lt_zero _)
  | succ d ih =>
    intro t ta ga qa H locs ls hd h2 hP hD hS hl
    obtain ⟨hN, ⟨ok1, ok2, ok3, ok4, ok5, ok6, ok7, ok8, ok9⟩, h0, ⟨s1, s2, s3⟩, ⟨e1, e2, e3⟩, h7, h8, ⟨TF, tr1, tr2, tr3, tr4, tr5⟩, ⟨TD, dv1, dv2, dv3⟩, ⟨TC, cv1, cv2, cv3⟩, hfr, hfi⟩ := id hcam
    refine lv_iload hx hb dX6_bestTake_25 (lv_at hl 5 rfl) ?_
    refine lv_bipush (v := nI 64) hx hb dX6_bestTake_27 (by decide) ?_
    refine lv_icmp_gt (tgt := 114) hx hb dX6_bestTake_29 (by decide) (fun c29 => ?_) (fun c29 => ?_)
    · exact kx ta ga qa H locs ls hP hD hS (lv_sub hl [0, 1, 2, 3, 4] rfl)
    · have h4 : t ≤ 64 := by have := mt (nI_ltI (by omega) (by omega)).mpr c29; omega
      refine lv_aload_n hx hb dX6_bestTake_32 rfl (lv_at hl 0 rfl) ?_
      refine iw_get hx hb hts iu_X6_bestTake_6 hown hK hP (by omega) ((va_un _ _ (by omega)).trans ((va_un _ _ (by omega)).trans (h0))) rfl 1 (by decide) (hts _ il_X6_bestTake_19) (fun _ h9 => h9) rfl dX6_bestTake_33 ?_
      refine lv_aload_n hx hb dX6_bestTake_36 rfl (lv_at hl 0 rfl) ?_
      refine iw_get hx hb hts iu_X6_bestTake_6 hown hK hP (by omega) ((va_un _ _ (by omega)).trans ((va_un _ _ (by omega)).trans (h0))) rfl 0 (by decide) (hts _ il_X6_bestTake_12) (fun _ h9 => h9) rfl dX6_bestTake_37 ?_
      refine lv_iload hx hb dX6_bestTake_40 (lv_at hl 5 rfl) ?_
      refine lv_iload hx hb dX6_bestTake_42 (lv_at hl 4 rfl) ?_
      refine lv_aload_n hx hb dX6_bestTake_44 rfl (lv_at hl 0 rfl) ?_
      refine iw_get hx hb hts iu_X6_bestTake_6 hown hK hP (by omega) ((va_un _ _ (by omega)).trans ((va_un _ _ (by omega)).trans (h0))) rfl 6 (by decide) (hts _ il_X6_bestTake_43) (fun _ h9 => h9) rfl dX6_bestTake_45 ?_
      refine iw_i (va_runV (As := [.ref (ad (o + 1)), .int (nI t), .int (nI g), .ref (ad (o + 9))]) (rest := []) ⟨hx, hb, hml, hown, hts⟩ (kX4_expose l G N ad _ (by omega) (by omega) (by omega) ((va_un _ _ (by omega)).trans ((va_un _ _ (by omega)).trans (s1))) ((va_un _ _ (by omega)).trans ((va_un _ _ (by omega)).trans (s2))) ((va_un _ _ (by omega)).trans ((va_un _ _ (by omega)).trans (s3))) (by omega) (by omega) (by omega) ((va_un _ _ (by omega)).trans ((va_un _ _ (by omega)).trans (e1))) ((va_un _ _ (by omega)).trans ((va_un _ _ (by omega)).trans (e2))) ((va_un _ _ (by omega)).trans ((va_un _ _ (by omega)).trans (e3))) (by omega) (by omega) (va_us _ _ _) ((va_un _ _ (by omega)).trans (va_us _ _ _)) (by omega) (by omega) ok5 (time := t) (gain := g) (by omega) (by omega) ok2 _) (cwV 4 hts gX6_bestTake_X4_expose rfl rfl rfl (by decide +kernel) ⟨Nat.le_of_ble_eq_true rfl, Nat.le_of_ble_eq_true rfl⟩) (iPV hK hP hD (by omega) ((va_un _ _ (by omega)).trans ((va_un _ _ (by omega)).trans (e1))) rfl [.ref (ad (o + 1)), .int (nI t), .int (nI g), .ref (ad (o + 9))]) rfl rfl hl.1 rfl (lv_room (Nat.le_of_ble_eq_true rfl)) dX6_bestTake_48 ⟨hcc, hcs⟩) hD hS hA (fun r8 u8 H locs hw8 hP hD hS => ?_)
      obtain ⟨hr8, hu8⟩ := hw8
      refine lv_asI hr8 ?_
      rw [hu8] at hP hD
      rw [hdk t g (by omega)] at hP hD
      rw [va_u3 C _ _ _ (show o + 9 + 1 ≠ o + 9 by omega), va_uu] at hP hD
      refine lv_pop hx hb dX6_bestTake_51 rfl ?_
      refine lv_aload_n hx hb dX6_bestTake_52 rfl (lv_at hl 0 rfl) ?_
      refine iw_get hx hb hts iu_X6_bestTake_6 hown hK hP (by omega) ((va_un _ _ (by omega)).trans ((va_un _ _ (by omega)).trans (h0))) rfl 6 (by decide) (hts _ il_X6_bestTake_43) (fun _ h9 => h9) rfl dX6_bestTake_53 ?_
      refine iw_d (va_runV (As := []) (rest := []) ⟨hx, hb, hml, hown, hts⟩ (kX1_meanOfZones l G N ad _ (by omega) (by omega) (va_us _ _ _) ((va_un _ _ (by omega)).trans (va_us _ _ _)) R0_le _) (cwV 0 hts gX6_bestTake_X1_meanOfZones rfl rfl rfl (by decide +kernel) ⟨Nat.le_of_ble_eq_true rfl, Nat.le_of_ble_eq_true rfl⟩) (iPV hK hP hD (by omega) (va_us _ _ _) rfl []) rfl rfl hl.1 rfl (lv_room (Nat.le_of_ble_eq_true rfl)) dX6_bestTake_56 ⟨hcc, hcs⟩) hD hS hA (fun r8 u8 H locs hw8 hP hD hS => ?_)
      obtain ⟨hr8, hu8⟩ := hw8
      refine lv_asD hr8 ?_
      rw [hu8] at hP hD
      refine lv_asD (y := 4624950526704877568) me0 ?_
      refine lv_iload_n hx hb dX6_bestTake_59 rfl (lv_at hl 1 rfl) ?_
      refine lv_i2d hx hb dX6_bestTake_60 ?_
      refine lv_dsub hx hb dX6_bestTake_61 (isN64_ok (off_n v hv)) ?_
      refine lv_asD (y := offF v) rfl ?_
      refine lv_dstore (lv' := [(7, .double (offF v)), (0, .ref (ad o)), (1, .int (nI v)), (2, .int (nI 17)), (3, .double (absF v)), (5, .int (nI g)), (6, .int (nI t))]) hx hb dX6_bestTake_62 hl (by decide) rfl (fun ls hl => ?_)
      refine lv_dload hx hb dX6_bestTake_64 (lv_at hl 0 rfl) ?_
      refine lv_dconst0 hx hb dX6_bestTake_66 ?_
      refine lv_dcmp hx hb dX6_bestTake_67 ?_
      refine lv_if_ge (tgt := 77) hx hb dX6_bestTake_68 (by decide) (fun c68 => ?_) (fun c68 => ?_)
      · refine lv_dload hx hb dX6_bestTake_77 (lv_at hl 0 rfl) ?_
        refine lv_asD (y := absF v) (by unfold absF; rw [if_pos c68]) ?_
        refine lv_dstore (lv' := [(7, .double (absF v)), (0, .ref (ad o)), (1, .int (nI v)), (2, .int (nI 17)), (3, .double (absF v)), (5, .int (nI g)), (6, .int (nI t))]) hx hb dX6_bestTake_79 hl (by decide) rfl (fun ls hl => ?_)
        refine lv_iload_n hx hb dX6_bestTake_81 rfl (lv_at hl 3 rfl) ?_
        refine lv_iconst (v := -nI 1) hx hb dX6_bestTake_82 (by decide) ?_
        refine lv_icmp_eq (tgt := 93) hx hb dX6_bestTake_83 (by decide) (fun c9 => absurd c9 (by decide)) (fun _ => ?_)
        refine lv_dload hx hb dX6_bestTake_86 (lv_at hl 0 rfl) ?_
        refine lv_dload_n hx hb dX6_bestTake_88 rfl (lv_at hl 4 rfl) ?_
        refine lv_dcmp hx hb dX6_bestTake_89 ?_
        refine lv_if_ge (tgt := 105) hx hb dX6_bestTake_90 (by decide) (fun _ => ?_) (fun c9 => absurd (abs_eq v hv) c9)
        refine lv_iconst (v := nI 2) hx hb dX6_bestTake_105 (by decide) ?_
        refine lv_iload hx hb dX6_bestTake_106 (lv_at hl 6 rfl) ?_
        refine lv_imul hx hb dX6_bestTake_108 ?_
        refine lv_asI (y := nI (2 * t)) (pk_mul _ _) ?_
        refine lv_istore (lv' := [(6, .int (nI (2 * t))), (7, .double (absF v)), (0, .ref (ad o)), (1, .int (nI v)), (2, .int (nI 17)), (3, .double (absF v)), (5, .int (nI g))]) hx hb dX6_bestTake_109 hl (by decide) rfl (fun ls hl => ?_)
        refine lv_goto (tgt := 25) hx hb dX6_bestTake_111 (by decide) ?_
        exact ih (2 * t) (nI t) (nI g) qa H locs ls (by omega) (by omega) hP hD hS (lv_sub hl [2, 3, 4, 5, 6, 0] rfl)
      · refine lv_dload hx hb dX6_bestTake_71 (lv_at hl 0 rfl) ?_
        refine lv_dneg hx hb dX6_bestTake_73 ?_
        refine lv_goto (tgt := 79) hx hb dX6_bestTake_74 (by decide) ?_
        refine lv_asD (y := absF v) (by unfold absF; rw [if_neg c68]) ?_
        refine lv_dstore (lv' := [(7, .double (absF v)), (0, .ref (ad o)), (1, .int (nI v)), (2, .int (nI 17)), (3, .double (absF v)), (5, .int (nI g)), (6, .int (nI t))]) hx hb dX6_bestTake_79 hl (by decide) rfl (fun ls hl => ?_)
        refine lv_iload_n hx hb dX6_bestTake_81 rfl (lv_at hl 3 rfl) ?_
        refine lv_iconst (v := -nI 1) hx hb dX6_bestTake_82 (by decide) ?_
        refine lv_icmp_eq (tgt := 93) hx hb dX6_bestTake_83 (by decide) (fun c9 => absurd c9 (by decide)) (fun _ => ?_)
        refine lv_dload hx hb dX6_bestTake_86 (lv_at hl 0 rfl) ?_
        refine lv_dload_n hx hb dX6_bestTake_88 rfl (lv_at hl 4 rfl) ?_
        refine lv_dcmp hx hb dX6_bestTake_89 ?_
        refine lv_if_ge (tgt := 105) hx hb dX6_bestTake_90 (by decide) (fun _ => ?_) (fun c9 => absurd (abs_eq v hv) c9)
        refine lv_iconst (v := nI 2) hx hb dX6_bestTake_105 (by decide) ?_
        refine lv_iload hx hb dX6_bestTake_106 (lv_at hl 6 rfl) ?_
        refine lv_imul hx hb dX6_bestTake_108 ?_
        refine lv_asI (y := nI (2 * t)) (pk_mul _ _) ?_
        refine lv_istore (lv' := [(6, .int (nI (2 * t))), (7, .double (absF v)), (0, .ref (ad o)), (1, .int (nI v)), (2, .int (nI 17)), (3, .double (absF v)), (5, .int (nI g))]) hx hb dX6_bestTake_109 hl (by decide) rfl (fun ls hl => ?_)
        refine lv_goto (tgt := 25) hx hb dX6_bestTake_111 (by decide) ?_
        exact ih (2 * t) (nI t) (nI g) qa H locs ls (by omega) (by omega) hP hD hS (lv_sub hl [2, 3, 4, 5, 6, 0] rfl)
set_option maxHeartbeats 4000000 in
set_option maxRecDepth 100000 in
theorem lX6_bestTake_g {p : Program} {l : Launch} {e : Env} {s : State} {m : MethodId} {args : Array Value} {below : List Frame} {meth : Method} {c : Code} {Q : State → Prop} {A : Nat → Prop} {H0 : Heap} {cells slots : Nat} (hx : p.tables.exec = Jvm.exec) (hb : c.code = cX6_bestTake) (hml : c.maxLocals = 9) (hr : meth.sig.returnType = (some .int)) (hts : ∀ w ∈ wsX6_bestTake, w.before args s = true) (hown : s.vm.findClass RX6 = some m.cls) {G : iG} (hK : KB G s) (hA : ∀ q, H0.size ≤ q → A q) {N : Nat} {ad : Nat → Nat} {C : Nat → va_E}  (hcc : cells ≤ rmX6_bestTake.cells) (hcs : slots ≤ rmX6_bestTake.slots) {o : Nat} {S : St} (hcam : Cam G N ad C o S) (hdk : ∀ t g : Nat, t < 65 → exN (sHw S) (sSh S) (sFac S) (sDr S) t g = R0) {v : Nat} (hv : v < 256) (kx : ∀ (ta ga qa : Int32) (H : Heap) (locs : List Loc) (ls : Array Slot), va_P G.1 vwB (wl N ad (va_up (va_up C (o + 9 + 1) (ia G 64 (fun i => nI (R0 i)))) (o + 9) (ob 1 [.ref (ad (o + 9 + 1)), .ref (ad (o + 9 + 2)), .int ta, .int ga, .int qa]))) H → va_D A (wl N ad (va_up (va_up C (o + 9 + 1) (ia G 64 (fun i => nI (R0 i)))) (o + 9) (ob 1 [.ref (ad (o + 9 + 1)), .ref (ad (o + 9 + 2)), .int ta, .int ga, .int qa]))) → va_S A H0 H locs → lv_has ls 9 [(2, .int (nI 17))] → W p l e rmX6_bestTake s m args below meth c H locs cells slots Q (F0 m 120 ls [])) : ∀ (d : Nat) (g : Nat) (ta ga qa : Int32) (H : Heap) (locs : List Loc) (ls : Array Slot), 10 - g < d → 0 < g ∧ g ≤ 9 → va_P G.1 vwB (wl N ad (va_up (va_up C (o + 9 + 1) (ia G 64 (fun i => nI (R0 i)))) (o + 9) (ob 1 [.ref (ad (o + 9 + 1)), .ref (ad (o + 9 + 2)), .int ta, .int ga, .int qa]))) H → va_D A (wl N ad (va_up (va_up C (o + 9 + 1) (ia G 64 (fun i => nI (R0 i)))) (o + 9) (ob 1 [.ref (ad (o + 9 + 1)), .ref (ad (o + 9 + 2)), .int ta, .int ga, .int qa]))) → va_S A H0 H locs → lv_has ls 9 [(0, .ref (ad o)), (1, .int (nI v)), (2, .int (nI 17)), (3, .double (absF v)), (5, .int (nI g))] → W p l e rmX6_bestTake s m args below meth c H locs cells slots Q (F0 m 15 ls []) := by
  intro d
  induction d with
  | zero => intro g ta ga qa H locs ls hd; exact absurd hd (Nat.not_lt_zero _)
  | succ d ih =>
    intro g ta ga qa H locs ls hd h2 hP hD hS hl
    obtain ⟨hN, ⟨ok1, ok2, ok3, ok4, ok5, ok6, ok7, ok8, ok9⟩, h0, ⟨s1, s2, s3⟩, ⟨e1, e2, e3⟩, h7, h8, ⟨TF, tr1, tr2, tr3, tr4, tr5⟩, ⟨TD, dv1, dv2, dv3⟩, ⟨TC, cv1, cv2, cv3⟩, hfr, hfi⟩ := id hcam
    refine lv_iload hx hb dX6_bestTake_15 (lv_at hl 4 rfl) ?_
    refine lv_bipush (v := nI 8) hx hb dX6_bestTake_17 (by decide) ?_
    refine lv_icmp_gt (tgt := 120) hx hb dX6_bestTake_19 (by decide) (fun c19 => ?_) (fun c19 => ?_)
    · exact kx ta ga qa H locs ls hP hD hS (lv_sub hl [2] rfl)
    · have h4 : g ≤ 8 := by have := mt (nI_ltI (by omega) (by omega)).mpr c19; omega
      refine lv_iconst (v := nI 1) hx hb dX6_bestTake_22 (by decide) ?_
      refine lv_istore (lv' := [(6, .int (nI 1)), (0, .ref (ad o)), (1, .int (nI v)), (2, .int (nI 17)), (3, .double (absF v)), (5, .int (nI g))]) hx hb dX6_bestTake_23 hl (by decide) rfl (fun ls hl => ?_)
      refine lX6_bestTake_t hx hb hml hr hts hown hK hA hcc hcs hcam hdk hv (g := g) (by omega) (fun ta ga qa H locs ls hP hD hS hl => ?_) 200 1 ta ga qa H locs ls (by omega) (by omega) hP hD hS (lv_sub hl [1, 2, 3, 4, 5, 0] rfl)
      refine lv_iinc (v := nI (g + 1)) (lv' := [(5, .int (nI (g + 1))), (0, .ref (ad o)), (1, .int (nI v)), (2, .int (nI 17)), (3, .double (absF v))]) hx hb dX6_bestTake_114 hl (k := 4) rfl (iinc_nat _ 1) (by decide) rfl (fun ls hl => ?_)
      refine lv_goto (tgt := 15) hx hb dX6_bestTake_117 (by decide) ?_
      exact ih (g + 1) ta ga qa H locs ls (by omega) (by omega) hP hD hS (lv_sub hl [1, 2, 3, 4, 0] rfl)
set_option maxHeartbeats 4000000 in
set_option maxRecDepth 100000 in
theorem kX6_bestTake (l : Launch) (G : iG) (N : Nat) (ad : Nat → Nat) (C : Nat → va_E) (o : Nat) (S : St) (hcam : Cam G N ad C o S) (hdk : ∀ t g : Nat, t < 65 → exN (sHw S) (sSh S) (sFac S) (sDr S) t g = R0) (v : Nat) (hv : v < 256) (sz : Nat) : Met l yX6_bestTake wsX6_bestTake rmX6_bestTake (iPre G N ad C sz [.ref (ad o), .int (nI v)]) (va_Qi (fun (r : Int32) (u : Nat → va_E) => r = nI 17 ∧ Cam G N ad u o S ∧ same C u o) (iB G N ad) (iA N ad sz)) 0 0 (iA N ad sz) := by
  refine Met.ofW (cc := cX6_bestTake) (maxL := 9) (ret := (some .int)) (by decide) rfl ?_
  intro p e s m args below meth c s₁ B hml hv
  obtain ⟨rfl, hsz, hP, hK, hD0⟩ := hv
  have hx := B.exec
  have hb := B.bytes
  have hr := B.returns
  have hts := atoms_spec (ws := wsX6_bestTake) B.pre
  have hown : s.vm.findClass RX6 = some m.cls := findClass_of_methodNamed B.named
  have hlocks := B.notSynchronized
  subst hsz
  have hD := wl_self hD0 s.heap.size
  have hA : ∀ q : Nat, s.heap.size ≤ q → iA N ad s.heap.size q := fun q h => Or.inr h
  have hS : va_S (iA N ad s.heap.size) s.heap s.heap [] := va_S.rf
  have hP : va_P G.1 vwB (wl N ad C) s.heap := hP
  have hl := lv_entry ([.ref (ad o), .int (nI v)]) (n := 9) (Nat.le_of_ble_eq_true rfl)
  rw [lg_entry_eq]
  generalize (lg_sl ([.ref (ad o), .int (nI v)]) ++ List.replicate (9 - (lg_sl ([.ref (ad o), .int (nI v)])).length) Slot.unset).toArray = ls at hl ⊢
  have hl : lv_has ls 9 [(0, .ref (ad o)), (1, .int (nI v))] := hl
  obtain ⟨hN, ⟨ok1, ok2, ok3, ok4, ok5, ok6, ok7, ok8, ok9⟩, h0, ⟨s1, s2, s3⟩, ⟨e1, e2, e3⟩, h7, h8, ⟨TF, tr1, tr2, tr3, tr4, tr5⟩, ⟨TD, dv1, dv2, dv3⟩, ⟨TC, cv1, cv2, cv3⟩, hfr, hfi⟩ := id hcam
  refine lv_iload_n hx hb dX6_bestTake_0 rfl (lv_at hl 1 rfl) ?_
  refine lv_iconst (v := nI 0) hx hb dX6_bestTake_1 (by decide) ?_
  refine lv_sipush (v := nI 255) hx hb dX6_bestTake_2 (by decide) ?_
  refine iw_pv (va_runS (As := [.int (nI v), .int (nI 0), .int (nI 255)]) (rest := []) ⟨hx, hb, hml, hown, hts⟩ (kX6_needRange l (nI v) (nI 0) (nI 255) (nI_nlt (by omega) (by omega)) (nI_le (by omega) (by omega))) (va_cwS 3 hts gX6_bestTake_X6_needRange rfl rfl rfl (by decide +kernel) ⟨Nat.le_of_ble_eq_true rfl, Nat.le_of_ble_eq_true rfl⟩) ⟨fun a U g mk q => q, fun U hU hW => ⟨rfl, trivial⟩⟩ rfl rfl hl.1 rfl (lv_room (Nat.le_of_ble_eq_true rfl)) dX6_bestTake_5 ⟨Nat.le_of_ble_eq_true rfl, Nat.le_of_ble_eq_true rfl⟩) hP hS (fun u8 H locs hw8 hP hS => ?_)
  refine lv_iconst (v := -nI 1) hx hb dX6_bestTake_8 (by decide) ?_
  refine lv_istore_n (lv' := [(2, .int (-nI 1)), (0, .ref (ad o)), (1, .int (nI v))]) hx hb dX6_bestTake_9 rfl hl (by decide) rfl (fun ls hl => ?_)
  refine lv_dconst0 hx hb dX6_bestTake_10 ?_
  refine lv_dstore_n (lv' := [(3, .double FP.dconst0), (2, .int (-nI 1)), (0, .ref (ad o)), (1, .int (nI v))]) hx hb dX6_bestTake_11 rfl hl (by decide) rfl (fun ls hl => ?_)
  refine lv_iconst (v := nI 1) hx hb dX6_bestTake_12 (by decide) ?_
  refine lv_istore (lv' := [(5, .int (nI 1)), (3, .double FP.dconst0), (2, .int (-nI 1)), (0, .ref (ad o)), (1, .int (nI v))]) hx hb dX6_bestTake_13 hl (by decide) rfl (fun ls hl => ?_)
  refine lv_iload hx hb dX6_bestTake_15 (lv_at hl 0 rfl) ?_
  refine lv_bipush (v := nI 8) hx hb dX6_bestTake_17 (by decide) ?_
  refine lv_icmp_gt (tgt := 120) hx hb dX6_bestTake_19 (by decide) (fun c9 => absurd c9 (by decide)) (fun _ => ?_)
  refine lv_iconst (v := nI 1) hx hb dX6_bestTake_22 (by decide) ?_
  refine lv_istore (lv' := [(6, .int (nI 1)), (5, .int (nI 1)), (3, .double FP.dconst0), (2, .int (-nI 1)), (0, .ref (ad o)), (1, .int (nI v))]) hx hb dX6_bestTake_23 hl (by decide) rfl (fun ls hl => ?_)
  refine lv_iload hx hb dX6_bestTake_25 (lv_at hl 0 rfl) ?_
  refine lv_bipush (v := nI 64) hx hb dX6_bestTake_27 (by decide) ?_
  refine lv_icmp_gt (tgt := 114) hx hb dX6_bestTake_29 (by decide) (fun c9 => absurd c9 (by decide)) (fun _ => ?_)
  refine lv_aload_n hx hb dX6_bestTake_32 rfl (lv_at hl 4 rfl) ?_
  refine iw_get hx hb hts iu_X6_bestTake_6 hown hK hP (by omega) (h0) rfl 1 (by decide) (hts _ il_X6_bestTake_19) (fun _ h9 => h9) rfl dX6_bestTake_33 ?_
  refine lv_aload_n hx hb dX6_bestTake_36 rfl (lv_at hl 4 rfl) ?_
  refine iw_get hx hb hts iu_X6_bestTake_6 hown hK hP (by omega) (h0) rfl 0 (by decide) (hts _ il_X6_bestTake_12) (fun _ h9 => h9) rfl dX6_bestTake_37 ?_
  refine lv_iload hx hb dX6_bestTake_40 (lv_at hl 0 rfl) ?_
  refine lv_iload hx hb dX6_bestTake_42 (lv_at hl 1 rfl) ?_
  refine lv_aload_n hx hb dX6_bestTake_44 rfl (lv_at hl 4 rfl) ?_
  refine iw_get hx hb hts iu_X6_bestTake_6 hown hK hP (by omega) (h0) rfl 6 (by decide) (hts _ il_X6_bestTake_43) (fun _ h9 => h9) rfl dX6_bestTake_45 ?_
  refine iw_i (va_runV (As := [.ref (ad (o + 1)), .int (nI 1), .int (nI 1), .ref (ad (o + 9))]) (rest := []) ⟨hx, hb, hml, hown, hts⟩ (kX4_expose l G N ad _ (by omega) (by omega) (by omega) (s1) (s2) (s3) (by omega) (by omega) (by omega) (e1) (e2) (e3) (by omega) (by omega) (tr1) (tr2) (by omega) (by omega) ok5 (time := 1) (gain := 1) (by omega) (by omega) ok2 _) (cwV 4 hts gX6_bestTake_X4_expose rfl rfl rfl (by decide +kernel) ⟨Nat.le_of_ble_eq_true rfl, Nat.le_of_ble_eq_true rfl⟩) (iPV hK hP hD (by omega) (e1) rfl [.ref (ad (o + 1)), .int (nI 1), .int (nI 1), .ref (ad (o + 9))]) rfl rfl hl.1 rfl (lv_room (Nat.le_of_ble_eq_true rfl)) dX6_bestTake_48 ⟨Nat.le_of_ble_eq_true rfl, Nat.le_of_ble_eq_true rfl⟩) hD hS hA (fun r8 u8 H locs hw8 hP hD hS => ?_)
  obtain ⟨hr8, hu8⟩ := hw8
  refine lv_asI hr8 ?_
  rw [hu8] at hP hD
  rw [hdk 1 1 (by omega)] at hP hD
  refine lv_pop hx hb dX6_bestTake_51 rfl ?_
  refine lv_aload_n hx hb dX6_bestTake_52 rfl (lv_at hl 4 rfl) ?_
  refine iw_get hx hb hts iu_X6_bestTake_6 hown hK hP (by omega) ((va_un _ _ (by omega)).trans ((va_un _ _ (by omega)).trans (h0))) rfl 6 (by decide) (hts _ il_X6_bestTake_43) (fun _ h9 => h9) rfl dX6_bestTake_53 ?_
  refine iw_d (va_runV (As := []) (rest := []) ⟨hx, hb, hml, hown, hts⟩ (kX1_meanOfZones l G N ad _ (by omega) (by omega) (va_us _ _ _) ((va_un _ _ (by omega)).trans (va_us _ _ _)) R0_le _) (cwV 0 hts gX6_bestTake_X1_meanOfZones rfl rfl rfl (by decide +kernel) ⟨Nat.le_of_ble_eq_true rfl, Nat.le_of_ble_eq_true rfl⟩) (iPV hK hP hD (by omega) (va_us _ _ _) rfl []) rfl rfl hl.1 rfl (lv_room (Nat.le_of_ble_eq_true rfl)) dX6_bestTake_56 ⟨Nat.le_of_ble_eq_true rfl, Nat.le_of_ble_eq_true rfl⟩) hD hS hA (fun r8 u8 H locs hw8 hP hD hS => ?_)
  obtain ⟨hr8, hu8⟩ := hw8
  refine lv_asD hr8 ?_
  rw [hu8] at hP hD
  refine lv_asD (y := 4624950526704877568) me0 ?_
  refine lv_iload_n hx hb dX6_bestTake_59 rfl (lv_at hl 5 rfl) ?_
  refine lv_i2d hx hb dX6_bestTake_60 ?_
  refine lv_dsub hx hb dX6_bestTake_61 (isN64_ok (off_n v hv)) ?_
  refine lv_asD (y := offF v) rfl ?_
  refine lv_dstore (lv' := [(7, .double (offF v)), (6, .int (nI 1)), (5, .int (nI 1)), (3, .double FP.dconst0), (2, .int (-nI 1)), (0, .ref (ad o)), (1, .int (nI v))]) hx hb dX6_bestTake_62 hl (by decide) rfl (fun ls hl => ?_)
  refine lv_dload hx hb dX6_bestTake_64 (lv_at hl 0 rfl) ?_
  refine lv_dconst0 hx hb dX6_bestTake_66 ?_
  refine lv_dcmp hx hb dX6_bestTake_67 ?_
  refine lv_if_ge (tgt := 77) hx hb dX6_bestTake_68 (by decide) (fun c68 => ?_) (fun c68 => ?_)
  · refine lv_dload hx hb dX6_bestTake_77 (lv_at hl 0 rfl) ?_
    refine lv_asD (y := absF v) (by unfold absF; rw [if_pos c68]) ?_
    refine lv_dstore (lv' := [(7, .double (absF v)), (6, .int (nI 1)), (5, .int (nI 1)), (3, .double FP.dconst0), (2, .int (-nI 1)), (0, .ref (ad o)), (1, .int (nI v))]) hx hb dX6_bestTake_79 hl (by decide) rfl (fun ls hl => ?_)
    refine lv_iload_n hx hb dX6_bestTake_81 rfl (lv_at hl 4 rfl) ?_
    refine lv_iconst (v := -nI 1) hx hb dX6_bestTake_82 (by decide) ?_
    refine lv_icmp_eq (tgt := 93) hx hb dX6_bestTake_83 (by decide) (fun _ => ?_) (fun c9 => absurd (rfl) c9)
    refine lv_bipush (v := nI 16) hx hb dX6_bestTake_93 (by decide) ?_
    refine lv_iload hx hb dX6_bestTake_95 (lv_at hl 1 rfl) ?_
    refine lv_imul hx hb dX6_bestTake_97 ?_
    refine lv_asI (y := nI 16) (pk_mul _ _) ?_
    refine lv_iload hx hb dX6_bestTake_98 (lv_at hl 2 rfl) ?_
    refine lv_iadd hx hb dX6_bestTake_100 ?_
    refine lv_asI (y := nI 17) (nI_add _ _) ?_
    refine lv_istore_n (lv' := [(2, .int (nI 17)), (7, .double (absF v)), (6, .int (nI 1)), (5, .int (nI 1)), (3, .double FP.dconst0), (0, .ref (ad o)), (1, .int (nI v))]) hx hb dX6_bestTake_101 rfl hl (by decide) rfl (fun ls hl => ?_)
    refine lv_dload hx hb dX6_bestTake_102 (lv_at hl 1 rfl) ?_
    refine lv_dstore_n (lv' := [(3, .double (absF v)), (2, .int (nI 17)), (7, .double (absF v)), (6, .int (nI 1)), (5, .int (nI 1)), (0, .ref (ad o)), (1, .int (nI v))]) hx hb dX6_bestTake_104 rfl hl (by decide) rfl (fun ls hl => ?_)
    refine lv_iconst (v := nI 2) hx hb dX6_bestTake_105 (by decide) ?_
    refine lv_iload hx hb dX6_bestTake_106 (lv_at hl 3 rfl) ?_
    refine lv_imul hx hb dX6_bestTake_108 ?_
    refine lv_asI (y := nI 2) (pk_mul _ _) ?_
    refine lv_istore (lv' := [(6, .int (nI 2)), (3, .double (absF v)), (2, .int (nI 17)), (7, .double (absF v)), (5, .int (nI 1)), (0, .ref (ad o)), (1, .int (nI v))]) hx hb dX6_bestTake_109 hl (by decide) rfl (fun ls hl => ?_)
    refine lv_goto (tgt := 25) hx hb dX6_bestTake_111 (by decide) ?_
    refine lX6_bestTake_t hx hb hml hr hts hown hK hA (Nat.le_refl _) (Nat.le_refl _) hcam hdk hv (g := 1) (by omega) (fun ta ga qa H locs ls hP hD hS hl => ?_) 200 2 (nI 1) (nI 1) TF.2.2.2.2 H locs ls (by omega) (by omega) hP hD hS (lv_sub hl [5, 6, 2, 1, 4, 0] rfl)
    refine lv_iinc (v := nI 2) (lv' := [(5, .int (nI 2)), (0, .ref (ad o)), (1, .int (nI v)), (2, .int (nI 17)), (3, .double (absF v))]) hx hb dX6_bestTake_114 hl (k := 4) rfl (iinc_nat _ 1) (by decide) rfl (fun ls hl => ?_)
    refine lv_goto (tgt := 15) hx hb dX6_bestTake_117 (by decide) ?_
    refine lX6_bestTake_g hx hb hml hr hts hown hK hA (Nat.le_refl _) (Nat.le_refl _) hcam hdk hv (fun ta ga qa H locs ls hP hD hS hl => ?_) 20 2 ta ga qa H locs ls (by omega) (by omega) hP hD hS (lv_sub hl [1, 2, 3, 4, 0] rfl)
    refine lv_iload_n hx hb dX6_bestTake_120 rfl (lv_at hl 0 rfl) ?_
    have q1 := up_traw hcam R0
    have q2 := up_tobj q1 ta ga qa
    exact W.iret (v := (nI 17)) hx hb hr (fun t ht hW => ⟨⟨_, _, rfl, ⟨rfl, q2, same_up (same_up (same_rf) _ (by omega) (by omega)) _ (by omega) (by omega)⟩, iB_of ht hP⟩, hS.F ht⟩) hS.2.2 dX6_bestTake_121
  · refine lv_dload hx hb dX6_bestTake_71 (lv_at hl 0 rfl) ?_
    refine lv_dneg hx hb dX6_bestTake_73 ?_
    refine lv_goto (tgt := 79) hx hb dX6_bestTake_74 (by decide) ?_
    refine lv_asD (y := absF v) (by unfold absF; rw [if_neg c68]) ?_
    refine lv_dstore (lv' := [(7, .double (absF v)), (6, .int (nI 1)), (5, .int (nI 1)), (3, .double FP.dconst0), (2, .int (-nI 1)), (0, .ref (ad o)), (1, .int (nI v))]) hx hb dX6_bestTake_79 hl (by decide) rfl (fun ls hl => ?_)
    refine lv_iload_n hx hb dX6_bestTake_81 rfl (lv_at hl 4 rfl) ?_
    refine lv_iconst (v := -nI 1) hx hb dX6_bestTake_82 (by decide) ?_
    refine lv_icmp_eq (tgt := 93) hx hb dX6_bestTake_83 (by decide) (fun _ => ?_) (fun c9 => absurd (rfl) c9)
    refine lv_bipush (v := nI 16) hx hb dX6_bestTake_93 (by decide) ?_
    refine lv_iload hx hb dX6_bestTake_95 (lv_at hl 1 rfl) ?_
    refine lv_imul hx hb dX6_bestTake_97 ?_
    refine lv_asI (y := nI 16) (pk_mul _ _) ?_
    refine lv_iload hx hb dX6_bestTake_98 (lv_at hl 2 rfl) ?_
    refine lv_iadd hx hb dX6_bestTake_100 ?_
    refine lv_asI (y := nI 17) (nI_add _ _) ?_
    refine lv_istore_n (lv' := [(2, .int (nI 17)), (7, .double (absF v)), (6, .int (nI 1)), (5, .int (nI 1)), (3, .double FP.dconst0), (0, .ref (ad o)), (1, .int (nI v))]) hx hb dX6_bestTake_101 rfl hl (by decide) rfl (fun ls hl => ?_)
    refine lv_dload hx hb dX6_bestTake_102 (lv_at hl 1 rfl) ?_
    refine lv_dstore_n (lv' := [(3, .double (absF v)), (2, .int (nI 17)), (7, .double (absF v)), (6, .int (nI 1)), (5, .int (nI 1)), (0, .ref (ad o)), (1, .int (nI v))]) hx hb dX6_bestTake_104 rfl hl (by decide) rfl (fun ls hl => ?_)
    refine lv_iconst (v := nI 2) hx hb dX6_bestTake_105 (by decide) ?_
    refine lv_iload hx hb dX6_bestTake_106 (lv_at hl 3 rfl) ?_
    refine lv_imul hx hb dX6_bestTake_108 ?_
    refine lv_asI (y := nI 2) (pk_mul _ _) ?_
    refine lv_istore (lv' := [(6, .int (nI 2)), (3, .double (absF v)), (2, .int (nI 17)), (7, .double (absF v)), (5, .int (nI 1)), (0, .ref (ad o)), (1, .int (nI v))]) hx hb dX6_bestTake_109 hl (by decide) rfl (fun ls hl => ?_)
    refine lv_goto (tgt := 25) hx hb dX6_bestTake_111 (by decide) ?_
    refine lX6_bestTake_t hx hb hml hr hts hown hK hA (Nat.le_refl _) (Nat.le_refl _) hcam hdk hv (g := 1) (by omega) (fun ta ga qa H locs ls hP hD hS hl => ?_) 200 2 (nI 1) (nI 1) TF.2.2.2.2 H locs ls (by omega) (by omega) hP hD hS (lv_sub hl [5, 6, 2, 1, 4, 0] rfl)
    refine lv_iinc (v := nI 2) (lv' := [(5, .int (nI 2)), (0, .ref (ad o)), (1, .int (nI v)), (2, .int (nI 17)), (3, .double (absF v))]) hx hb dX6_bestTake_114 hl (k := 4) rfl (iinc_nat _ 1) (by decide) rfl (fun ls hl => ?_)
    refine lv_goto (tgt := 15) hx hb dX6_bestTake_117 (by decide) ?_
    refine lX6_bestTake_g hx hb hml hr hts hown hK hA (Nat.le_refl _) (Nat.le_refl _) hcam hdk hv (fun ta ga qa H locs ls hP hD hS hl => ?_) 20 2 ta ga qa H locs ls (by omega) (by omega) hP hD hS (lv_sub hl [1, 2, 3, 4, 0] rfl)
    refine lv_iload_n hx hb dX6_bestTake_120 rfl (lv_at hl 0 rfl) ?_
    have q1 := up_traw hcam R0
    have q2 := up_tobj q1 ta ga qa
    exact W.iret (v := (nI 17)) hx hb hr (fun t ht hW => ⟨⟨_, _, rfl, ⟨rfl, q2, same_up (same_up (same_rf) _ (by omega) (by omega)) _ (by omega) (by omega)⟩, iB_of ht hP⟩, hS.F ht⟩) hS.2.2 dX6_bestTake_121
abbrev rmX6_digest : Room := { frames := 4, cells := 0, slots := 0, locals := 96 }
set_option maxRecDepth 20000 in
theorem il_X6_digest_260 : (Cond.constantLong RX6 260 (9602)) ∈ wsX6_digest := by decide +kernel
set_option maxRecDepth 20000 in
theorem il_X6_digest_262 : (Cond.constantLong RX6 262 (31)) ∈ wsX6_digest := by decide +kernel
set_option maxRecDepth 20000 in
theorem iu_X6_digest_6 : ∀ w ∈ u_ws RX6 TX6 9, w ∈ wsX6_digest := by decide +kernel
set_option maxRecDepth 20000 in
theorem il_X6_digest_35 : (Cond.fieldLink RX6 35 "BayerGate" "frameCount" "I") ∈ wsX6_digest := by decide +kernel
set_option maxRecDepth 20000 in
theorem il_X6_digest_39 : (Cond.fieldLink RX6 39 "BayerGate" "fileCount" "I") ∈ wsX6_digest := by decide +kernel
set_option maxHeartbeats 4000000 in
set_option maxRecDepth 100000 in
theorem kX6_digest (l : Launch) (G : iG) (N : Nat) (ad : Nat → Nat) (C : Nat → va_E) (o : Nat) (S : St) (hcam : Cam G N ad C o S) (hdk : ∀ t g : Nat, t < 65 → exN (sHw S) (sSh S) (sFac S) (sDr S) t g = R0) (hf0 : sFn S = 0) (hl0 : sFl S = 0) (hm : ∀ w, w < 7 → maI S w = nI 0) (sz : Nat) : Met l yX6_digest wsX6_digest rmX6_digest (iPre G N ad C sz [.ref (ad o)]) (va_Ql (fun (r : Int64) (u : Nat → va_E) => r = (8189459741508482 : Int64) ∧ Cam G N ad u o S ∧ same C u o) (iB G N ad) (iA N ad sz)) 0 0 (iA N ad sz) := by
  refine Met.ofW (cc := cX6_digest) (maxL := 6) (ret := (some .long)) (by decide) rfl ?_
  intro p e s m args below meth c s₁ B hml hv
  obtain ⟨rfl, hsz, hP, hK, hD0⟩ := hv
  have hx := B.exec
  have hb := B.bytes
  have hr := B.returns
  have hts := atoms_spec (ws := wsX6_digest) B.pre
  have hown : s.vm.findClass RX6 = some m.cls := findClass_of_methodNamed B.named
  have hlocks := B.notSynchronized
  subst hsz
  have hD := wl_self hD0 s.heap.size
  have hA : ∀ q : Nat, s.heap.size ≤ q → iA N ad s.heap.size q := fun q h => Or.inr h
  have hS : va_S (iA N ad s.heap.size) s.heap s.heap [] := va_S.rf
  have hP : va_P G.1 vwB (wl N ad C) s.heap := hP
  have hl := lv_entry ([.ref (ad o)]) (n := 6) (Nat.le_of_ble_eq_true rfl)
  rw [lg_entry_eq]
  generalize (lg_sl ([.ref (ad o)]) ++ List.replicate (6 - (lg_sl ([.ref (ad o)])).length) Slot.unset).toArray = ls at hl ⊢
  have hl : lv_has ls 6 [(0, .ref (ad o))] := hl
  obtain ⟨hN, ⟨ok1, ok2, ok3, ok4, ok5, ok6, ok7, ok8, ok9⟩, h0, ⟨s1, s2, s3⟩, ⟨e1, e2, e3⟩, h7, h8, ⟨TF, tr1, tr2, tr3, tr4, tr5⟩, ⟨TD, dv1, dv2, dv3⟩, ⟨TC, cv1, cv2, cv3⟩, hfr, hfi⟩ := id hcam
  refine lv_ldc2 hx hb hown (hts _ il_X6_digest_260) dX6_digest_0 ?_
  refine lv_lstore_n (lv' := [(1, .long (9602)), (0, .ref (ad o))]) hx hb dX6_digest_3 rfl hl (by decide) rfl (fun ls hl => ?_)
  refine lv_iconst (v := nI 0) hx hb dX6_digest_4 (by decide) ?_
  refine lv_istore_n (lv' := [(3, .int (nI 0)), (1, .long (9602)), (0, .ref (ad o))]) hx hb dX6_digest_5 rfl hl (by decide) rfl (fun ls hl => ?_)
  refine lv_iload_n hx hb dX6_digest_6 rfl (lv_at hl 0 rfl) ?_
  refine lv_bipush (v := nI 6) hx hb dX6_digest_7 (by decide) ?_
  refine lv_icmp_gt (tgt := 31) hx hb dX6_digest_9 (by decide) (fun c9 => absurd c9 (by decide)) (fun _ => ?_)
  refine lv_lload_n hx hb dX6_digest_12 rfl (lv_at hl 1 rfl) ?_
  refine lv_ldc2 hx hb hown (hts _ il_X6_digest_262) dX6_digest_13 ?_
  refine lv_lmul hx hb dX6_digest_16 ?_
  refine lv_aload_n hx hb dX6_digest_17 rfl (lv_at hl 2 rfl) ?_
  refine lv_iload_n hx hb dX6_digest_18 rfl (lv_at hl 0 rfl) ?_
  refine iw_i (va_runV (As := [.int (nI 0)]) (rest := [.long ((9602) * (31))]) ⟨hx, hb, hml, hown, hts⟩ (kX6_many l G N ad _ o S hcam hf0 0 (by omega) _) (cwV 1 hts gX6_digest_X6_many rfl rfl rfl (by decide +kernel) ⟨Nat.le_of_ble_eq_true rfl, Nat.le_of_ble_eq_true rfl⟩) (iPV hK hP hD (by omega) (h0) rfl [.int (nI 0)]) rfl rfl hl.1 rfl (lv_room (Nat.le_of_ble_eq_true rfl)) dX6_digest_19 ⟨Nat.le_of_ble_eq_true rfl, Nat.le_of_ble_eq_true rfl⟩) hD hS hA (fun r8 u8 H locs hw8 hP hD hS => ?_)
  obtain ⟨hr8, hu8⟩ := hw8
  refine lv_asI hr8 ?_
  rw [hu8] at hP hD
  refine lv_asI (y := nI 0) (hm 0 (by omega)) ?_
  refine lv_i2l (v := (nI 0).toInt64) hx hb dX6_digest_22 rfl ?_
  refine lv_ladd hx hb dX6_digest_23 ?_
  refine lv_asL (y := (297662 : Int64)) (by decide +kernel) ?_
  refine lv_lstore_n (lv' := [(1, .long (297662 : Int64)), (3, .int (nI 0)), (0, .ref (ad o))]) hx hb dX6_digest_24 rfl hl (by decide) rfl (fun ls hl => ?_)
  refine lv_iinc (v := nI 1) (lv' := [(3, .int (nI 1)), (1, .long (297662 : Int64)), (0, .ref (ad o))]) hx hb dX6_digest_25 hl (k := 1) rfl (iinc_nat _ 1) (by decide) rfl (fun ls hl => ?_)
  refine lv_goto (tgt := 6) hx hb dX6_digest_28 (by decide) ?_
  refine lv_iload_n hx hb dX6_digest_6 rfl (lv_at hl 0 rfl) ?_
  refine lv_bipush (v := nI 6) hx hb dX6_digest_7 (by decide) ?_
  refine lv_icmp_gt (tgt := 31) hx hb dX6_digest_9 (by decide) (fun c9 => absurd c9 (by decide)) (fun _ => ?_)
  refine lv_lload_n hx hb dX6_digest_12 rfl (lv_at hl 1 rfl) ?_
  refine lv_ldc2 hx hb hown (hts _ il_X6_digest_262) dX6_digest_13 ?_
  refine lv_lmul hx hb dX6_digest_16 ?_
  refine lv_aload_n hx hb dX6_digest_17 rfl (lv_at hl 2 rfl) ?_
  refine lv_iload_n hx hb dX6_digest_18 rfl (lv_at hl 0 rfl) ?_
  refine iw_i (va_runV (As := [.int (nI 1)]) (rest := [.long ((297662 : Int64) * (31))]) ⟨hx, hb, hml, hown, hts⟩ (kX6_many l G N ad _ o S hcam hf0 1 (by omega) _) (cwV 1 hts gX6_digest_X6_many rfl rfl rfl (by decide +kernel) ⟨Nat.le_of_ble_eq_true rfl, Nat.le_of_ble_eq_true rfl⟩) (iPV hK hP hD (by omega) (h0) rfl [.int (nI 1)]) rfl rfl hl.1 rfl (lv_room (Nat.le_of_ble_eq_true rfl)) dX6_digest_19 ⟨Nat.le_of_ble_eq_true rfl, Nat.le_of_ble_eq_true rfl⟩) hD hS hA (fun r8 u8 H locs hw8 hP hD hS => ?_)
  obtain ⟨hr8, hu8⟩ := hw8
  refine lv_asI hr8 ?_
  rw [hu8] at hP hD
  refine lv_asI (y := nI 0) (hm 1 (by omega)) ?_
  refine lv_i2l (v := (nI 0).toInt64) hx hb dX6_digest_22 rfl ?_
  refine lv_ladd hx hb dX6_digest_23 ?_
  refine lv_asL (y := (9227522 : Int64)) (by decide +kernel) ?_
  refine lv_lstore_n (lv' := [(1, .long (9227522 : Int64)), (3, .int (nI 1)), (0, .ref (ad o))]) hx hb dX6_digest_24 rfl hl (by decide) rfl (fun ls hl => ?_)
  refine lv_iinc (v := nI 2) (lv' := [(3, .int (nI 2)), (1, .long (9227522 : Int64)), (0, .ref (ad o))]) hx hb dX6_digest_25 hl (k := 1) rfl (iinc_nat _ 1) (by decide) rfl (fun ls hl => ?_)
  refine lv_goto (tgt := 6) hx hb dX6_digest_28 (by decide) ?_
  refine lv_iload_n hx hb dX6_digest_6 rfl (lv_at hl 0 rfl) ?_
  refine lv_bipush (v := nI 6) hx hb dX6_digest_7 (by decide) ?_
  refine lv_icmp_gt (tgt := 31) hx hb dX6_digest_9 (by decide) (fun c9 => absurd c9 (by decide)) (fun _ => ?_)
  refine lv_lload_n hx hb dX6_digest_12 rfl (lv_at hl 1 rfl) ?_
  refine lv_ldc2 hx hb hown (hts _ il_X6_digest_262) dX6_digest_13 ?_
  refine lv_lmul hx hb dX6_digest_16 ?_
  refine lv_aload_n hx hb dX6_digest_17 rfl (lv_at hl 2 rfl) ?_
  refine lv_iload_n hx hb dX6_digest_18 rfl (lv_at hl 0 rfl) ?_
  refine iw_i (va_runV (As := [.int (nI 2)]) (rest := [.long ((9227522 : Int64) * (31))]) ⟨hx, hb, hml, hown, hts⟩ (kX6_many l G N ad _ o S hcam hf0 2 (by omega) _) (cwV 1 hts gX6_digest_X6_many rfl rfl rfl (by decide +kernel) ⟨Nat.le_of_ble_eq_true rfl, Nat.le_of_ble_eq_true rfl⟩) (iPV hK hP hD (by omega) (h0) rfl [.int (nI 2)]) rfl rfl hl.1 rfl (lv_room (Nat.le_of_ble_eq_true rfl)) dX6_digest_19 ⟨Nat.le_of_ble_eq_true rfl, Nat.le_of_ble_eq_true rfl⟩) hD hS hA (fun r8 u8 H locs hw8 hP hD hS => ?_)
  obtain ⟨hr8, hu8⟩ := hw8
  refine lv_asI hr8 ?_
  rw [hu8] at hP hD
  refine lv_asI (y := nI 0) (hm 2 (by omega)) ?_
  refine lv_i2l (v := (nI 0).toInt64) hx hb dX6_digest_22 rfl ?_
  refine lv_ladd hx hb dX6_digest_23 ?_
  refine lv_asL (y := (286053182 : Int64)) (by decide +kernel) ?_
  refine lv_lstore_n (lv' := [(1, .long (286053182 : Int64)), (3, .int (nI 2)), (0, .ref (ad o))]) hx hb dX6_digest_24 rfl hl (by decide) rfl (fun ls hl => ?_)
  refine lv_iinc (v := nI 3) (lv' := [(3, .int (nI 3)), (1, .long (286053182 : Int64)), (0, .ref (ad o))]) hx hb dX6_digest_25 hl (k := 1) rfl (iinc_nat _ 1) (by decide) rfl (fun ls hl => ?_)
  refine lv_goto (tgt := 6) hx hb dX6_digest_28 (by decide) ?_
  refine lv_iload_n hx hb dX6_digest_6 rfl (lv_at hl 0 rfl) ?_
  refine lv_bipush (v := nI 6) hx hb dX6_digest_7 (by decide) ?_
  refine lv_icmp_gt (tgt := 31) hx hb dX6_digest_9 (by decide) (fun c9 => absurd c9 (by decide)) (fun _ => ?_)
  refine lv_lload_n hx hb dX6_digest_12 rfl (lv_at hl 1 rfl) ?_
  refine lv_ldc2 hx hb hown (hts _ il_X6_digest_262) dX6_digest_13 ?_
  refine lv_lmul hx hb dX6_digest_16 ?_
  refine lv_aload_n hx hb dX6_digest_17 rfl (lv_at hl 2 rfl) ?_
  refine lv_iload_n hx hb dX6_digest_18 rfl (lv_at hl 0 rfl) ?_
  refine iw_i (va_runV (As := [.int (nI 3)]) (rest := [.long ((286053182 : Int64) * (31))]) ⟨hx, hb, hml, hown, hts⟩ (kX6_many l G N ad _ o S hcam hf0 3 (by omega) _) (cwV 1 hts gX6_digest_X6_many rfl rfl rfl (by decide +kernel) ⟨Nat.le_of_ble_eq_true rfl, Nat.le_of_ble_eq_true rfl⟩) (iPV hK hP hD (by omega) (h0) rfl [.int (nI 3)]) rfl rfl hl.1 rfl (lv_room (Nat.le_of_ble_eq_true rfl)) dX6_digest_19 ⟨Nat.le_of_ble_eq_true rfl, Nat.le_of_ble_eq_true rfl⟩) hD hS hA (fun r8 u8 H locs hw8 hP hD hS => ?_)
  obtain ⟨hr8, hu8⟩ := hw8
  refine lv_asI hr8 ?_
  rw [hu8] at hP hD
  refine lv_asI (y := nI 0) (hm 3 (by omega)) ?_
  refine lv_i2l (v := (nI 0).toInt64) hx hb dX6_digest_22 rfl ?_
  refine lv_ladd hx hb dX6_digest_23 ?_
  refine lv_asL (y := (8867648642 : Int64)) (by decide +kernel) ?_
  refine lv_lstore_n (lv' := [(1, .long (8867648642 : Int64)), (3, .int (nI 3)), (0, .ref (ad o))]) hx hb dX6_digest_24 rfl hl (by decide) rfl (fun ls hl => ?_)
  refine lv_iinc (v := nI 4) (lv' := [(3, .int (nI 4)), (1, .long (8867648642 : Int64)), (0, .ref (ad o))]) hx hb dX6_digest_25 hl (k := 1) rfl (iinc_nat _ 1) (by decide) rfl (fun ls hl => ?_)
  refine lv_goto (tgt := 6) hx hb dX6_digest_28 (by decide) ?_
  refine lv_iload_n hx hb dX6_digest_6 rfl (lv_at hl 0 rfl) ?_
  refine lv_bipush (v := nI 6) hx hb dX6_digest_7 (by decide) ?_
  refine lv_icmp_gt (tgt := 31) hx hb dX6_digest_9 (by decide) (fun c9 => absurd c9 (by decide)) (fun _ => ?_)
  refine lv_lload_n hx hb dX6_digest_12 rfl (lv_at hl 1 rfl) ?_
  refine lv_ldc2 hx hb hown (hts _ il_X6_digest_262) dX6_digest_13 ?_
  refine lv_lmul hx hb dX6_digest_16 ?_
  refine lv_aload_n hx hb dX6_digest_17 rfl (lv_at hl 2 rfl) ?_
  refine lv_iload_n hx hb dX6_digest_18 rfl (lv_at hl 0 rfl) ?_
  refine iw_i (va_runV (As := [.int (nI 4)]) (rest := [.long ((8867648642 : Int64) * (31))]) ⟨hx, hb, hml, hown, hts⟩ (kX6_many l G N ad _ o S hcam hf0 4 (by omega) _) (cwV 1 hts gX6_digest_X6_many rfl rfl rfl (by decide +kernel) ⟨Nat.le_of_ble_eq_true rfl, Nat.le_of_ble_eq_true rfl⟩) (iPV hK hP hD (by omega) (h0) rfl [.int (nI 4)]) rfl rfl hl.1 rfl (lv_room (Nat.le_of_ble_eq_true rfl)) dX6_digest_19 ⟨Nat.le_of_ble_eq_true rfl, Nat.le_of_ble_eq_true rfl⟩) hD hS hA (fun r8 u8 H locs hw8 hP hD hS => ?_)
  obtain ⟨hr8, hu8⟩ := hw8
  refine lv_asI hr8 ?_
  rw [hu8] at hP hD
  refine lv_asI (y := nI 0) (hm 4 (by omega)) ?_
  refine lv_i2l (v := (nI 0).toInt64) hx hb dX6_digest_22 rfl ?_
  refine lv_ladd hx hb dX6_digest_23 ?_
  refine lv_asL (y := (274897107902 : Int64)) (by decide +kernel) ?_
  refine lv_lstore_n (lv' := [(1, .long (274897107902 : Int64)), (3, .int (nI 4)), (0, .ref (ad o))]) hx hb dX6_digest_24 rfl hl (by decide) rfl (fun ls hl => ?_)
  refine lv_iinc (v := nI 5) (lv' := [(3, .int (nI 5)), (1, .long (274897107902 : Int64)), (0, .ref (ad o))]) hx hb dX6_digest_25 hl (k := 1) rfl (iinc_nat _ 1) (by decide) rfl (fun ls hl => ?_)
  refine lv_goto (tgt := 6) hx hb dX6_digest_28 (by decide) ?_
  refine lv_iload_n hx hb dX6_digest_6 rfl (lv_at hl 0 rfl) ?_
  refine lv_bipush (v := nI 6) hx hb dX6_digest_7 (by decide) ?_
  refine lv_icmp_gt (tgt := 31) hx hb dX6_digest_9 (by decide) (fun c9 => absurd c9 (by decide)) (fun _ => ?_)
  refine lv_lload_n hx hb dX6_digest_12 rfl (lv_at hl 1 rfl) ?_
  refine lv_ldc2 hx hb hown (hts _ il_X6_digest_262) dX6_digest_13 ?_
  refine lv_lmul hx hb dX6_digest_16 ?_
  refine lv_aload_n hx hb dX6_digest_17 rfl (lv_at hl 2 rfl) ?_
  refine lv_iload_n hx hb dX6_digest_18 rfl (lv_at hl 0 rfl) ?_
  refine iw_i (va_runV (As := [.int (nI 5)]) (rest := [.long ((274897107902 : Int64) * (31))]) ⟨hx, hb, hml, hown, hts⟩ (kX6_many l G N ad _ o S hcam hf0 5 (by omega) _) (cwV 1 hts gX6_digest_X6_many rfl rfl rfl (by decide +kernel) ⟨Nat.le_of_ble_eq_true rfl, Nat.le_of_ble_eq_true rfl⟩) (iPV hK hP hD (by omega) (h0) rfl [.int (nI 5)]) rfl rfl hl.1 rfl (lv_room (Nat.le_of_ble_eq_true rfl)) dX6_digest_19 ⟨Nat.le_of_ble_eq_true rfl, Nat.le_of_ble_eq_true rfl⟩) hD hS hA (fun r8 u8 H locs hw8 hP hD hS => ?_)
  obtain ⟨hr8, hu8⟩ := hw8
  refine lv_asI hr8 ?_
  rw [hu8] at hP hD
  refine lv_asI (y := nI 0) (hm 5 (by omega)) ?_
  refine lv_i2l (v := (nI 0).toInt64) hx hb dX6_digest_22 rfl ?_
  refine lv_ladd hx hb dX6_digest_23 ?_
  refine lv_asL (y := (8521810344962 : Int64)) (by decide +kernel) ?_
  refine lv_lstore_n (lv' := [(1, .long (8521810344962 : Int64)), (3, .int (nI 5)), (0, .ref (ad o))]) hx hb dX6_digest_24 rfl hl (by decide) rfl (fun ls hl => ?_)
  refine lv_iinc (v := nI 6) (lv' := [(3, .int (nI 6)), (1, .long (8521810344962 : Int64)), (0, .ref (ad o))]) hx hb dX6_digest_25 hl (k := 1) rfl (iinc_nat _ 1) (by decide) rfl (fun ls hl => ?_)
  refine lv_goto (tgt := 6) hx hb dX6_digest_28 (by decide) ?_
  refine lv_iload_n hx hb dX6_digest_6 rfl (lv_at hl 0 rfl) ?_
  refine lv_bipush (v := nI 6) hx hb dX6_digest_7 (by decide) ?_
  refine lv_icmp_gt (tgt := 31) hx hb dX6_digest_9 (by decide) (fun c9 => absurd c9 (by decide)) (fun _ => ?_)
  refine lv_lload_n hx hb dX6_digest_12 rfl (lv_at hl 1 rfl) ?_
  refine lv_ldc2 hx hb hown (hts _ il_X6_digest_262) dX6_digest_13 ?_
  refine lv_lmul hx hb dX6_digest_16 ?_
  refine lv_aload_n hx hb dX6_digest_17 rfl (lv_at hl 2 rfl) ?_
  refine lv_iload_n hx hb dX6_digest_18 rfl (lv_at hl 0 rfl) ?_
  refine iw_i (va_runV (As := [.int (nI 6)]) (rest := [.long ((8521810344962 : Int64) * (31))]) ⟨hx, hb, hml, hown, hts⟩ (kX6_many l G N ad _ o S hcam hf0 6 (by omega) _) (cwV 1 hts gX6_digest_X6_many rfl rfl rfl (by decide +kernel) ⟨Nat.le_of_ble_eq_true rfl, Nat.le_of_ble_eq_true rfl⟩) (iPV hK hP hD (by omega) (h0) rfl [.int (nI 6)]) rfl rfl hl.1 rfl (lv_room (Nat.le_of_ble_eq_true rfl)) dX6_digest_19 ⟨Nat.le_of_ble_eq_true rfl, Nat.le_of_ble_eq_true rfl⟩) hD hS hA (fun r8 u8 H locs hw8 hP hD hS => ?_)
  obtain ⟨hr8, hu8⟩ := hw8
  refine lv_asI hr8 ?_
  rw [hu8] at hP hD
  refine lv_asI (y := nI 0) (hm 6 (by omega)) ?_
  refine lv_i2l (v := (nI 0).toInt64) hx hb dX6_digest_22 rfl ?_
  refine lv_ladd hx hb dX6_digest_23 ?_
  refine lv_asL (y := (264176120693822 : Int64)) (by decide +kernel) ?_
  refine lv_lstore_n (lv' := [(1, .long (264176120693822 : Int64)), (3, .int (nI 6)), (0, .ref (ad o))]) hx hb dX6_digest_24 rfl hl (by decide) rfl (fun ls hl => ?_)
  refine lv_iinc (v := nI 7) (lv' := [(3, .int (nI 7)), (1, .long (264176120693822 : Int64)), (0, .ref (ad o))]) hx hb dX6_digest_25 hl (k := 1) rfl (iinc_nat _ 1) (by decide) rfl (fun ls hl => ?_)
  refine lv_goto (tgt := 6) hx hb dX6_digest_28 (by decide) ?_
  refine lv_iload_n hx hb dX6_digest_6 rfl (lv_at hl 0 rfl) ?_
  refine lv_bipush (v := nI 6) hx hb dX6_digest_7 (by decide) ?_
  refine lv_icmp_gt (tgt := 31) hx hb dX6_digest_9 (by decide) (fun _ => ?_) (fun c9 => absurd (by decide) c9)
  refine lv_iconst (v := nI 0) hx hb dX6_digest_31 (by decide) ?_
  refine lv_istore_n (lv' := [(3, .int (nI 0)), (1, .long (264176120693822 : Int64)), (0, .ref (ad o))]) hx hb dX6_digest_32 rfl hl (by decide) rfl (fun ls hl => ?_)
  refine lv_iload_n hx hb dX6_digest_33 rfl (lv_at hl 0 rfl) ?_
  refine lv_aload_n hx hb dX6_digest_34 rfl (lv_at hl 2 rfl) ?_
  refine iw_get hx hb hts iu_X6_digest_6 hown hK hP (by omega) (h0) rfl 4 (by decide) (hts _ il_X6_digest_35) (fun _ h9 => h9) rfl dX6_digest_35 ?_
  refine lv_icmp_ge (tgt := 148) hx hb dX6_digest_38 (by decide) (fun _ => ?_) (fun c9 => absurd ((by rw [hf0]; decide)) c9)
  refine lv_iconst (v := nI 0) hx hb dX6_digest_148 (by decide) ?_
  refine lv_istore_n (lv' := [(3, .int (nI 0)), (1, .long (264176120693822 : Int64)), (0, .ref (ad o))]) hx hb dX6_digest_149 rfl hl (by decide) rfl (fun ls hl => ?_)
  refine lv_iload_n hx hb dX6_digest_150 rfl (lv_at hl 0 rfl) ?_
  refine lv_aload_n hx hb dX6_digest_151 rfl (lv_at hl 2 rfl) ?_
  refine iw_get hx hb hts iu_X6_digest_6 hown hK hP (by omega) (h0) rfl 5 (by decide) (hts _ il_X6_digest_39) (fun _ h9 => h9) rfl dX6_digest_152 ?_
  refine lv_icmp_ge (tgt := 194) hx hb dX6_digest_155 (by decide) (fun _ => ?_) (fun c9 => absurd ((by rw [hl0]; decide)) c9)
  refine lv_lload_n hx hb dX6_digest_194 rfl (lv_at hl 1 rfl) ?_
  refine lv_ldc2 hx hb hown (hts _ il_X6_digest_262) dX6_digest_195 ?_
  refine lv_lmul hx hb dX6_digest_198 ?_
  refine lv_aload_n hx hb dX6_digest_199 rfl (lv_at hl 2 rfl) ?_
  refine lv_bipush (v := nI 16) hx hb dX6_digest_200 (by decide) ?_
  refine lv_iconst (v := nI 1) hx hb dX6_digest_202 (by decide) ?_
  refine iw_i (va_runV (As := [.int (nI 16), .int (nI 1)]) (rest := [.long ((264176120693822 : Int64) * (31))]) ⟨hx, hb, hml, hown, hts⟩ (kX6_wouldClip l G N ad _ o S hcam 16 1 (by omega) (by omega) _) (cwV 2 hts gX6_digest_X6_wouldClip rfl rfl rfl (by decide +kernel) ⟨Nat.le_of_ble_eq_true rfl, Nat.le_of_ble_eq_true rfl⟩) (iPV hK hP hD (by omega) (h0) rfl [.int (nI 16), .int (nI 1)]) rfl rfl hl.1 rfl (lv_room (Nat.le_of_ble_eq_true rfl)) dX6_digest_203 ⟨Nat.le_of_ble_eq_true rfl, Nat.le_of_ble_eq_true rfl⟩) hD hS hA (fun r8 u8 H locs hw8 hP hD hS => ?_)
  obtain ⟨hr8, hc8, hs8⟩ := hw8
  refine lv_asI hr8 ?_
  refine lv_asI (y := nI 0) (by rw [hdk 16 1 (by omega), cl0]) ?_
  refine lv_i2l (v := (nI 0).toInt64) hx hb dX6_digest_206 rfl ?_
  refine lv_ladd hx hb dX6_digest_207 ?_
  refine lv_asL (y := (8189459741508482 : Int64)) (by decide +kernel) ?_
  exact W.lret (v := (8189459741508482 : Int64)) hx hb hr (fun t ht hW => ⟨⟨_, _, rfl, ⟨rfl, hc8, hs8⟩, iB_of ht hP⟩, hS.F ht⟩) hS.2.2 dX6_digest_208
theorem maI0 : ∀ w, w < 7 → maI S0 w = nI 0 := by decide +kernel
theorem hd0 : ∀ t g : Nat, t < 65 → exN (sHw S0) (sSh S0) (sFac S0) (sDr S0) t g = R0 := fun t g h => ex0 h
