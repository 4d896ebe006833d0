set_option maxRecDepth 20000 in
theorem ggX6_bestTake_X4_expose : GoodIn wsX6_bestTake wsX4_expose := goodIn_r _ [14, 15, 16, 17, 6, 18, 19, 20, 21, 22, 23, 24, 25, 26, 27, 28, 29, 30, 31, 32, 33, 34, 13, 35, 36, 37, 38, 39, 40, 41, 42, 64, 65, 66, 67, 68, 69, 70, 71, 72, 73, 74] (by decide +kernel) (by decide +kernel)
set_option maxRecDepth 20000 in
theorem gX6_bestTake_X4_expose : GoodIn wsX6_bestTake (wsV RX6 108 RX4 yX4_expose wsX4_expose) := goodIn_app (goodIn_of _ (by decide +kernel)) ggX6_bestTake_X4_expose
set_option maxRecDepth 20000 in
theorem ggX6_bestTake_X1_meanOfZones : GoodIn wsX6_bestTake wsX1_meanOfZones := goodIn_r _ [47, 48, 49, 50, 51, 46, 52, 53, 54, 19, 6, 20, 17, 18, 67, 68, 69, 70, 71] (by decide +kernel) (by decide +kernel)
set_option maxRecDepth 20000 in
theorem gX6_bestTake_X1_meanOfZones : GoodIn wsX6_bestTake (wsV RX6 207 RX1 yX1_meanOfZones wsX1_meanOfZones) := goodIn_app (goodIn_of _ (by decide +kernel)) ggX6_bestTake_X1_meanOfZones
set_option maxRecDepth 20000 in
theorem ggX6_bestTake_X6_needRange : GoodIn wsX6_bestTake wsX6_needRange := goodIn_ca (goodIn_r _ [7, 8, 9] (by decide +kernel) (by decide +kernel)) (goodIn_sub (fun _ h => List.mem_cons_of_mem _ (List.mem_append_right _ h)) (by decide +kernel))
set_option maxRecDepth 20000 in
theorem gX6_bestTake_X6_needRange : GoodIn wsX6_bestTake (va_wsS RX6 70 yX6_needRange wsX6_needRange) := goodIn_app (goodIn_of _ (by decide +kernel)) ggX6_bestTake_X6_needRange
set_option maxRecDepth 20000 in
theorem ggX6_bestWhite_X6_mostNumber : GoodIn wsX6_bestWhite wsX6_mostNumber := goodIn_r _ [99] (by decide +kernel) (by decide +kernel)
set_option maxRecDepth 20000 in
theorem gX6_bestWhite_X6_mostNumber : GoodIn wsX6_bestWhite (va_wsS RX6 133 yX6_mostNumber wsX6_mostNumber) := goodIn_app (goodIn_of _ (by decide +kernel)) ggX6_bestWhite_X6_mostNumber
set_option maxRecDepth 20000 in
theorem ggX6_bestWhite_X2_sumTones : GoodIn wsX6_bestWhite wsX2_sumTones := goodIn_r _ [90, 50, 57, 58, 25, 59, 91, 92, 93, 82, 120, 121] (by decide +kernel) (by decide +kernel)
set_option maxRecDepth 20000 in
theorem gX6_bestWhite_X2_sumTones : GoodIn wsX6_bestWhite (wsV RX6 250 RX2 yX2_sumTones wsX2_sumTones) := goodIn_app (goodIn_of _ (by decide +kernel)) ggX6_bestWhite_X2_sumTones
set_option maxRecDepth 20000 in
theorem ggX6_bestWhite_X6_needFrame : GoodIn wsX6_bestWhite wsX6_needFrame := goodIn_ca (goodIn_r _ [13, 14, 15, 16, 100, 101, 102, 103, 104, 105, 106, 107, 108] (by decide +kernel) (by decide +kernel)) (goodIn_sub (fun _ h => List.mem_cons_of_mem _ (List.mem_append_left _ (List.mem_append_right _ h))) (by decide +kernel))
set_option maxRecDepth 20000 in
theorem gX6_bestWhite_X6_needFrame : GoodIn wsX6_bestWhite (wsV RX6 127 RX6 yX6_needFrame wsX6_needFrame) := goodIn_app (goodIn_of _ (by decide +kernel)) ggX6_bestWhite_X6_needFrame
set_option maxRecDepth 20000 in
theorem ggX6_bestWhite_X6_needRange : GoodIn wsX6_bestWhite wsX6_needRange := goodIn_ca (goodIn_r _ [19, 20, 21] (by decide +kernel) (by decide +kernel)) (goodIn_sub (fun _ h => List.mem_cons_of_mem _ (List.mem_append_right _ h)) (by decide +kernel))
set_option maxRecDepth 20000 in
theorem gX6_bestWhite_X6_needRange : GoodIn wsX6_bestWhite (va_wsS RX6 70 yX6_needRange wsX6_needRange) := goodIn_app (goodIn_of _ (by decide +kernel)) ggX6_bestWhite_X6_needRange
set_option maxRecDepth 20000 in
theorem ggX6_bestWhite_X2_compose : GoodIn wsX6_bestWhite wsX2_compose := goodIn_r _ [26, 27, 28, 29, 30, 31, 32, 33, 34, 35, 36, 25, 37, 38, 39, 12, 40, 41, 42, 43, 44, 45, 46, 47, 48, 49, 50, 51, 52, 53, 54, 55, 56, 57, 58, 59, 60, 61, 62, 63, 64, 65, 66, 67, 68, 69, 70, 71, 72, 73, 74, 75, 76, 77, 78, 79, 80, 81, 82, 83, 84, 85, 86, 117, 118, 119, 120, 121] (by decide +kernel) (by decide +kernel)
set_option maxRecDepth 20000 in
theorem gX6_bestWhite_X2_compose : GoodIn wsX6_bestWhite (wsV RX6 246 RX2 yX2_compose wsX2_compose) := goodIn_app (goodIn_of _ (by decide +kernel)) ggX6_bestWhite_X2_compose
set_option maxRecDepth 20000 in
theorem ggX6_bestWhite_X6_leastNumber : GoodIn wsX6_bestWhite wsX6_leastNumber := goodIn_r _ [96] (by decide +kernel) (by decide +kernel)
set_option maxRecDepth 20000 in
theorem gX6_bestWhite_X6_leastNumber : GoodIn wsX6_bestWhite (va_wsS RX6 130 yX6_leastNumber wsX6_leastNumber) := goodIn_app (goodIn_of _ (by decide +kernel)) ggX6_bestWhite_X6_leastNumber
/-- how far off a time and a gain are -/
def absJ (x : UInt64) : UInt64 := if 0 ≤ Op.cmpValue (FP.dcmp x FP.dconst0) .g then x else FP.dneg x
def offJ (S : St) (v t g : Nat) : UInt64 := FP.dsub (meF (exN (sHw S) (sSh S) (sFac S) (sDr S) t g)) (FP.i2d (nI v))
def offA (S : St) (v t g : Nat) : UInt64 := absJ (offJ S v t g)
def btS (S : St) (v t g : Nat) (b : Int32 × UInt64) : Int32 × UInt64 := if b.1 = -nI 1 ∨ ¬ 0 ≤ Op.cmpValue (FP.dcmp (offA S v t g) b.2) .g then (nI (16 * t + g), offA S v t g) else b
/-- the best of the first n shots: gain by gain, time by time -/
def btF (S : St) (v : Nat) : Nat → Int32 × UInt64
  | 0 => (-nI 1, FP.dconst0)
  | n + 1 => btS S v (2 ^ (n % 7)) (n / 7 + 1) (btF S v n)
theorem meF_fin (rw : Nat → Nat) : vf_n64 (meF rw) := meF_n rw
theorem dsub_nf {x y : UInt64} (hx : vf_n64 x) (hy : fin64 y) : vf_n64 (FP.dsub x y) := by
  obtain ⟨s, c, q, h⟩ := hy
  show vf_n64 (FP.Core.dsub x y)
  rw [FP.Core.dsub_eq]
  exact dadd_nf hx ⟨!s, c, q, by rw [FP.Core.val64_dneg, h]; rfl⟩
theorem offJ_n (S : St) (v t g : Nat) : vf_n64 (offJ S v t g) := dsub_nf (meF_n _) (i2d_fin64 _)
theorem p2_le {i : Nat} (h : i ≤ 7) : 2 ^ i ≤ 128 ∧ 0 < 2 ^ i ∧ (i ≤ 6 → 2 ^ i ≤ 64) ∧ (i = 7 → 2 ^ i = 128) := by
  rcases (show i = 0 ∨ i = 1 ∨ i = 2 ∨ i = 3 ∨ i = 4 ∨ i = 5 ∨ i = 6 ∨ i = 7 by omega) with rfl | rfl | rfl | rfl | rfl | rfl | rfl | rfl <;> decide
abbrev rmX6_bestTake : Room := { frames := 3, cells := 0, slots := 0, locals := 74 }
set_option maxRecDepth 20000 in
theorem iu_X6_bestTake_6 : ∀ w ∈ u_ws RX6 TX6 9, w ∈ wsX6_bestTake := by decide +kernel
set_option maxRecDepth 20000 in
theorem il_X6_bestTake_19 : (Cond.fieldLink RX6 19 "BayerGate" "sensor" "LBayerGate$Sensor;") ∈ wsX6_bestTake := by decide +kernel
set_option maxRecDepth 20000 in
theorem il_X6_bestTake_12 : (Cond.fieldLink RX6 12 "BayerGate" "scene" "LBayerGate$Scene;") ∈ wsX6_bestTake := by decide +kernel
set_option maxRecDepth 20000 in
theorem il_X6_bestTake_43 : (Cond.fieldLink RX6 43 "BayerGate" "trial" "LBayerGate$Frame;") ∈ wsX6_bestTake := by decide +kernel
set_option maxHeartbeats 4000000 in
set_option maxRecDepth 100000 in
theorem lX6_bestTake_t {p : Program} {l : Launch} {e : Env} {s : State} {m : MethodId} {args : Array Value} {below : List Frame} {meth : Method} {c : Code} {Q : State → Prop} {A : Nat → Prop} {H0 : Heap} {cells slots : Nat} (hx : p.tables.exec = Jvm.exec) (hb : c.code = cX6_bestTake) (hml : c.maxLocals = 9) (hr : meth.sig.returnType = (some .int)) (hts : ∀ w ∈ wsX6_bestTake, w.before args s = true) (hown : s.vm.findClass RX6 = some m.cls) {G : iG} (hK : KB G s) (hA : ∀ q, H0.size ≤ q → A q) {N : Nat} {ad : Nat → Nat} {C : Nat → va_E}  (hcc : cells ≤ rmX6_bestTake.cells) (hcs : slots ≤ rmX6_bestTake.slots) {o : Nat} {S : St} (hcam : Cam G N ad C o S) {v : Nat} (hv : v < 256) {g0 : Nat} (hg : g0 < 8) (kx : ∀ (ta ga qa : Int32) (ea : Nat → Nat) (H : Heap) (locs : List Loc) (ls : Array Slot), va_P G.1 vwB (wl N ad (va_up (va_up C (o + 9 + 1) (ia G 64 (fun i => nI (ea i)))) (o + 9) (ob 1 [.ref (ad (o + 9 + 1)), .ref (ad (o + 9 + 2)), .int ta, .int ga, .int qa]))) H → va_D A (wl N ad (va_up (va_up C (o + 9 + 1) (ia G 64 (fun i => nI (ea i)))) (o + 9) (ob 1 [.ref (ad (o + 9 + 1)), .ref (ad (o + 9 + 2)), .int ta, .int ga, .int qa]))) → va_S A H0 H locs → lv_has ls 9 [(0, .ref (ad o)), (1, .int (nI v)), (2, .int ((btF S v (7 * g0 + 7)).1)), (3, .double ((btF S v (7 * g0 + 7)).2)), (5, .int (nI (g0 + 1)))] → W p l e rmX6_bestTake s m args below meth c H locs cells slots Q (F0 m 114 ls [])) : ∀ (d : Nat) (i t : Nat) (ta ga qa : Int32) (ea : Nat → Nat) (H : Heap) (locs : List Loc) (ls : Array Slot), 8 - i < d → i ≤ 7 → t = 2 ^ i → va_P G.1 vwB (wl N ad (va_up (va_up C (o + 9 + 1) (ia G 64 (fun i => nI (ea i)))) (o + 9) (ob 1 [.ref (ad (o + 9 + 1)), .ref (ad (o + 9 + 2)), .int ta, .int ga, .int qa]))) H → va_D A (wl N ad (va_up (va_up C (o + 9 + 1) (ia G 64 (fun i => nI (ea i)))) (o + 9) (ob 1 [.ref (ad (o + 9 + 1)), .ref (ad (o + 9 + 2)), .int ta, .int ga, .int qa]))) → va_S A H0 H locs → lv_has ls 9 [(0, .ref (ad o)), (1, .int (nI v)), (2, .int ((btF S v (7 * g0 + i)).1)), (3, .double ((btF S v (7 * g0 + i)).2)), (5, .int (nI (g0 + 1))), (6, .int (nI t))] → W p l e rmX6_bestTake s m args below meth c H locs cells slots Q (F0 m 25 ls []) := by
  intro d
  induction d with
  | zero => intro i t ta ga qa ea H locs ls hd; exact absurd hd (Nat.not_lt_zero _)
  | succ d ih =>
    intro i t ta ga qa ea H locs ls hd h2 ht hP hD hS hl
    obtain ⟨hN, ⟨ok1, ok2, ok3, ok4, ok5, ok6, ok7, ok8, ok9⟩, h0, ⟨s1, s2, s3⟩, ⟨e1, e2, e3⟩, ⟨F7, h7, hF7⟩, ⟨F8, h8, hF8⟩, ⟨TF, tr1, tr2, tr3, tr4, tr5⟩, ⟨TD, dv1, dv2, dv3⟩, ⟨TC, cv1, cv2, cv3⟩, hfr, hfi⟩ := id hcam
    obtain ⟨hp0, hp1, hp2, hp3⟩ := p2_le h2
    rw [← ht] at hp0 hp1 hp2 hp3
    refine lv_iload hx hb dX6_bestTake_25 (lv_at hl 5 rfl) ?_
    refine lv_bipush (v := nI 64) hx hb dX6_bestTake_27 (by decide) ?_
    refine lv_icmp_gt (tgt := 114) hx hb dX6_bestTake_29 (by decide) (fun c29 => ?_) (fun c29 => ?_)
    · have h6 : ¬ i ≤ 6 := fun h => absurd c29 (nI_nlt (by have := hp2 h; omega) (by omega))
      have h7 : i = 7 := by omega
      subst h7
      exact kx ta ga qa ea H locs ls hP hD hS (lv_sub hl [0, 1, 2, 3, 4] rfl)
    · have h4 : i ≤ 6 := by rcases Nat.lt_or_ge i 7 with h | h; omega; exact absurd (show nI 64 < nI t from by have := hp3 (by omega); exact nI_lt (by omega) (by omega)) c29
      refine lv_aload_n hx hb dX6_bestTake_32 rfl (lv_at hl 0 rfl) ?_
      refine iw_get hx hb hts iu_X6_bestTake_6 hown hK hP (by omega) ((va_un _ _ (by omega)).trans ((va_un _ _ (by omega)).trans (h0))) rfl 1 (by decide) (hts _ il_X6_bestTake_19) (fun _ h9 => h9) rfl dX6_bestTake_33 ?_
      refine lv_aload_n hx hb dX6_bestTake_36 rfl (lv_at hl 0 rfl) ?_
      refine iw_get hx hb hts iu_X6_bestTake_6 hown hK hP (by omega) ((va_un _ _ (by omega)).trans ((va_un _ _ (by omega)).trans (h0))) rfl 0 (by decide) (hts _ il_X6_bestTake_12) (fun _ h9 => h9) rfl dX6_bestTake_37 ?_
      refine lv_iload hx hb dX6_bestTake_40 (lv_at hl 5 rfl) ?_
      refine lv_iload hx hb dX6_bestTake_42 (lv_at hl 4 rfl) ?_
      refine lv_aload_n hx hb dX6_bestTake_44 rfl (lv_at hl 0 rfl) ?_
      refine iw_get hx hb hts iu_X6_bestTake_6 hown hK hP (by omega) ((va_un _ _ (by omega)).trans ((va_un _ _ (by omega)).trans (h0))) rfl 6 (by decide) (hts _ il_X6_bestTake_43) (fun _ h9 => h9) rfl dX6_bestTake_45 ?_
      refine iw_i (va_runV (As := [.ref (ad (o + 1)), .int (nI t), .int (nI (g0 + 1)), .ref (ad (o + 9))]) (rest := []) ⟨hx, hb, hml, hown, hts⟩ (kX4_expose l G N ad _ (by omega) (by omega) (by omega) ((va_un _ _ (by omega)).trans ((va_un _ _ (by omega)).trans (s1))) ((va_un _ _ (by omega)).trans ((va_un _ _ (by omega)).trans (s2))) ((va_un _ _ (by omega)).trans ((va_un _ _ (by omega)).trans (s3))) (by omega) (by omega) (by omega) ((va_un _ _ (by omega)).trans ((va_un _ _ (by omega)).trans (e1))) ((va_un _ _ (by omega)).trans ((va_un _ _ (by omega)).trans (e2))) ((va_un _ _ (by omega)).trans ((va_un _ _ (by omega)).trans (e3))) (by omega) (by omega) (va_us _ _ _) ((va_un _ _ (by omega)).trans (va_us _ _ _)) (by omega) (by omega) ok5 (time := t) (gain := (g0 + 1)) (by omega) (by omega) ok2 _) (cwV 4 hts gX6_bestTake_X4_expose rfl rfl rfl (by decide +kernel) ⟨Nat.le_of_ble_eq_true rfl, Nat.le_of_ble_eq_true rfl⟩) (iPV hK hP hD (by omega) ((va_un _ _ (by omega)).trans ((va_un _ _ (by omega)).trans (e1))) rfl [.ref (ad (o + 1)), .int (nI t), .int (nI (g0 + 1)), .ref (ad (o + 9))]) rfl rfl hl.1 rfl (lv_room (Nat.le_of_ble_eq_true rfl)) dX6_bestTake_48 ⟨hcc, hcs⟩) hD hS hA (fun r8 u8 H locs hw8 hP hD hS => ?_)
      obtain ⟨hr8, hu8⟩ := hw8
      refine lv_asI hr8 ?_
      rw [hu8] at hP hD
      rw [va_u3 C _ _ _ (show o + 9 + 1 ≠ o + 9 by omega), va_uu] at hP hD
      refine lv_pop hx hb dX6_bestTake_51 rfl ?_
      refine lv_aload_n hx hb dX6_bestTake_52 rfl (lv_at hl 0 rfl) ?_
      refine iw_get hx hb hts iu_X6_bestTake_6 hown hK hP (by omega) ((va_un _ _ (by omega)).trans ((va_un _ _ (by omega)).trans (h0))) rfl 6 (by decide) (hts _ il_X6_bestTake_43) (fun _ h9 => h9) rfl dX6_bestTake_53 ?_
      refine iw_d (va_runV (As := []) (rest := []) ⟨hx, hb, hml, hown, hts⟩ (kX1_meanOfZones l G N ad _ (by omega) (by omega) (va_us _ _ _) ((va_un _ _ (by omega)).trans (va_us _ _ _)) (fun i _ => (exN_ok _ _ _ _ _ _ i).1) _) (cwV 0 hts gX6_bestTake_X1_meanOfZones rfl rfl rfl (by decide +kernel) ⟨Nat.le_of_ble_eq_true rfl, Nat.le_of_ble_eq_true rfl⟩) (iPV hK hP hD (by omega) (va_us _ _ _) rfl []) rfl rfl hl.1 rfl (lv_room (Nat.le_of_ble_eq_true rfl)) dX6_bestTake_56 ⟨hcc, hcs⟩) hD hS hA (fun r8 u8 H locs hw8 hP hD hS => ?_)
      obtain ⟨hr8, hu8⟩ := hw8
      refine lv_asD hr8 ?_
      rw [hu8] at hP hD
      refine lv_iload_n hx hb dX6_bestTake_59 rfl (lv_at hl 1 rfl) ?_
      refine lv_i2d hx hb dX6_bestTake_60 ?_
      refine lv_dsub hx hb dX6_bestTake_61 (offJ_n S v _ _) ?_
      refine lv_asD (y := offJ S v (t) (g0 + 1)) rfl ?_
      refine lv_dstore (lv' := [(7, .double (offJ S v (t) (g0 + 1))), (0, .ref (ad o)), (1, .int (nI v)), (2, .int ((btF S v (7 * g0 + i)).1)), (3, .double ((btF S v (7 * g0 + i)).2)), (5, .int (nI (g0 + 1))), (6, .int (nI t))]) hx hb dX6_bestTake_62 hl (by decide) rfl (fun ls hl => ?_)
      refine lv_dload hx hb dX6_bestTake_64 (lv_at hl 0 rfl) ?_
      refine lv_dconst0 hx hb dX6_bestTake_66 ?_
      refine lv_dcmp hx hb dX6_bestTake_67 ?_
      refine lv_if_ge (tgt := 77) hx hb dX6_bestTake_68 (by decide) (fun c68 => ?_) (fun c68 => ?_)
      · refine lv_dload hx hb dX6_bestTake_77 (lv_at hl 0 rfl) ?_
        refine lv_asD (y := offA S v (t) (g0 + 1)) (by unfold offA absJ; rw [if_pos c68]) ?_
        refine lv_dstore (lv' := [(7, .double (offA S v (t) (g0 + 1))), (0, .ref (ad o)), (1, .int (nI v)), (2, .int ((btF S v (7 * g0 + i)).1)), (3, .double ((btF S v (7 * g0 + i)).2)), (5, .int (nI (g0 + 1))), (6, .int (nI t))]) hx hb dX6_bestTake_79 hl (by decide) rfl (fun ls hl => ?_)
        refine lv_iload_n hx hb dX6_bestTake_81 rfl (lv_at hl 3 rfl) ?_
        refine lv_iconst (v := -nI 1) hx hb dX6_bestTake_82 (by decide) ?_
        refine lv_icmp_eq (tgt := 93) hx hb dX6_bestTake_83 (by decide) (fun c83 => ?_) (fun c83 => ?_)
        · refine lv_bipush (v := nI 16) hx hb dX6_bestTake_93 (by decide) ?_
          refine lv_iload hx hb dX6_bestTake_95 (lv_at hl 6 rfl) ?_
          refine lv_imul hx hb dX6_bestTake_97 ?_
          refine lv_asI (y := nI (16 * t)) (pk_mul _ _) ?_
          refine lv_iload hx hb dX6_bestTake_98 (lv_at hl 5 rfl) ?_
          refine lv_iadd hx hb dX6_bestTake_100 ?_
          refine lv_asI (y := nI ((16 * t) + (g0 + 1))) (nI_add _ _) ?_
          refine lv_istore_n (lv' := [(2, .int (nI ((16 * t) + (g0 + 1)))), (7, .double (offA S v (t) (g0 + 1))), (0, .ref (ad o)), (1, .int (nI v)), (3, .double ((btF S v (7 * g0 + i)).2)), (5, .int (nI (g0 + 1))), (6, .int (nI t))]) hx hb dX6_bestTake_101 rfl hl (by decide) rfl (fun ls hl => ?_)
          refine lv_dload hx hb dX6_bestTake_102 (lv_at hl 1 rfl) ?_
          refine lv_dstore_n (lv' := [(3, .double (offA S v (t) (g0 + 1))), (2, .int (nI ((16 * t) + (g0 + 1)))), (7, .double (offA S v (t) (g0 + 1))), (0, .ref (ad o)), (1, .int (nI v)), (5, .int (nI (g0 + 1))), (6, .int (nI t))]) hx hb dX6_bestTake_104 rfl hl (by decide) rfl (fun ls hl => ?_)
          refine lv_iconst (v := nI 2) hx hb dX6_bestTake_105 (by decide) ?_
          refine lv_iload hx hb dX6_bestTake_106 (lv_at hl 6 rfl) ?_
          refine lv_imul hx hb dX6_bestTake_108 ?_
          refine lv_asI (y := nI (2 * t)) (pk_mul _ _) ?_
          refine lv_istore (lv' := [(6, .int (nI (2 * t))), (3, .double (offA S v (t) (g0 + 1))), (2, .int (nI ((16 * t) + (g0 + 1)))), (7, .double (offA S v (t) (g0 + 1))), (0, .ref (ad o)), (1, .int (nI v)), (5, .int (nI (g0 + 1)))]) hx hb dX6_bestTake_109 hl (by decide) rfl (fun ls hl => ?_)
          refine lv_goto (tgt := 25) hx hb dX6_bestTake_111 (by decide) ?_
          have e9 : btF S v ((7 * g0 + i) + 1) = (nI ((16 * t) + (g0 + 1)), offA S v (t) (g0 + 1)) := by show btS S v (2 ^ ((7 * g0 + i) % 7)) ((7 * g0 + i) / 7 + 1) (btF S v (7 * g0 + i)) = _; rw [show (7 * g0 + i) % 7 = i by omega, show (7 * g0 + i) / 7 = g0 by omega, ← ht]; unfold btS; exact if_pos (Or.inl c83)
          have e2 : nI ((16 * t) + (g0 + 1)) = (btF S v ((7 * g0 + i) + 1)).1 := by rw [e9]
          have e3 : offA S v (t) (g0 + 1) = (btF S v ((7 * g0 + i) + 1)).2 := by rw [e9]
          rw [e2, e3] at hl
          exact ih (i + 1) (2 * t) (nI t) (nI (g0 + 1)) qa (exN (sHw S) (sSh S) (sFac S) (sDr S) t (g0 + 1)) H locs ls (by omega) (by omega) (by rw [ht, Nat.pow_succ]; omega) hP hD hS (lv_sub hl [4, 5, 2, 1, 6, 0] rfl)
        · refine lv_dload hx hb dX6_bestTake_86 (lv_at hl 0 rfl) ?_
          refine lv_dload_n hx hb dX6_bestTake_88 rfl (lv_at hl 4 rfl) ?_
          refine lv_dcmp hx hb dX6_bestTake_89 ?_
          refine lv_if_ge (tgt := 105) hx hb dX6_bestTake_90 (by decide) (fun c90 => ?_) (fun c90 => ?_)
          · refine lv_iconst (v := nI 2) hx hb dX6_bestTake_105 (by decide) ?_
            refine lv_iload hx hb dX6_bestTake_106 (lv_at hl 6 rfl) ?_
            refine lv_imul hx hb dX6_bestTake_108 ?_
            refine lv_asI (y := nI (2 * t)) (pk_mul _ _) ?_
            refine lv_istore (lv' := [(6, .int (nI (2 * t))), (7, .double (offA S v (t) (g0 + 1))), (0, .ref (ad o)), (1, .int (nI v)), (2, .int ((btF S v (7 * g0 + i)).1)), (3, .double ((btF S v (7 * g0 + i)).2)), (5, .int (nI (g0 + 1)))]) hx hb dX6_bestTake_109 hl (by decide) rfl (fun ls hl => ?_)
            refine lv_goto (tgt := 25) hx hb dX6_bestTake_111 (by decide) ?_
            have e9 : btF S v ((7 * g0 + i) + 1) = btF S v (7 * g0 + i) := by show btS S v (2 ^ ((7 * g0 + i) % 7)) ((7 * g0 + i) / 7 + 1) (btF S v (7 * g0 + i)) = _; rw [show (7 * g0 + i) % 7 = i by omega, show (7 * g0 + i) / 7 = g0 by omega, ← ht]; unfold btS; exact if_neg (fun h => h.elim (fun h => c83 h) (fun h => h c90))
            have e2 : (btF S v (7 * g0 + i)).1 = (btF S v ((7 * g0 + i) + 1)).1 := by rw [e9]
            have e3 : (btF S v (7 * g0 + i)).2 = (btF S v ((7 * g0 + i) + 1)).2 := by rw [e9]
            rw [e2, e3] at hl
            exact ih (i + 1) (2 * t) (nI t) (nI (g0 + 1)) qa (exN (sHw S) (sSh S) (sFac S) (sDr S) t (g0 + 1)) H locs ls (by omega) (by omega) (by rw [ht, Nat.pow_succ]; omega) hP hD hS (lv_sub hl [2, 3, 4, 5, 6, 0] rfl)
          · refine lv_bipush (v := nI 16) hx hb dX6_bestTake_93 (by decide) ?_
            refine lv_iload hx hb dX6_bestTake_95 (lv_at hl 6 rfl) ?_
            refine lv_imul hx hb dX6_bestTake_97 ?_
            refine lv_asI (y := nI (16 * t)) (pk_mul _ _) ?_
            refine lv_iload hx hb dX6_bestTake_98 (lv_at hl 5 rfl) ?_
            refine lv_iadd hx hb dX6_bestTake_100 ?_
            refine lv_asI (y := nI ((16 * t) + (g0 + 1))) (nI_add _ _) ?_
            refine lv_istore_n (lv' := [(2, .int (nI ((16 * t) + (g0 + 1)))), (7, .double (offA S v (t) (g0 + 1))), (0, .ref (ad o)), (1, .int (nI v)), (3, .double ((btF S v (7 * g0 + i)).2)), (5, .int (nI (g0 + 1))), (6, .int (nI t))]) hx hb dX6_bestTake_101 rfl hl (by decide) rfl (fun ls hl => ?_)
            refine lv_dload hx hb dX6_bestTake_102 (lv_at hl 1 rfl) ?_
            refine lv_dstore_n (lv' := [(3, .double (offA S v (t) (g0 + 1))), (2, .int (nI ((16 * t) + (g0 + 1)))), (7, .double (offA S v (t) (g0 + 1))), (0, .ref (ad o)), (1, .int (nI v)), (5, .int (nI (g0 + 1))), (6, .int (nI t))]) hx hb dX6_bestTake_104 rfl hl (by decide) rfl (fun ls hl => ?_)
            refine lv_iconst (v := nI 2) hx hb dX6_bestTake_105 (by decide) ?_
            refine lv_iload hx hb dX6_bestTake_106 (lv_at hl 6 rfl) ?_
            refine lv_imul hx hb dX6_bestTake_108 ?_
            refine lv_asI (y := nI (2 * t)) (pk_mul _ _) ?_
            refine lv_istore (lv' := [(6, .int (nI (2 * t))), (3, .double (offA S v (t) (g0 + 1))), (2, .int (nI ((16 * t) + (g0 + 1)))), (7, .double (offA S v (t) (g0 + 1))), (0, .ref (ad o)), (1, .int (nI v)), (5, .int (nI (g0 + 1)))]) hx hb dX6_bestTake_109 hl (by decide) rfl (fun ls hl => ?_)
            refine lv_goto (tgt := 25) hx hb dX6_bestTake_111 (by decide) ?_
            have e9 : btF S v ((7 * g0 + i) + 1) = (nI ((16 * t) + (g0 + 1)), offA S v (t) (g0 + 1)) := by show btS S v (2 ^ ((7 * g0 + i) % 7)) ((7 * g0 + i) / 7 + 1) (btF S v (7 * g0 + i)) = _; rw [show (7 * g0 + i) % 7 = i by omega, show (7 * g0 + i) / 7 = g0 by omega, ← ht]; unfold btS; exact if_pos (Or.inr c90)
            have e2 : nI ((16 * t) + (g0 + 1)) = (btF S v ((7 * g0 + i) + 1)).1 := by rw [e9]
            have e3 : offA S v (t) (g0 + 1) = (btF S v ((7 * g0 + i) + 1)).2 := by rw [e9]
            rw [e2, e3] at hl
            exact ih (i + 1) (2 * t) (nI t) (nI (g0 + 1)) qa (exN (sHw S) (sSh S) (sFac S) (sDr S) t (g0 + 1)) H locs ls (by omega) (by omega) (by rw [ht, Nat.pow_succ]; omega) hP hD hS (lv_sub hl [4, 5, 2, 1, 6, 0] rfl)
      · refine lv_dload hx hb dX6_bestTake_71 (lv_at hl 0 rfl) ?_
        refine lv_dneg hx hb dX6_bestTake_73 ?_
        refine lv_goto (tgt := 79) hx hb dX6_bestTake_74 (by decide) ?_
        refine lv_asD (y := offA S v (t) (g0 + 1)) (by unfold offA absJ; rw [if_neg c68]) ?_
        refine lv_dstore (lv' := [(7, .double (offA S v (t) (g0 + 1))), (0, .ref (ad o)), (1, .int (nI v)), (2, .int ((btF S v (7 * g0 + i)).1)), (3, .double ((btF S v (7 * g0 + i)).2)), (5, .int (nI (g0 + 1))), (6, .int (nI t))]) hx hb dX6_bestTake_79 hl (by decide) rfl (fun ls hl => ?_)
        refine lv_iload_n hx hb dX6_bestTake_81 rfl (lv_at hl 3 rfl) ?_
        refine lv_iconst (v := -nI 1) hx hb dX6_bestTake_82 (by decide) ?_
        refine lv_icmp_eq (tgt := 93) hx hb dX6_bestTake_83 (by decide) (fun c83 => ?_) (fun c83 => ?_)
        · refine lv_bipush (v := nI 16) hx hb dX6_bestTake_93 (by decide) ?_
          refine lv_iload hx hb dX6_bestTake_95 (lv_at hl 6 rfl) ?_
          refine lv_imul hx hb dX6_bestTake_97 ?_
          refine lv_asI (y := nI (16 * t)) (pk_mul _ _) ?_
          refine lv_iload hx hb dX6_bestTake_98 (lv_at hl 5 rfl) ?_
          refine lv_iadd hx hb dX6_bestTake_100 ?_
          refine lv_asI (y := nI ((16 * t) + (g0 + 1))) (nI_add _ _) ?_
          refine lv_istore_n (lv' := [(2, .int (nI ((16 * t) + (g0 + 1)))), (7, .double (offA S v (t) (g0 + 1))), (0, .ref (ad o)), (1, .int (nI v)), (3, .double ((btF S v (7 * g0 + i)).2)), (5, .int (nI (g0 + 1))), (6, .int (nI t))]) hx hb dX6_bestTake_101 rfl hl (by decide) rfl (fun ls hl => ?_)
          refine lv_dload hx hb dX6_bestTake_102 (lv_at hl 1 rfl) ?_
          refine lv_dstore_n (lv' := [(3, .double (offA S v (t) (g0 + 1))), (2, .int (nI ((16 * t) + (g0 + 1)))), (7, .double (offA S v (t) (g0 + 1))), (0, .ref (ad o)), (1, .int (nI v)), (5, .int (nI (g0 + 1))), (6, .int (nI t))]) hx hb dX6_bestTake_104 rfl hl (by decide) rfl (fun ls hl => ?_)
          refine lv_iconst (v := nI 2) hx hb dX6_bestTake_105 (by decide) ?_
          refine lv_iload hx hb dX6_bestTake_106 (lv_at hl 6 rfl) ?_
          refine lv_imul hx hb dX6_bestTake_108 ?_
          refine lv_asI (y := nI (2 * t)) (pk_mul _ _) ?_
          refine lv_istore (lv' := [(6, .int (nI (2 * t))), (3, .double (offA S v (t) (g0 + 1))), (2, .int (nI ((16 * t) + (g0 + 1)))), (7, .double (offA S v (t) (g0 + 1))), (0, .ref (ad o)), (1, .int (nI v)), (5, .int (nI (g0 + 1)))]) hx hb dX6_bestTake_109 hl (by decide) rfl (fun ls hl => ?_)
          refine lv_goto (tgt := 25) hx hb dX6_bestTake_111 (by decide) ?_
          have e9 : btF S v ((7 * g0 + i) + 1) = (nI ((16 * t) + (g0 + 1)), offA S v (t) (g0 + 1)) := by show btS S v (2 ^ ((7 * g0 + i) % 7)) ((7 * g0 + i) / 7 + 1) (btF S v (7 * g0 + i)) = _; rw [show (7 * g0 + i) % 7 = i by omega, show (7 * g0 + i) / 7 = g0 by omega, ← ht]; unfold btS; exact if_pos (Or.inl c83)
          have e2 : nI ((16 * t) + (g0 + 1)) = (btF S v ((7 * g0 + i) + 1)).1 := by rw [e9]
          have e3 : offA S v (t) (g0 + 1) = (btF S v ((7 * g0 + i) + 1)).2 := by rw [e9]
          rw [e2, e3] at hl
          exact ih (i + 1) (2 * t) (nI t) (nI (g0 + 1)) qa (exN (sHw S) (sSh S) (sFac S) (sDr S) t (g0 + 1)) H locs ls (by omega) (by omega) (by rw [ht, Nat.pow_succ]; omega) hP hD hS (lv_sub hl [4, 5, 2, 1, 6, 0] rfl)
        · refine lv_dload hx hb dX6_bestTake_86 (lv_at hl 0 rfl) ?_
          refine lv_dload_n hx hb dX6_bestTake_88 rfl (lv_at hl 4 rfl) ?_
          refine lv_dcmp hx hb dX6_bestTake_89 ?_
          refine lv_if_ge (tgt := 105) hx hb dX6_bestTake_90 (by decide) (fun c90 => ?_) (fun c90 => ?_)
          · refine lv_iconst (v := nI 2) hx hb dX6_bestTake_105 (by decide) ?_
            refine lv_iload hx hb dX6_bestTake_106 (lv_at hl 6 rfl) ?_
            refine lv_imul hx hb dX6_bestTake_108 ?_
            refine lv_asI (y := nI (2 * t)) (pk_mul _ _) ?_
            refine lv_istore (lv' := [(6, .int (nI (2 * t))), (7, .double (offA S v (t) (g0 + 1))), (0, .ref (ad o)), (1, .int (nI v)), (2, .int ((btF S v (7 * g0 + i)).1)), (3, .double ((btF S v (7 * g0 + i)).2)), (5, .int (nI (g0 + 1)))]) hx hb dX6_bestTake_109 hl (by decide) rfl (fun ls hl => ?_)
            refine lv_goto (tgt := 25) hx hb dX6_bestTake_111 (by decide) ?_
            have e9 : btF S v ((7 * g0 + i) + 1) = btF S v (7 * g0 + i) := by show btS S v (2 ^ ((7 * g0 + i) % 7)) ((7 * g0 + i) / 7 + 1) (btF S v (7 * g0 + i)) = _; rw [show (7 * g0 + i) % 7 = i by omega, show (7 * g0 + i) / 7 = g0 by omega, ← ht]; unfold btS; exact if_neg (fun h => h.elim (fun h => c83 h) (fun h => h c90))
            have e2 : (btF S v (7 * g0 + i)).1 = (btF S v ((7 * g0 + i) + 1)).1 := by rw [e9]
            have e3 : (btF S v (7 * g0 + i)).2 = (btF S v ((7 * g0 + i) + 1)).2 := by rw [e9]
            rw [e2, e3] at hl
            exact ih (i + 1) (2 * t) (nI t) (nI (g0 + 1)) qa (exN (sHw S) (sSh S) (sFac S) (sDr S) t (g0 + 1)) H locs ls (by omega) (by omega) (by rw [ht, Nat.pow_succ]; omega) hP hD hS (lv_sub hl [2, 3, 4, 5, 6, 0] rfl)
          · refine lv_bipush (v := nI 16) hx hb dX6_bestTake_93 (by decide) ?_
            refine lv_iload hx hb dX6_bestTake_95 (lv_at hl 6 rfl) ?_
            refine lv_imul hx hb dX6_bestTake_97 ?_
            refine lv_asI (y := nI (16 * t)) (pk_mul _ _) ?_
            refine lv_iload hx hb dX6_bestTake_98 (lv_at hl 5 rfl) ?_
            refine lv_iadd hx hb dX6_bestTake_100 ?_
            refine lv_asI (y := nI ((16 * t) + (g0 + 1))) (nI_add _ _) ?_
            refine lv_istore_n (lv' := [(2, .int (nI ((16 * t) + (g0 + 1)))), (7, .double (offA S v (t) (g0 + 1))), (0, .ref (ad o)), (1, .int (nI v)), (3, .double ((btF S v (7 * g0 + i)).2)), (5, .int (nI (g0 + 1))), (6, .int (nI t))]) hx hb dX6_bestTake_101 rfl hl (by decide) rfl (fun ls hl => ?_)
            refine lv_dload hx hb dX6_bestTake_102 (lv_at hl 1 rfl) ?_
            refine lv_dstore_n (lv' := [(3, .double (offA S v (t) (g0 + 1))), (2, .int (nI ((16 * t) + (g0 + 1)))), (7, .double (offA S v (t) (g0 + 1))), (0, .ref (ad o)), (1, .int (nI v)), (5, .int (nI (g0 + 1))), (6, .int (nI t))]) hx hb dX6_bestTake_104 rfl hl (by decide) rfl (fun ls hl => ?_)
            refine lv_iconst (v := nI 2) hx hb dX6_bestTake_105 (by decide) ?_
            refine lv_iload hx hb dX6_bestTake_106 (lv_at hl 6 rfl) ?_
            refine lv_imul hx hb dX6_bestTake_108 ?_
            refine lv_asI (y := nI (2 * t)) (pk_mul _ _) ?_
            refine lv_istore (lv' := [(6, .int (nI (2 * t))), (3, .double (offA S v (t) (g0 + 1))), (2, .int (nI ((16 * t) + (g0 + 1)))), (7, .double (offA S v (t) (g0 + 1))), (0, .ref (ad o)), (1, .int (nI v)), (5, .int (nI (g0 + 1)))]) hx hb dX6_bestTake_109 hl (by decide) rfl (fun ls hl => ?_)
            refine lv_goto (tgt := 25) hx hb dX6_bestTake_111 (by decide) ?_
            have e9 : btF S v ((7 * g0 + i) + 1) = (nI ((16 * t) + (g0 + 1)), offA S v (t) (g0 + 1)) := by show btS S v (2 ^ ((7 * g0 + i) % 7)) ((7 * g0 + i) / 7 + 1) (btF S v (7 * g0 + i)) = _; rw [show (7 * g0 + i) % 7 = i by omega, show (7 * g0 + i) / 7 = g0 by omega, ← ht]; unfold btS; exact if_pos (Or.inr c90)
            have e2 : nI ((16 * t) + (g0 + 1)) = (btF S v ((7 * g0 + i) + 1)).1 := by rw [e9]
            have e3 : offA S v (t) (g0 + 1) = (btF S v ((7 * g0 + i) + 1)).2 := by rw [e9]
            rw [e2, e3] at hl
            exact ih (i + 1) (2 * t) (nI t) (nI (g0 + 1)) qa (exN (sHw S) (sSh S) (sFac S) (sDr S) t (g0 + 1)) H locs ls (by omega) (by omega) (by rw [ht, Nat.pow_succ]; omega) hP hD hS (lv_sub hl [4, 5, 2, 1, 6, 0] rfl)
set_option maxHeartbeats 4000000 in
set_option maxRecDepth 100000 in
theorem lX6_bestTake_g {p : Program} {l : Launch} {e : Env} {s : State} {m : MethodId} {args : Array Value} {below : List Frame} {meth : Method} {c : Code} {Q : State → Prop} {A : Nat → Prop} {H0 : Heap} {cells slots : Nat} (hx : p.tables.exec = Jvm.exec) (hb : c.code = cX6_bestTake) (hml : c.maxLocals = 9) (hr : meth.sig.returnType = (some .int)) (hts : ∀ w ∈ wsX6_bestTake, w.before args s = true) (hown : s.vm.findClass RX6 = some m.cls) {G : iG} (hK : KB G s) (hA : ∀ q, H0.size ≤ q → A q) {N : Nat} {ad : Nat → Nat} {C : Nat → va_E}  (hcc : cells ≤ rmX6_bestTake.cells) (hcs : slots ≤ rmX6_bestTake.slots) {o : Nat} {S : St} (hcam : Cam G N ad C o S) {v : Nat} (hv : v < 256) (kx : ∀ (ta ga qa : Int32) (ea : Nat → Nat) (H : Heap) (locs : List Loc) (ls : Array Slot), va_P G.1 vwB (wl N ad (va_up (va_up C (o + 9 + 1) (ia G 64 (fun i => nI (ea i)))) (o + 9) (ob 1 [.ref (ad (o + 9 + 1)), .ref (ad (o + 9 + 2)), .int ta, .int ga, .int qa]))) H → va_D A (wl N ad (va_up (va_up C (o + 9 + 1) (ia G 64 (fun i => nI (ea i)))) (o + 9) (ob 1 [.ref (ad (o + 9 + 1)), .ref (ad (o + 9 + 2)), .int ta, .int ga, .int qa]))) → va_S A H0 H locs → lv_has ls 9 [(2, .int ((btF S v (7 * 8)).1))] → W p l e rmX6_bestTake s m args below meth c H locs cells slots Q (F0 m 120 ls [])) : ∀ (d : Nat) (g0 : Nat) (ta ga qa : Int32) (ea : Nat → Nat) (H : Heap) (locs : List Loc) (ls : Array Slot), 9 - g0 < d → g0 ≤ 8 → va_P G.1 vwB (wl N ad (va_up (va_up C (o + 9 + 1) (ia G 64 (fun i => nI (ea i)))) (o + 9) (ob 1 [.ref (ad (o + 9 + 1)), .ref (ad (o + 9 + 2)), .int ta, .int ga, .int qa]))) H → va_D A (wl N ad (va_up (va_up C (o + 9 + 1) (ia G 64 (fun i => nI (ea i)))) (o + 9) (ob 1 [.ref (ad (o + 9 + 1)), .ref (ad (o + 9 + 2)), .int ta, .int ga, .int qa]))) → va_S A H0 H locs → lv_has ls 9 [(0, .ref (ad o)), (1, .int (nI v)), (2, .int ((btF S v (7 * g0)).1)), (3, .double ((btF S v (7 * g0)).2)), (5, .int (nI (g0 + 1)))] → W p l e rmX6_bestTake s m args below meth c H locs cells slots Q (F0 m 15 ls []) := by
  intro d
  induction d with
  | zero => intro g0 ta ga qa ea H locs ls hd; exact absurd hd (Nat.not_lt_zero _)
  | succ d ih =>
    intro g0 ta ga qa ea H locs ls hd h2 hP hD hS hl
    obtain ⟨hN, ⟨ok1, ok2, ok3, ok4, ok5, ok6, ok7, ok8, ok9⟩, h0, ⟨s1, s2, s3⟩, ⟨e1, e2, e3⟩, ⟨F7, h7, hF7⟩, ⟨F8, h8, hF8⟩, ⟨TF, tr1, tr2, tr3, tr4, tr5⟩, ⟨TD, dv1, dv2, dv3⟩, ⟨TC, cv1, cv2, cv3⟩, hfr, hfi⟩ := id hcam
    refine lv_iload hx hb dX6_bestTake_15 (lv_at hl 4 rfl) ?_
    refine lv_bipush (v := nI 8) hx hb dX6_bestTake_17 (by decide) ?_
    refine lv_icmp_gt (tgt := 120) hx hb dX6_bestTake_19 (by decide) (fun c19 => ?_) (fun c19 => ?_)
    · have h6 : ¬ g0 < 8 := fun h => absurd c19 (nI_nlt (by omega) (by omega))
      have h7 : g0 = 8 := by omega
      subst h7
      exact kx ta ga qa ea H locs ls hP hD hS (lv_sub hl [2] rfl)
    · have h4 : g0 < 8 := by rcases Nat.lt_or_ge g0 8 with h | h; exact h; exact absurd (show nI 8 < nI (g0 + 1) from nI_lt (by omega) (by omega)) c19
      refine lv_iconst (v := nI 1) hx hb dX6_bestTake_22 (by decide) ?_
      refine lv_istore (lv' := [(6, .int (nI 1)), (0, .ref (ad o)), (1, .int (nI v)), (2, .int ((btF S v (7 * g0)).1)), (3, .double ((btF S v (7 * g0)).2)), (5, .int (nI (g0 + 1)))]) hx hb dX6_bestTake_23 hl (by decide) rfl (fun ls hl => ?_)
      refine lX6_bestTake_t hx hb hml hr hts hown hK hA hcc hcs hcam hv (g0 := g0) (by omega) (fun ta ga qa ea H locs ls hP hD hS hl => ?_) 200 0 1 ta ga qa ea H locs ls (by omega) (by omega) rfl hP hD hS (lv_sub hl [1, 2, 3, 4, 5, 0] rfl)
      refine lv_iinc (v := nI ((g0 + 1) + 1)) (lv' := [(5, .int (nI ((g0 + 1) + 1))), (0, .ref (ad o)), (1, .int (nI v)), (2, .int ((btF S v (7 * g0 + 7)).1)), (3, .double ((btF S v (7 * g0 + 7)).2))]) hx hb dX6_bestTake_114 hl (k := 4) rfl (iinc_nat _ 1) (by decide) rfl (fun ls hl => ?_)
      refine lv_goto (tgt := 15) hx hb dX6_bestTake_117 (by decide) ?_
      rw [show 7 * g0 + 7 = 7 * (g0 + 1) by omega] at hl
      exact ih (g0 + 1) ta ga qa ea H locs ls (by omega) (by omega) hP hD hS (lv_sub hl [1, 2, 3, 4, 0] rfl)
set_option maxHeartbeats 4000000 in
set_option maxRecDepth 100000 in
theorem kX6_bestTake (l : Launch) (G : iG) (N : Nat) (ad : Nat → Nat) (C : Nat → va_E) (o : Nat) (S : St) (hcam : Cam G N ad C o S) (v : Nat) (hv : v < 256) (sz : Nat) : Met l yX6_bestTake wsX6_bestTake rmX6_bestTake (iPre G N ad C sz [.ref (ad o), .int (nI v)]) (va_Qi (fun (r : Int32) (u : Nat → va_E) => r = (btF S v 56).1 ∧ Cam G N ad u o S ∧ same C u o) (iB G N ad) (iA N ad sz)) 0 0 (iA N ad sz) := by
  refine Met.ofW (cc := cX6_bestTake) (maxL := 9) (ret := (some .int)) (by decide) rfl ?_
  intro p e s m args below meth c s₁ B hml hv
  obtain ⟨rfl, hsz, hP, hK, hD0⟩ := hv
  have hx := B.exec
  have hb := B.bytes
  have hr := B.returns
  have hts := atoms_spec (ws := wsX6_bestTake) B.pre
  have hown : s.vm.findClass RX6 = some m.cls := findClass_of_methodNamed B.named
  have hlocks := B.notSynchronized
  subst hsz
  have hD := wl_self hD0 s.heap.size
  have hA : ∀ q : Nat, s.heap.size ≤ q → iA N ad s.heap.size q := fun q h => Or.inr h
  have hS : va_S (iA N ad s.heap.size) s.heap s.heap [] := va_S.rf
  have hP : va_P G.1 vwB (wl N ad C) s.heap := hP
  have hl := lv_entry ([.ref (ad o), .int (nI v)]) (n := 9) (Nat.le_of_ble_eq_true rfl)
  rw [lg_entry_eq]
  generalize (lg_sl ([.ref (ad o), .int (nI v)]) ++ List.replicate (9 - (lg_sl ([.ref (ad o), .int (nI v)])).length) Slot.unset).toArray = ls at hl ⊢
  have hl : lv_has ls 9 [(0, .ref (ad o)), (1, .int (nI v))] := hl
  obtain ⟨hN, ⟨ok1, ok2, ok3, ok4, ok5, ok6, ok7, ok8, ok9⟩, h0, ⟨s1, s2, s3⟩, ⟨e1, e2, e3⟩, ⟨F7, h7, hF7⟩, ⟨F8, h8, hF8⟩, ⟨TF, tr1, tr2, tr3, tr4, tr5⟩, ⟨TD, dv1, dv2, dv3⟩, ⟨TC, cv1, cv2, cv3⟩, hfr, hfi⟩ := id hcam
  refine lv_iload_n hx hb dX6_bestTake_0 rfl (lv_at hl 1 rfl) ?_
  refine lv_iconst (v := nI 0) hx hb dX6_bestTake_1 (by decide) ?_
  refine lv_sipush (v := nI 255) hx hb dX6_bestTake_2 (by decide) ?_
  refine iw_pv (va_runS (As := [.int (nI v), .int (nI 0), .int (nI 255)]) (rest := []) ⟨hx, hb, hml, hown, hts⟩ (kX6_needRange l (nI v) (nI 0) (nI 255) (nI_nlt (by omega) (by omega)) (nI_le (by omega) (by omega))) (va_cwS 3 hts gX6_bestTake_X6_needRange rfl rfl rfl (by decide +kernel) ⟨Nat.le_of_ble_eq_true rfl, Nat.le_of_ble_eq_true rfl⟩) ⟨fun a U g mk q => q, fun U hU hW => ⟨rfl, trivial⟩⟩ rfl rfl hl.1 rfl (lv_room (Nat.le_of_ble_eq_true rfl)) dX6_bestTake_5 ⟨Nat.le_of_ble_eq_true rfl, Nat.le_of_ble_eq_true rfl⟩) hP hS (fun u8 H locs hw8 hP hS => ?_)
  refine lv_iconst (v := -nI 1) hx hb dX6_bestTake_8 (by decide) ?_
  refine lv_istore_n (lv' := [(2, .int (-nI 1)), (0, .ref (ad o)), (1, .int (nI v))]) hx hb dX6_bestTake_9 rfl hl (by decide) rfl (fun ls hl => ?_)
  refine lv_dconst0 hx hb dX6_bestTake_10 ?_
  refine lv_dstore_n (lv' := [(3, .double FP.dconst0), (2, .int (-nI 1)), (0, .ref (ad o)), (1, .int (nI v))]) hx hb dX6_bestTake_11 rfl hl (by decide) rfl (fun ls hl => ?_)
  refine lv_iconst (v := nI 1) hx hb dX6_bestTake_12 (by decide) ?_
  refine lv_istore (lv' := [(5, .int (nI 1)), (3, .double FP.dconst0), (2, .int (-nI 1)), (0, .ref (ad o)), (1, .int (nI v))]) hx hb dX6_bestTake_13 hl (by decide) rfl (fun ls hl => ?_)
  have hP := wl_selfE (wl_selfE hP tr2) ((va_un _ _ (show o + 9 ≠ o + 9 + 1 by omega)).trans tr1)
  have hD := wl_D hD (va_up (va_up C (o + 9 + 1) (ia G 64 (fun i => nI (TF.1 i)))) (o + 9) (ob 1 [.ref (ad (o + 9 + 1)), .ref (ad (o + 9 + 2)), .int TF.2.2.1, .int TF.2.2.2.1, .int TF.2.2.2.2]))
  refine lX6_bestTake_g hx hb hml hr hts hown hK hA (Nat.le_refl _) (Nat.le_refl _) hcam hv (fun ta ga qa ea H locs ls hP hD hS hl => ?_) 20 0 TF.2.2.1 TF.2.2.2.1 TF.2.2.2.2 TF.1 _ _ ls (by omega) (by omega) hP hD hS (lv_sub hl [3, 4, 2, 1, 0] rfl)
  refine lv_iload_n hx hb dX6_bestTake_120 rfl (lv_at hl 0 rfl) ?_
  have q1 := up_traw hcam ea
  have q2 := up_tobj q1 ta ga qa
  exact W.iret (v := ((btF S v 56).1)) hx hb hr (fun t ht hW => ⟨⟨_, _, rfl, ⟨rfl, q2, same_up (same_up (same_rf) _ (by omega) (by omega)) _ (by omega) (by omega)⟩, iB_of ht hP⟩, hS.F ht⟩) hS.2.2 dX6_bestTake_121
def bwO (nu : Nat → UInt32) (c n : Nat) : Int32 := absI (stI nu 1 FP.fconst1 64 - stI nu c (quF n) 64)
def bwS (nu : Nat → UInt32) (c n : Nat) (b : Int32 × Int32) : Int32 × Int32 := if b.1 = -nI 1 ∨ ¬ b.2 ≤ bwO nu c n then (nI n, bwO nu c n) else b
/-- the best of the first n numbers -/
def bwF (nu : Nat → UInt32) (c : Nat) : Nat → Int32 × Int32
  | 0 => (-nI 1, nI 0)
  | n + 1 => bwS nu c (n + 1) (bwF nu c n)
abbrev rmX6_bestWhite : Room := { frames := 4, cells := 0, slots := 0, locals := 101 }
set_option maxRecDepth 20000 in
theorem iu_X6_bestWhite_6 : ∀ w ∈ u_ws RX6 TX6 9, w ∈ wsX6_bestWhite := by decide +kernel
set_option maxRecDepth 20000 in
theorem il_X6_bestWhite_50 : (Cond.fieldLink RX6 50 "BayerGate" "developed" "LBayerGate$Picture;") ∈ wsX6_bestWhite := by decide +kernel
set_option maxRecDepth 20000 in
theorem il_X6_bestWhite_254 : (Cond.constantFloat RX6 254 (1082130432)) ∈ wsX6_bestWhite := by decide +kernel
set_option maxRecDepth 20000 in
theorem il_X6_bestWhite_255 : (Cond.methodLink RX6 255 Lib.Math.abs.name) ∈ wsX6_bestWhite := by decide +kernel
set_option maxRecDepth 20000 in
theorem il_X6_bestWhite_st_abs : (Cond.static Lib.Math.abs.name) ∈ wsX6_bestWhite := by decide +kernel
set_option maxRecDepth 20000 in
theorem il_X6_bestWhite_ini_Math : (Cond.initialized "java/lang/Math") ∈ wsX6_bestWhite := by decide +kernel
set_option maxRecDepth 20000 in
theorem il_X6_bestWhite_code_abs : (Cond.code Lib.Math.abs.name Lib.Math.abs.code 1 (some .int)) ∈ wsX6_bestWhite := by decide +kernel
set_option maxHeartbeats 4000000 in
set_option maxRecDepth 100000 in
theorem lX6_bestWhite {p : Program} {l : Launch} {e : Env} {s : State} {m : MethodId} {args : Array Value} {below : List Frame} {meth : Method} {c : Code} {Q : State → Prop} {A : Nat → Prop} {H0 : Heap} {cells slots : Nat} (hx : p.tables.exec = Jvm.exec) (hb : c.code = cX6_bestWhite) (hml : c.maxLocals = 10) (hr : meth.sig.returnType = (some .int)) (hts : ∀ w ∈ wsX6_bestWhite, w.before args s = true) (hown : s.vm.findClass RX6 = some m.cls) {G : iG} (hK : KB G s) (hA : ∀ q, H0.size ≤ q → A q) {N : Nat} {ad : Nat → Nat} {C : Nat → va_E}  (hcc : cells ≤ rmX6_bestWhite.cells) (hcs : slots ≤ rmX6_bestWhite.slots) {o : Nat} {S : St} (hcam : Cam G N ad C o S) {k : Nat} (hkn : k < sFn S) {kd c1 : Nat} (hkd : kd = 1 ∨ kd = 2) (hc1 : c1 < 3) (kx : ∀ (H : Heap) (locs : List Loc) (ls : Array Slot), va_P G.1 vwB (wl N ad (va_up (va_up C (o + 14 + 2) (ia G 64 (fun i => nI ((mmN (sFr S k).1 (sMp S) (hasM (fun i => nI ((sFr S k).2.1.1 i)) (sFr S k).2.1.2.2)) i)))) (o + 14 + 1) (fa G 192 (coF (sFr S k).1 (sMp S) (sFr S k).2.1)))) H → va_D A (wl N ad (va_up (va_up C (o + 14 + 2) (ia G 64 (fun i => nI ((mmN (sFr S k).1 (sMp S) (hasM (fun i => nI ((sFr S k).2.1.1 i)) (sFr S k).2.1.2.2)) i)))) (o + 14 + 1) (fa G 192 (coF (sFr S k).1 (sMp S) (sFr S k).2.1)))) → va_S A H0 H locs → lv_has ls 10 [(6, .int ((bwF (coF (sFr S k).1 (sMp S) (sFr S k).2.1) c1 16).1))] → W p l e rmX6_bestWhite s m args below meth c H locs cells slots Q (F0 m 134 ls [])) : ∀ (d : Nat) (n : Nat) (H : Heap) (locs : List Loc) (ls : Array Slot), 17 - n < d → n ≤ 16 → va_P G.1 vwB (wl N ad (va_up (va_up C (o + 14 + 2) (ia G 64 (fun i => nI ((mmN (sFr S k).1 (sMp S) (hasM (fun i => nI ((sFr S k).2.1.1 i)) (sFr S k).2.1.2.2)) i)))) (o + 14 + 1) (fa G 192 (coF (sFr S k).1 (sMp S) (sFr S k).2.1)))) H → va_D A (wl N ad (va_up (va_up C (o + 14 + 2) (ia G 64 (fun i => nI ((mmN (sFr S k).1 (sMp S) (hasM (fun i => nI ((sFr S k).2.1.1 i)) (sFr S k).2.1.2.2)) i)))) (o + 14 + 1) (fa G 192 (coF (sFr S k).1 (sMp S) (sFr S k).2.1)))) → va_S A H0 H locs → lv_has ls 10 [(0, .ref (ad o)), (2, .int (nI kd)), (4, .int (nI c1)), (5, .int (stI (coF (sFr S k).1 (sMp S) (sFr S k).2.1) 1 FP.fconst1 64)), (6, .int ((bwF (coF (sFr S k).1 (sMp S) (sFr S k).2.1) c1 n).1)), (7, .int ((bwF (coF (sFr S k).1 (sMp S) (sFr S k).2.1) c1 n).2)), (8, .int (nI (n + 1)))] → W p l e rmX6_bestWhite s m args below meth c H locs cells slots Q (F0 m 75 ls []) := by
  intro d
  induction d with
  | zero => intro n H locs ls hd; exact absurd hd (Nat.not_lt_zero _)
  | succ d ih =>
    intro n H locs ls hd h2 hP hD hS hl
    obtain ⟨hN, ⟨ok1, ok2, ok3, ok4, ok5, ok6, ok7, ok8, ok9⟩, h0, ⟨s1, s2, s3⟩, ⟨e1, e2, e3⟩, ⟨F7, h7, hF7⟩, ⟨F8, h8, hF8⟩, ⟨TF, tr1, tr2, tr3, tr4, tr5⟩, ⟨TD, dv1, dv2, dv3⟩, ⟨TC, cv1, cv2, cv3⟩, hfr, hfi⟩ := id hcam
    have hk : k < 6 := by omega
    obtain ⟨f1, f2, f3, f4, f5⟩ := hfr (k) hk
    obtain ⟨okr, oke, oki⟩ := ok8 (k) hk
    refine lv_iload hx hb dX6_bestWhite_75 (lv_at hl 6 rfl) ?_
    refine lv_iload_n hx hb dX6_bestWhite_77 rfl (lv_at hl 1 rfl) ?_
    refine iw_pi (va_runS (As := [.int (nI kd)]) (rest := [.int (nI (n + 1))]) ⟨hx, hb, hml, hown, hts⟩ (kX6_mostNumber l kd (by omega)) (va_cwS 1 hts gX6_bestWhite_X6_mostNumber rfl rfl rfl (by decide +kernel) ⟨Nat.le_of_ble_eq_true rfl, Nat.le_of_ble_eq_true rfl⟩) ⟨fun a U g mk q => q, fun U hU hW => ⟨rfl, trivial⟩⟩ rfl rfl hl.1 rfl (lv_room (Nat.le_of_ble_eq_true rfl)) dX6_bestWhite_78 ⟨hcc, hcs⟩) hP hS (fun r8 u8 H locs hw8 hP hS => ?_)
    refine lv_asI hw8 ?_
    refine lv_asI (y := nI 16) (by rcases hkd with rfl | rfl <;> rfl) ?_
    refine lv_icmp_gt (tgt := 134) hx hb dX6_bestWhite_81 (by decide) (fun c81 => ?_) (fun c81 => ?_)
    · have h6 : ¬ n < 16 := fun h => absurd c81 (nI_nlt (by omega) (by omega))
      have h7 : n = 16 := by omega
      subst h7
      exact kx H locs ls hP hD hS (lv_sub hl [4] rfl)
    · have h4 : n < 16 := by rcases Nat.lt_or_ge n 16 with h | h; exact h; exact absurd (show nI 16 < nI (n + 1) from nI_lt (by omega) (by omega)) c81
      refine lv_iload hx hb dX6_bestWhite_84 (lv_at hl 3 rfl) ?_
      refine lv_aload_n hx hb dX6_bestWhite_86 rfl (lv_at hl 0 rfl) ?_
      refine iw_get hx hb hts iu_X6_bestWhite_6 hown hK hP (by omega) ((va_un _ _ (by omega)).trans ((va_un _ _ (by omega)).trans (h0))) rfl 7 (by decide) (hts _ il_X6_bestWhite_50) (fun _ h9 => h9) rfl dX6_bestWhite_87 ?_
      refine lv_iload hx hb dX6_bestWhite_90 (lv_at hl 2 rfl) ?_
      refine lv_iload hx hb dX6_bestWhite_92 (lv_at hl 6 rfl) ?_
      refine lv_i2f hx hb dX6_bestWhite_94 ?_
      refine lv_ldcf hx hb hown (hts _ il_X6_bestWhite_254) dX6_bestWhite_95 ?_
      refine lv_fdiv hx hb dX6_bestWhite_97 (fin32_n (finz32_fin (quF_ok (n + 1) (by omega) (by omega)))) ?_
      refine lv_asF (y := quF (n + 1)) rfl ?_
      refine iw_i (va_runV (As := [.int (nI c1), .float (quF (n + 1))]) (rest := [.int (stI (coF (sFr S k).1 (sMp S) (sFr S k).2.1) 1 FP.fconst1 64)]) ⟨hx, hb, hml, hown, hts⟩ (kX2_sumTones l G N ad _ (by omega) (by omega) (by omega) ((va_un _ _ (by omega)).trans ((va_un _ _ (by omega)).trans (dv1))) (va_us _ _ _) ((va_un _ _ (by omega)).trans (va_us _ _ _)) (coF_n _ _ ⟨oke, oki⟩) (k := c1) (t := quF (n + 1)) (by omega) (quF_ok (n + 1) (by omega) (by omega)) _) (cwV 2 hts gX6_bestWhite_X2_sumTones rfl rfl rfl (by decide +kernel) ⟨Nat.le_of_ble_eq_true rfl, Nat.le_of_ble_eq_true rfl⟩) (iPV hK hP hD (by omega) ((va_un _ _ (by omega)).trans ((va_un _ _ (by omega)).trans (dv1))) rfl [.int (nI c1), .float (quF (n + 1))]) rfl rfl hl.1 rfl (lv_room (Nat.le_of_ble_eq_true rfl)) dX6_bestWhite_98 ⟨hcc, hcs⟩) hD hS hA (fun r8 u8 H locs hw8 hP hD hS => ?_)
      obtain ⟨hr8, hu8⟩ := hw8
      refine lv_asI hr8 ?_
      rw [hu8] at hP hD
      refine lv_isub hx hb dX6_bestWhite_101 ?_
      refine va_mabs hx hb (hml.trans hl.1.symm) hown (hts _ il_X6_bestWhite_255) (hts _ il_X6_bestWhite_st_abs) (hts _ il_X6_bestWhite_ini_Math) (hts _ il_X6_bestWhite_code_abs) (Nat.le_of_ble_eq_true rfl) (Nat.le_of_ble_eq_true rfl) hcc hcs dX6_bestWhite_102 ?_
      refine lv_asI (y := bwO (coF (sFr S k).1 (sMp S) (sFr S k).2.1) c1 (n + 1)) rfl ?_
      refine lv_istore (lv' := [(9, .int (bwO (coF (sFr S k).1 (sMp S) (sFr S k).2.1) c1 (n + 1))), (0, .ref (ad o)), (2, .int (nI kd)), (4, .int (nI c1)), (5, .int (stI (coF (sFr S k).1 (sMp S) (sFr S k).2.1) 1 FP.fconst1 64)), (6, .int ((bwF (coF (sFr S k).1 (sMp S) (sFr S k).2.1) c1 n).1)), (7, .int ((bwF (coF (sFr S k).1 (sMp S) (sFr S k).2.1) c1 n).2)), (8, .int (nI (n + 1)))]) hx hb dX6_bestWhite_105 hl (by decide) rfl (fun ls hl => ?_)
      refine lv_iload hx hb dX6_bestWhite_107 (lv_at hl 5 rfl) ?_
      refine lv_iconst (v := -nI 1) hx hb dX6_bestWhite_109 (by decide) ?_
      refine lv_icmp_eq (tgt := 120) hx hb dX6_bestWhite_110 (by decide) (fun c110 => ?_) (fun c110 => ?_)
      · refine lv_iload hx hb dX6_bestWhite_120 (lv_at hl 7 rfl) ?_
        refine lv_istore (lv' := [(6, .int (nI (n + 1))), (9, .int (bwO (coF (sFr S k).1 (sMp S) (sFr S k).2.1) c1 (n + 1))), (0, .ref (ad o)), (2, .int (nI kd)), (4, .int (nI c1)), (5, .int (stI (coF (sFr S k).1 (sMp S) (sFr S k).2.1) 1 FP.fconst1 64)), (7, .int ((bwF (coF (sFr S k).1 (sMp S) (sFr S k).2.1) c1 n).2)), (8, .int (nI (n + 1)))]) hx hb dX6_bestWhite_122 hl (by decide) rfl (fun ls hl => ?_)
        refine lv_iload hx hb dX6_bestWhite_124 (lv_at hl 1 rfl) ?_
        refine lv_istore (lv' := [(7, .int (bwO (coF (sFr S k).1 (sMp S) (sFr S k).2.1) c1 (n + 1))), (6, .int (nI (n + 1))), (9, .int (bwO (coF (sFr S k).1 (sMp S) (sFr S k).2.1) c1 (n + 1))), (0, .ref (ad o)), (2, .int (nI kd)), (4, .int (nI c1)), (5, .int (stI (coF (sFr S k).1 (sMp S) (sFr S k).2.1) 1 FP.fconst1 64)), (8, .int (nI (n + 1)))]) hx hb dX6_bestWhite_126 hl (by decide) rfl (fun ls hl => ?_)
        refine lv_iinc (v := nI ((n + 1) + 1)) (lv' := [(8, .int (nI ((n + 1) + 1))), (7, .int (bwO (coF (sFr S k).1 (sMp S) (sFr S k).2.1) c1 (n + 1))), (6, .int (nI (n + 1))), (9, .int (bwO (coF (sFr S k).1 (sMp S) (sFr S k).2.1) c1 (n + 1))), (0, .ref (ad o)), (2, .int (nI kd)), (4, .int (nI c1)), (5, .int (stI (coF (sFr S k).1 (sMp S) (sFr S k).2.1) 1 FP.fconst1 64))]) hx hb dX6_bestWhite_128 hl (k := 7) rfl (iinc_nat _ 1) (by decide) rfl (fun ls hl => ?_)
        refine lv_goto (tgt := 75) hx hb dX6_bestWhite_131 (by decide) ?_
        have e9 : bwF (coF (sFr S k).1 (sMp S) (sFr S k).2.1) c1 (n + 1) = (nI (n + 1), bwO (coF (sFr S k).1 (sMp S) (sFr S k).2.1) c1 (n + 1)) := by show bwS _ c1 (n + 1) (bwF _ c1 n) = _; unfold bwS; exact if_pos (Or.inl c110)
        have e2 : nI (n + 1) = (bwF (coF (sFr S k).1 (sMp S) (sFr S k).2.1) c1 (n + 1)).1 := by rw [e9]
        have e3 : bwO (coF (sFr S k).1 (sMp S) (sFr S k).2.1) c1 (n + 1) = (bwF (coF (sFr S k).1 (sMp S) (sFr S k).2.1) c1 (n + 1)).2 := by rw [e9]
        rw [e2, e3] at hl
        exact ih (n + 1) H locs ls (by omega) (by omega) hP hD hS (lv_sub hl [4, 5, 6, 7, 2, 1, 0] rfl)
      · refine lv_iload hx hb dX6_bestWhite_113 (lv_at hl 0 rfl) ?_
        refine lv_iload hx hb dX6_bestWhite_115 (lv_at hl 6 rfl) ?_
        refine lv_icmp_ge (tgt := 128) hx hb dX6_bestWhite_117 (by decide) (fun c117 => ?_) (fun c117 => ?_)
        · refine lv_iinc (v := nI ((n + 1) + 1)) (lv' := [(8, .int (nI ((n + 1) + 1))), (9, .int (bwO (coF (sFr S k).1 (sMp S) (sFr S k).2.1) c1 (n + 1))), (0, .ref (ad o)), (2, .int (nI kd)), (4, .int (nI c1)), (5, .int (stI (coF (sFr S k).1 (sMp S) (sFr S k).2.1) 1 FP.fconst1 64)), (6, .int ((bwF (coF (sFr S k).1 (sMp S) (sFr S k).2.1) c1 n).1)), (7, .int ((bwF (coF (sFr S k).1 (sMp S) (sFr S k).2.1) c1 n).2))]) hx hb dX6_bestWhite_128 hl (k := 7) rfl (iinc_nat _ 1) (by decide) rfl (fun ls hl => ?_)
          refine lv_goto (tgt := 75) hx hb dX6_bestWhite_131 (by decide) ?_
          have e9 : bwF (coF (sFr S k).1 (sMp S) (sFr S k).2.1) c1 (n + 1) = bwF (coF (sFr S k).1 (sMp S) (sFr S k).2.1) c1 n := by show bwS _ c1 (n + 1) (bwF _ c1 n) = _; unfold bwS; exact if_neg (fun h => h.elim (fun h => c110 h) (fun h => h c117))
          have e2 : (bwF (coF (sFr S k).1 (sMp S) (sFr S k).2.1) c1 n).1 = (bwF (coF (sFr S k).1 (sMp S) (sFr S k).2.1) c1 (n + 1)).1 := by rw [e9]
          have e3 : (bwF (coF (sFr S k).1 (sMp S) (sFr S k).2.1) c1 n).2 = (bwF (coF (sFr S k).1 (sMp S) (sFr S k).2.1) c1 (n + 1)).2 := by rw [e9]
          rw [e2, e3] at hl
          exact ih (n + 1) H locs ls (by omega) (by omega) hP hD hS (lv_sub hl [2, 3, 4, 5, 6, 7, 0] rfl)
        · refine lv_iload hx hb dX6_bestWhite_120 (lv_at hl 7 rfl) ?_
          refine lv_istore (lv' := [(6, .int (nI (n + 1))), (9, .int (bwO (coF (sFr S k).1 (sMp S) (sFr S k).2.1) c1 (n + 1))), (0, .ref (ad o)), (2, .int (nI kd)), (4, .int (nI c1)), (5, .int (stI (coF (sFr S k).1 (sMp S) (sFr S k).2.1) 1 FP.fconst1 64)), (7, .int ((bwF (coF (sFr S k).1 (sMp S) (sFr S k).2.1) c1 n).2)), (8, .int (nI (n + 1)))]) hx hb dX6_bestWhite_122 hl (by decide) rfl (fun ls hl => ?_)
          refine lv_iload hx hb dX6_bestWhite_124 (lv_at hl 1 rfl) ?_
          refine lv_istore (lv' := [(7, .int (bwO (coF (sFr S k).1 (sMp S) (sFr S k).2.1) c1 (n + 1))), (6, .int (nI (n + 1))), (9, .int (bwO (coF (sFr S k).1 (sMp S) (sFr S k).2.1) c1 (n + 1))), (0, .ref (ad o)), (2, .int (nI kd)), (4, .int (nI c1)), (5, .int (stI (coF (sFr S k).1 (sMp S) (sFr S k).2.1) 1 FP.fconst1 64)), (8, .int (nI (n + 1)))]) hx hb dX6_bestWhite_126 hl (by decide) rfl (fun ls hl => ?_)
          refine lv_iinc (v := nI ((n + 1) + 1)) (lv' := [(8, .int (nI ((n + 1) + 1))), (7, .int (bwO (coF (sFr S k).1 (sMp S) (sFr S k).2.1) c1 (n + 1))), (6, .int (nI (n + 1))), (9, .int (bwO (coF (sFr S k).1 (sMp S) (sFr S k).2.1) c1 (n + 1))), (0, .ref (ad o)), (2, .int (nI kd)), (4, .int (nI c1)), (5, .int (stI (coF (sFr S k).1 (sMp S) (sFr S k).2.1) 1 FP.fconst1 64))]) hx hb dX6_bestWhite_128 hl (k := 7) rfl (iinc_nat _ 1) (by decide) rfl (fun ls hl => ?_)
          refine lv_goto (tgt := 75) hx hb dX6_bestWhite_131 (by decide) ?_
          have e9 : bwF (coF (sFr S k).1 (sMp S) (sFr S k).2.1) c1 (n + 1) = (nI (n + 1), bwO (coF (sFr S k).1 (sMp S) (sFr S k).2.1) c1 (n + 1)) := by show bwS _ c1 (n + 1) (bwF _ c1 n) = _; unfold bwS; exact if_pos (Or.inr c117)
          have e2 : nI (n + 1) = (bwF (coF (sFr S k).1 (sMp S) (sFr S k).2.1) c1 (n + 1)).1 := by rw [e9]
          have e3 : bwO (coF (sFr S k).1 (sMp S) (sFr S k).2.1) c1 (n + 1) = (bwF (coF (sFr S k).1 (sMp S) (sFr S k).2.1) c1 (n + 1)).2 := by rw [e9]
          rw [e2, e3] at hl
          exact ih (n + 1) H locs ls (by omega) (by omega) hP hD hS (lv_sub hl [4, 5, 6, 7, 2, 1, 0] rfl)
set_option maxRecDepth 20000 in
theorem il_X6_bestWhite_25 : (Cond.fieldLink RX6 25 "BayerGate" "frameRow" "[LBayerGate$Frame;") ∈ wsX6_bestWhite := by decide +kernel
set_option maxRecDepth 20000 in
theorem iu_X6_bestWhite_1 : ∀ w ∈ u_ws RX1 TX1 5, w ∈ wsX6_bestWhite := by decide +kernel
set_option maxRecDepth 20000 in
theorem il_X6_bestWhite_19 : (Cond.fieldLink RX6 19 "BayerGate" "sensor" "LBayerGate$Sensor;") ∈ wsX6_bestWhite := by decide +kernel
set_option maxRecDepth 20000 in
theorem iu_X6_bestWhite_4 : ∀ w ∈ u_ws RX4 TX4 3, w ∈ wsX6_bestWhite := by decide +kernel
set_option maxHeartbeats 4000000 in
set_option maxRecDepth 100000 in
theorem kX6_bestWhite (l : Launch) (G : iG) (N : Nat) (ad : Nat → Nat) (C : Nat → va_E) (o : Nat) (S : St) (hcam : Cam G N ad C o S) (k : Nat) (hkn : k < sFn S) (kd : Nat) (hkd : kd = 1 ∨ kd = 2) (sz : Nat) : Met l yX6_bestWhite wsX6_bestWhite rmX6_bestWhite (iPre G N ad C sz [.ref (ad o), .int (nI k), .int (nI kd)]) (va_Qi (fun (r : Int32) (u : Nat → va_E) => r = (bwF (coF (sFr S k).1 (sMp S) (sFr S k).2.1) (if kd = 1 then 0 else 2) 16).1 ∧ Cam G N ad u o S ∧ same C u o) (iB G N ad) (iA N ad sz)) 0 0 (iA N ad sz) := by
  refine Met.ofW (cc := cX6_bestWhite) (maxL := 10) (ret := (some .int)) (by decide) rfl ?_
  intro p e s m args below meth c s₁ B hml hv
  obtain ⟨rfl, hsz, hP, hK, hD0⟩ := hv
  have hx := B.exec
  have hb := B.bytes
  have hr := B.returns
  have hts := atoms_spec (ws := wsX6_bestWhite) B.pre
  have hown : s.vm.findClass RX6 = some m.cls := findClass_of_methodNamed B.named
  have hlocks := B.notSynchronized
  subst hsz
  have hD := wl_self hD0 s.heap.size
  have hA : ∀ q : Nat, s.heap.size ≤ q → iA N ad s.heap.size q := fun q h => Or.inr h
  have hS : va_S (iA N ad s.heap.size) s.heap s.heap [] := va_S.rf
  have hP : va_P G.1 vwB (wl N ad C) s.heap := hP
  have hl := lv_entry ([.ref (ad o), .int (nI k), .int (nI kd)]) (n := 10) (Nat.le_of_ble_eq_true rfl)
  rw [lg_entry_eq]
  generalize (lg_sl ([.ref (ad o), .int (nI k), .int (nI kd)]) ++ List.replicate (10 - (lg_sl ([.ref (ad o), .int (nI k), .int (nI kd)])).length) Slot.unset).toArray = ls at hl ⊢
  have hl : lv_has ls 10 [(0, .ref (ad o)), (1, .int (nI k)), (2, .int (nI kd))] := hl
  obtain ⟨hN, ⟨ok1, ok2, ok3, ok4, ok5, ok6, ok7, ok8, ok9⟩, h0, ⟨s1, s2, s3⟩, ⟨e1, e2, e3⟩, ⟨F7, h7, hF7⟩, ⟨F8, h8, hF8⟩, ⟨TF, tr1, tr2, tr3, tr4, tr5⟩, ⟨TD, dv1, dv2, dv3⟩, ⟨TC, cv1, cv2, cv3⟩, hfr, hfi⟩ := id hcam
  have hk : k < 6 := by omega
  obtain ⟨f1, f2, f3, f4, f5⟩ := hfr (k) hk
  obtain ⟨okr, oke, oki⟩ := ok8 (k) hk
  refine lv_aload_n hx hb dX6_bestWhite_0 rfl (lv_at hl 0 rfl) ?_
  refine lv_iload_n hx hb dX6_bestWhite_1 rfl (lv_at hl 1 rfl) ?_
  refine iw_v (va_runV (As := [.int (nI k)]) (rest := []) ⟨hx, hb, hml, hown, hts⟩ (kX6_needFrame l G N ad _ o (fn := sFn S) (by omega) (h0) (k) ok6 hkn _) (cwV 1 hts gX6_bestWhite_X6_needFrame rfl rfl rfl (by decide +kernel) ⟨Nat.le_of_ble_eq_true rfl, Nat.le_of_ble_eq_true rfl⟩) (iPV hK hP hD (by omega) (h0) rfl [.int (nI k)]) rfl rfl hl.1 rfl (lv_room (Nat.le_of_ble_eq_true rfl)) dX6_bestWhite_2 ⟨Nat.le_of_ble_eq_true rfl, Nat.le_of_ble_eq_true rfl⟩) hD hS hA (fun u8 H locs hw8 hP hD hS => ?_)
  rw [hw8] at hP hD
  refine lv_iload_n hx hb dX6_bestWhite_5 rfl (lv_at hl 2 rfl) ?_
  refine lv_iconst (v := nI 1) hx hb dX6_bestWhite_6 (by decide) ?_
  refine lv_iconst (v := nI 2) hx hb dX6_bestWhite_7 (by decide) ?_
  refine iw_pv (va_runS (As := [.int (nI kd), .int (nI 1), .int (nI 2)]) (rest := []) ⟨hx, hb, hml, hown, hts⟩ (kX6_needRange l (nI kd) (nI 1) (nI 2) (nI_nlt (by omega) (by omega)) (nI_le (by omega) (by omega))) (va_cwS 3 hts gX6_bestWhite_X6_needRange rfl rfl rfl (by decide +kernel) ⟨Nat.le_of_ble_eq_true rfl, Nat.le_of_ble_eq_true rfl⟩) ⟨fun a U g mk q => q, fun U hU hW => ⟨rfl, trivial⟩⟩ rfl rfl hl.1 rfl (lv_room (Nat.le_of_ble_eq_true rfl)) dX6_bestWhite_8 ⟨Nat.le_of_ble_eq_true rfl, Nat.le_of_ble_eq_true rfl⟩) hP hS (fun u8 H locs hw8 hP hS => ?_)
  refine lv_aload_n hx hb dX6_bestWhite_11 rfl (lv_at hl 0 rfl) ?_
  refine iw_get hx hb hts iu_X6_bestWhite_6 hown hK hP (by omega) (h0) rfl 2 (by decide) (hts _ il_X6_bestWhite_25) (fun _ h9 => h9) rfl dX6_bestWhite_12 ?_
  refine lv_iload_n hx hb dX6_bestWhite_15 rfl (lv_at hl 1 rfl) ?_
  refine iw_ralM (v := ad (o + 20 + 5 * k)) hx hb hK hP (by omega) (h7) (vp_in_nI (show k < 6 by omega) (by omega)) ((congrArg F7 (nI_clamp (by omega))).trans (hF7 _ (by omega))) dX6_bestWhite_16 ?_
  refine lv_astore_n (lv' := [(3, .ref (ad (o + 20 + 5 * k))), (0, .ref (ad o)), (1, .int (nI k)), (2, .int (nI kd))]) hx hb dX6_bestWhite_17 rfl hl (by decide) rfl (fun ls hl => ?_)
  refine lv_aload_n hx hb dX6_bestWhite_18 rfl (lv_at hl 1 rfl) ?_
  refine iw_get hx hb hts iu_X6_bestWhite_6 hown hK hP (by omega) (h0) rfl 7 (by decide) (hts _ il_X6_bestWhite_50) (fun _ h9 => h9) rfl dX6_bestWhite_19 ?_
  refine lv_aload_n hx hb dX6_bestWhite_22 rfl (lv_at hl 0 rfl) ?_
  refine iw_getN hx hb hts iu_X6_bestWhite_1 hown hK hP (by omega) (f1) rfl 0 (by decide) (nw_RX6_158 hK.2) (fun _ h9 => h9) rfl dX6_bestWhite_23 ?_
  refine lv_aload_n hx hb dX6_bestWhite_26 rfl (lv_at hl 0 rfl) ?_
  refine iw_getN hx hb hts iu_X6_bestWhite_1 hown hK hP (by omega) (f1) rfl 1 (by decide) (nw_RX6_136 hK.2) (fun _ h9 => h9) rfl dX6_bestWhite_27 ?_
  refine lv_aload_n hx hb dX6_bestWhite_30 rfl (lv_at hl 1 rfl) ?_
  refine iw_get hx hb hts iu_X6_bestWhite_6 hown hK hP (by omega) (h0) rfl 1 (by decide) (hts _ il_X6_bestWhite_19) (fun _ h9 => h9) rfl dX6_bestWhite_31 ?_
  refine iw_getN hx hb hts iu_X6_bestWhite_4 hown hK hP (by omega) (e1) rfl 1 (by decide) (nw_RX6_242 hK.2) (fun _ h9 => h9) rfl dX6_bestWhite_34 ?_
  refine iw_v (va_runV (As := [.ref (ad (o + 20 + 5 * k + 1)), .ref (ad (o + 20 + 5 * k + 2)), .ref (ad (o + 6))]) (rest := []) ⟨hx, hb, hml, hown, hts⟩ (kX2_compose l G N ad _ (by omega) (by omega) (by omega) (dv1) (dv2) (dv3) (by omega) (by omega) (f2) (e3) okr (by omega) (by omega) (by omega) (f3) (f4) (f5) (by omega) (by omega) oke oki (by omega) _) (cwV 3 hts gX6_bestWhite_X2_compose rfl rfl rfl (by decide +kernel) ⟨Nat.le_of_ble_eq_true rfl, Nat.le_of_ble_eq_true rfl⟩) (iPV hK hP hD (by omega) (dv1) rfl [.ref (ad (o + 20 + 5 * k + 1)), .ref (ad (o + 20 + 5 * k + 2)), .ref (ad (o + 6))]) rfl rfl hl.1 rfl (lv_room (Nat.le_of_ble_eq_true rfl)) dX6_bestWhite_37 ⟨Nat.le_of_ble_eq_true rfl, Nat.le_of_ble_eq_true rfl⟩) hD hS hA (fun u8 H locs hw8 hP hD hS => ?_)
  rw [hw8] at hP hD
  refine lv_iload_n hx hb dX6_bestWhite_40 rfl (lv_at hl 3 rfl) ?_
  refine lv_iconst (v := nI 1) hx hb dX6_bestWhite_41 (by decide) ?_
  refine lv_icmp_ne (tgt := 49) hx hb dX6_bestWhite_42 (by decide) (fun c42 => ?_) (fun c42 => ?_)
  · have h9 : ¬ kd = 1 := fun e => c42 (by rw [e])
    refine lv_iconst (v := nI 2) hx hb dX6_bestWhite_49 (by decide) ?_
    refine lv_istore (lv' := [(4, .int (nI 2)), (3, .ref (ad (o + 20 + 5 * k))), (0, .ref (ad o)), (1, .int (nI k)), (2, .int (nI kd))]) hx hb dX6_bestWhite_50 hl (by decide) rfl (fun ls hl => ?_)
    refine lv_aload_n hx hb dX6_bestWhite_52 rfl (lv_at hl 2 rfl) ?_
    refine iw_get hx hb hts iu_X6_bestWhite_6 hown hK hP (by omega) ((va_un _ _ (by omega)).trans ((va_un _ _ (by omega)).trans (h0))) rfl 7 (by decide) (hts _ il_X6_bestWhite_50) (fun _ h9 => h9) rfl dX6_bestWhite_53 ?_
    refine lv_iconst (v := nI 1) hx hb dX6_bestWhite_56 (by decide) ?_
    refine lv_fconst1 hx hb dX6_bestWhite_57 ?_
    refine iw_i (va_runV (As := [.int (nI 1), .float FP.fconst1]) (rest := []) ⟨hx, hb, hml, hown, hts⟩ (kX2_sumTones l G N ad _ (by omega) (by omega) (by omega) ((va_un _ _ (by omega)).trans ((va_un _ _ (by omega)).trans (dv1))) (va_us _ _ _) ((va_un _ _ (by omega)).trans (va_us _ _ _)) (coF_n _ _ ⟨oke, oki⟩) (k := 1) (t := FP.fconst1) (by omega) f1_ok _) (cwV 2 hts gX6_bestWhite_X2_sumTones rfl rfl rfl (by decide +kernel) ⟨Nat.le_of_ble_eq_true rfl, Nat.le_of_ble_eq_true rfl⟩) (iPV hK hP hD (by omega) ((va_un _ _ (by omega)).trans ((va_un _ _ (by omega)).trans (dv1))) rfl [.int (nI 1), .float FP.fconst1]) rfl rfl hl.1 rfl (lv_room (Nat.le_of_ble_eq_true rfl)) dX6_bestWhite_58 ⟨Nat.le_of_ble_eq_true rfl, Nat.le_of_ble_eq_true rfl⟩) hD hS hA (fun r8 u8 H locs hw8 hP hD hS => ?_)
    obtain ⟨hr8, hu8⟩ := hw8
    refine lv_asI hr8 ?_
    rw [hu8] at hP hD
    refine lv_istore (lv' := [(5, .int (stI (coF (sFr S k).1 (sMp S) (sFr S k).2.1) 1 (FP.fconst1) 64)), (4, .int (nI 2)), (3, .ref (ad (o + 20 + 5 * k))), (0, .ref (ad o)), (1, .int (nI k)), (2, .int (nI kd))]) hx hb dX6_bestWhite_61 hl (by decide) rfl (fun ls hl => ?_)
    refine lv_iconst (v := -nI 1) hx hb dX6_bestWhite_63 (by decide) ?_
    refine lv_istore (lv' := [(6, .int (-nI 1)), (5, .int (stI (coF (sFr S k).1 (sMp S) (sFr S k).2.1) 1 (FP.fconst1) 64)), (4, .int (nI 2)), (3, .ref (ad (o + 20 + 5 * k))), (0, .ref (ad o)), (1, .int (nI k)), (2, .int (nI kd))]) hx hb dX6_bestWhite_64 hl (by decide) rfl (fun ls hl => ?_)
    refine lv_iconst (v := nI 0) hx hb dX6_bestWhite_66 (by decide) ?_
    refine lv_istore (lv' := [(7, .int (nI 0)), (6, .int (-nI 1)), (5, .int (stI (coF (sFr S k).1 (sMp S) (sFr S k).2.1) 1 (FP.fconst1) 64)), (4, .int (nI 2)), (3, .ref (ad (o + 20 + 5 * k))), (0, .ref (ad o)), (1, .int (nI k)), (2, .int (nI kd))]) hx hb dX6_bestWhite_67 hl (by decide) rfl (fun ls hl => ?_)
    refine lv_iload_n hx hb dX6_bestWhite_69 rfl (lv_at hl 7 rfl) ?_
    refine iw_pi (va_runS (As := [.int (nI kd)]) (rest := []) ⟨hx, hb, hml, hown, hts⟩ (kX6_leastNumber l (nI kd)) (va_cwS 1 hts gX6_bestWhite_X6_leastNumber rfl rfl rfl (by decide +kernel) ⟨Nat.le_of_ble_eq_true rfl, Nat.le_of_ble_eq_true rfl⟩) ⟨fun a U g mk q => q, fun U hU hW => ⟨rfl, trivial⟩⟩ rfl rfl hl.1 rfl (lv_room (Nat.le_of_ble_eq_true rfl)) dX6_bestWhite_70 ⟨Nat.le_of_ble_eq_true rfl, Nat.le_of_ble_eq_true rfl⟩) hP hS (fun r8 u8 H locs hw8 hP hS => ?_)
    refine lv_asI hw8 ?_
    refine lv_asI (y := nI 1) (by rcases hkd with rfl | rfl <;> decide) ?_
    refine lv_istore (lv' := [(8, .int (nI 1)), (7, .int (nI 0)), (6, .int (-nI 1)), (5, .int (stI (coF (sFr S k).1 (sMp S) (sFr S k).2.1) 1 (FP.fconst1) 64)), (4, .int (nI 2)), (3, .ref (ad (o + 20 + 5 * k))), (0, .ref (ad o)), (1, .int (nI k)), (2, .int (nI kd))]) hx hb dX6_bestWhite_73 hl (by decide) rfl (fun ls hl => ?_)
    refine lX6_bestWhite hx hb hml hr hts hown hK hA (Nat.le_refl _) (Nat.le_refl _) hcam hkn hkd (c1 := 2) (by omega) (fun H locs ls hP hD hS hl => ?_) 20 0 _ _ ls (by omega) (by omega) hP hD hS (lv_sub hl [6, 8, 4, 3, 2, 1, 0] rfl)
    refine lv_iload hx hb dX6_bestWhite_134 (lv_at hl 0 rfl) ?_
    have q1 := up_dmen hcam (mmN (sFr S k).1 (sMp S) (hasM (fun i => nI ((sFr S k).2.1.1 i)) (sFr S k).2.1.2.2))
    have q2 := up_dnum q1 (coF (sFr S k).1 (sMp S) (sFr S k).2.1)
    exact W.iret (v := ((bwF (coF (sFr S k).1 (sMp S) (sFr S k).2.1) 2 16).1)) hx hb hr (fun t ht hW => ⟨⟨_, _, rfl, ⟨(by rw [if_neg h9]), q2, same_up (same_up (same_rf) _ (by omega) (by omega)) _ (by omega) (by omega)⟩, iB_of ht hP⟩, hS.F ht⟩) hS.2.2 dX6_bestWhite_136
  · have h9 : kd = 1 := (nI_eq (by omega) (by omega)).mp c42
    refine lv_iconst (v := nI 0) hx hb dX6_bestWhite_45 (by decide) ?_
    refine lv_goto (tgt := 50) hx hb dX6_bestWhite_46 (by decide) ?_
    refine lv_istore (lv' := [(4, .int (nI 0)), (3, .ref (ad (o + 20 + 5 * k))), (0, .ref (ad o)), (1, .int (nI k)), (2, .int (nI kd))]) hx hb dX6_bestWhite_50 hl (by decide) rfl (fun ls hl => ?_)
    refine lv_aload_n hx hb dX6_bestWhite_52 rfl (lv_at hl 2 rfl) ?_
    refine iw_get hx hb hts iu_X6_bestWhite_6 hown hK hP (by omega) ((va_un _ _ (by omega)).trans ((va_un _ _ (by omega)).trans (h0))) rfl 7 (by decide) (hts _ il_X6_bestWhite_50) (fun _ h9 => h9) rfl dX6_bestWhite_53 ?_
    refine lv_iconst (v := nI 1) hx hb dX6_bestWhite_56 (by decide) ?_
    refine lv_fconst1 hx hb dX6_bestWhite_57 ?_
    refine iw_i (va_runV (As := [.int (nI 1), .float FP.fconst1]) (rest := []) ⟨hx, hb, hml, hown, hts⟩ (kX2_sumTones l G N ad _ (by omega) (by omega) (by omega) ((va_un _ _ (by omega)).trans ((va_un _ _ (by omega)).trans (dv1))) (va_us _ _ _) ((va_un _ _ (by omega)).trans (va_us _ _ _)) (coF_n _ _ ⟨oke, oki⟩) (k := 1) (t := FP.fconst1) (by omega) f1_ok _) (cwV 2 hts gX6_bestWhite_X2_sumTones rfl rfl rfl (by decide +kernel) ⟨Nat.le_of_ble_eq_true rfl, Nat.le_of_ble_eq_true rfl⟩) (iPV hK hP hD (by omega) ((va_un _ _ (by omega)).trans ((va_un _ _ (by omega)).trans (dv1))) rfl [.int (nI 1), .float FP.fconst1]) rfl rfl hl.1 rfl (lv_room (Nat.le_of_ble_eq_true rfl)) dX6_bestWhite_58 ⟨Nat.le_of_ble_eq_true rfl, Nat.le_of_ble_eq_true rfl⟩) hD hS hA (fun r8 u8 H locs hw8 hP hD hS => ?_)
    obtain ⟨hr8, hu8⟩ := hw8
    refine lv_asI hr8 ?_
    rw [hu8] at hP hD
    refine lv_istore (lv' := [(5, .int (stI (coF (sFr S k).1 (sMp S) (sFr S k).2.1) 1 (FP.fconst1) 64)), (4, .int (nI 0)), (3, .ref (ad (o + 20 + 5 * k))), (0, .ref (ad o)), (1, .int (nI k)), (2, .int (nI kd))]) hx hb dX6_bestWhite_61 hl (by decide) rfl (fun ls hl => ?_)
    refine lv_iconst (v := -nI 1) hx hb dX6_bestWhite_63 (by decide) ?_
    refine lv_istore (lv' := [(6, .int (-nI 1)), (5, .int (stI (coF (sFr S k).1 (sMp S) (sFr S k).2.1) 1 (FP.fconst1) 64)), (4, .int (nI 0)), (3, .ref (ad (o + 20 + 5 * k))), (0, .ref (ad o)), (1, .int (nI k)), (2, .int (nI kd))]) hx hb dX6_bestWhite_64 hl (by decide) rfl (fun ls hl => ?_)
    refine lv_iconst (v := nI 0) hx hb dX6_bestWhite_66 (by decide) ?_
    refine lv_istore (lv' := [(7, .int (nI 0)), (6, .int (-nI 1)), (5, .int (stI (coF (sFr S k).1 (sMp S) (sFr S k).2.1) 1 (FP.fconst1) 64)), (4, .int (nI 0)), (3, .ref (ad (o + 20 + 5 * k))), (0, .ref (ad o)), (1, .int (nI k)), (2, .int (nI kd))]) hx hb dX6_bestWhite_67 hl (by decide) rfl (fun ls hl => ?_)
    refine lv_iload_n hx hb dX6_bestWhite_69 rfl (lv_at hl 7 rfl) ?_
    refine iw_pi (va_runS (As := [.int (nI kd)]) (rest := []) ⟨hx, hb, hml, hown, hts⟩ (kX6_leastNumber l (nI kd)) (va_cwS 1 hts gX6_bestWhite_X6_leastNumber rfl rfl rfl (by decide +kernel) ⟨Nat.le_of_ble_eq_true rfl, Nat.le_of_ble_eq_true rfl⟩) ⟨fun a U g mk q => q, fun U hU hW => ⟨rfl, trivial⟩⟩ rfl rfl hl.1 rfl (lv_room (Nat.le_of_ble_eq_true rfl)) dX6_bestWhite_70 ⟨Nat.le_of_ble_eq_true rfl, Nat.le_of_ble_eq_true rfl⟩) hP hS (fun r8 u8 H locs hw8 hP hS => ?_)
    refine lv_asI hw8 ?_
    refine lv_asI (y := nI 1) (by rcases hkd with rfl | rfl <;> decide) ?_
    refine lv_istore (lv' := [(8, .int (nI 1)), (7, .int (nI 0)), (6, .int (-nI 1)), (5, .int (stI (coF (sFr S k).1 (sMp S) (sFr S k).2.1) 1 (FP.fconst1) 64)), (4, .int (nI 0)), (3, .ref (ad (o + 20 + 5 * k))), (0, .ref (ad o)), (1, .int (nI k)), (2, .int (nI kd))]) hx hb dX6_bestWhite_73 hl (by decide) rfl (fun ls hl => ?_)
    refine lX6_bestWhite hx hb hml hr hts hown hK hA (Nat.le_refl _) (Nat.le_refl _) hcam hkn hkd (c1 := 0) (by omega) (fun H locs ls hP hD hS hl => ?_) 20 0 _ _ ls (by omega) (by omega) hP hD hS (lv_sub hl [6, 8, 4, 3, 2, 1, 0] rfl)
    refine lv_iload hx hb dX6_bestWhite_134 (lv_at hl 0 rfl) ?_
    have q1 := up_dmen hcam (mmN (sFr S k).1 (sMp S) (hasM (fun i => nI ((sFr S k).2.1.1 i)) (sFr S k).2.1.2.2))
    have q2 := up_dnum q1 (coF (sFr S k).1 (sMp S) (sFr S k).2.1)
    exact W.iret (v := ((bwF (coF (sFr S k).1 (sMp S) (sFr S k).2.1) 0 16).1)) hx hb hr (fun t ht hW => ⟨⟨_, _, rfl, ⟨(by rw [if_pos h9]), q2, same_up (same_up (same_rf) _ (by omega) (by omega)) _ (by omega) (by omega)⟩, iB_of ht hP⟩, hS.F ht⟩) hS.2.2 dX6_bestWhite_136
