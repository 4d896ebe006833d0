set_option maxRecDepth 20000 in
theorem ggX7_paint_X7_draw : GoodIn wsX7_paint wsX7_draw := goodIn_r _ [9, 10, 11, 12, 13, 14, 15, 16, 17, 18, 48, 49, 50, 51, 52, 53, 54, 55, 56, 57, 58, 59] (by decide +kernel) (by decide +kernel)
set_option maxRecDepth 20000 in
theorem gX7_paint_X7_draw : GoodIn wsX7_paint (wsV RX7 68 RX7 yX7_draw wsX7_draw) := goodIn_app (goodIn_of _ (by decide +kernel)) ggX7_paint_X7_draw
set_option maxRecDepth 20000 in
theorem ggX7_paint_X6_paint : GoodIn wsX7_paint wsX6_paint := goodIn_ca (goodIn_ca (goodIn_r _ [23, 24, 25, 26, 27, 28, 29, 22, 30, 31, 32, 33, 34, 35, 36, 37, 38, 39, 40, 41, 42, 43, 44, 45, 46, 47, 60, 61, 62, 63, 64, 65, 66, 67, 68, 69, 70, 71] (by decide +kernel) (by decide +kernel)) (goodIn_sub (fun _ h => List.mem_cons_of_mem _ (List.mem_append_left _ (List.mem_append_right _ h))) (by decide +kernel))) (goodIn_sub (fun _ h => List.mem_cons_of_mem _ (List.mem_append_right _ h)) (by decide +kernel))
set_option maxRecDepth 20000 in
theorem gX7_paint_X6_paint : GoodIn wsX7_paint (wsV RX7 73 RX6 yX6_paint wsX6_paint) := goodIn_app (goodIn_of _ (by decide +kernel)) ggX7_paint_X6_paint
abbrev rmX7_paint : Room := { frames := 3, cells := 1, slots := 3, locals := 69 }
set_option maxRecDepth 20000 in
theorem iu_X7_paint_7 : ∀ w ∈ u_ws RX7 TX7 12, w ∈ wsX7_paint := by decide +kernel
set_option maxRecDepth 20000 in
theorem il_X7_paint_18 : (Cond.fieldLink RX7 18 "BayerGateLaw$Told" "scene" "[[I") ∈ wsX7_paint := by decide +kernel
set_option maxHeartbeats 4000000 in
set_option maxRecDepth 100000 in
theorem lX7_paint {p : Program} {l : Launch} {e : Env} {s : State} {m : MethodId} {args : Array Value} {below : List Frame} {meth : Method} {c : Code} {Q : State → Prop} {A : Nat → Prop} {H0 : Heap} {cells slots : Nat} (hx : p.tables.exec = Jvm.exec) (hb : c.code = cX7_paint) (hml : c.maxLocals = 7) (hr : meth.sig.returnType = (some .boolean)) (hts : ∀ w ∈ wsX7_paint, w.before args s = true) (hown : s.vm.findClass RX7 = some m.cls) {G : iG} (hK : KB G s) (hA : ∀ q, H0.size ≤ q → A q) {N : Nat} {ad : Nat → Nat} {C : Nat → va_E}  (hcc : cells ≤ rmX7_paint.cells) (hcs : slots ≤ rmX7_paint.slots) (hV : VX s) {b a1 a2 a3 a4 a5 a6 a7 a8 t gs nr x y tx ty : Nat} {dd dw : Int32} {F9 : Nat → Option Nat} {fr9 : Nat → Int32} (lt0 : t < N) (lgs : gs < N) (lnr : nr < N) (n1 : t ≠ gs) (n2 : nr ≠ gs) (h0 : C t = ob 7 [.ref a1, .ref b, .int dd, .ref (ad gs), .ref a2, .ref a3, .ref a4, .int dw, .ref a5, .ref a6, .ref a7, .ref a8]) (hnr : C nr = ia G 3 fr9) (hx8 : x < 8) (hy8 : y < 8) (htx : tx < 8) (hty : ty < 8) (kx : ∀ (H : Heap) (locs : List Loc) (ls : Array Slot), va_P G.1 vwB (wl N ad (va_up C gs (ra G 5 64 (gpF F9 (ad nr) x y tx ty (64))))) H → va_D A (wl N ad (va_up C gs (ra G 5 64 (gpF F9 (ad nr) x y tx ty (64))))) → va_S A H0 H locs → lv_has ls 7 [(5, .ref (ad nr)), (1, .int (nI x)), (2, .int (nI y)), (3, .int (nI tx)), (4, .int (nI ty)), (0, .ref (ad t))] → W p l e rmX7_paint s m args below meth c H locs cells slots Q (F0 m 134 ls [])) : ∀ (d : Nat) (pz : Nat) (H : Heap) (locs : List Loc) (ls : Array Slot), 64 - pz < d → pz ≤ 64 → va_P G.1 vwB (wl N ad (va_up C gs (ra G 5 64 (gpF F9 (ad nr) x y tx ty (pz))))) H → va_D A (wl N ad (va_up C gs (ra G 5 64 (gpF F9 (ad nr) x y tx ty (pz))))) → va_S A H0 H locs → lv_has ls 7 [(6, .int (nI pz)), (5, .ref (ad nr)), (1, .int (nI x)), (2, .int (nI y)), (3, .int (nI tx)), (4, .int (nI ty)), (0, .ref (ad t))] → W p l e rmX7_paint s m args below meth c H locs cells slots Q (F0 m 75 ls []) := by
  intro d
  induction d with
  | zero => intro pz H locs ls hd; exact absurd hd (Nat.not_lt_zero _)
  | succ d ih =>
    intro pz H locs ls hd h2 hP hD hS hl
    refine lv_iload hx hb dX7_paint_75 (lv_at hl 0 rfl) ?_
    refine lv_bipush (v := nI 64) hx hb dX7_paint_77 (by decide) ?_
    refine lv_icmp_ge (tgt := 134) hx hb dX7_paint_79 (by decide) (fun c79 => ?_) (fun c79 => ?_)
    · have h5 : pz = 64 := by have := (nI_leI (by omega) (by omega)).mp c79; omega
      subst h5
      exact kx H locs ls hP hD hS (lv_sub hl [1, 2, 3, 4, 5, 6] rfl)
    · have h4 : pz < 64 := by have := mt (nI_leI (by omega) (by omega)).mpr c79; omega
      refine lv_iload hx hb dX7_paint_82 (lv_at hl 0 rfl) ?_
      refine lv_bipush (v := nI 8) hx hb dX7_paint_84 (by decide) ?_
      refine lv_irem hx hb dX7_paint_86 (by decide) ?_
      refine lv_asI (y := nI (pz % 8)) (pk_rem (by omega) (by omega) (by omega)) ?_
      refine lv_iload_n hx hb dX7_paint_87 rfl (lv_at hl 2 rfl) ?_
      refine lv_icmp_lt (tgt := 128) hx hb dX7_paint_88 (by decide) (fun c88 => ?_) (fun c88 => ?_)
      · have h9 : pz % 8 < x := (nI_ltI (by omega) (by omega)).mp c88
        have e8 : rcB x y tx ty pz = false := by unfold rcB; simp only [decide_eq_false_iff_not]; omega
        refine lv_iinc (v := nI (pz + 1)) (lv' := [(6, .int (nI (pz + 1))), (5, .ref (ad nr)), (1, .int (nI x)), (2, .int (nI y)), (3, .int (nI tx)), (4, .int (nI ty)), (0, .ref (ad t))]) hx hb dX7_paint_128 hl (k := 0) rfl (iinc_nat _ 1) (by decide) rfl (fun ls hl => ?_)
        refine lv_goto (tgt := 75) hx hb dX7_paint_131 (by decide) ?_
        rw [gpF_f F9 (a := ad nr) e8] at hP hD
        exact ih (pz + 1) H locs ls (by omega) (by omega) hP hD hS (lv_sub hl [0, 1, 2, 3, 4, 5, 6] rfl)
      · have g88 : ¬ pz % 8 < x := mt (nI_ltI (by omega) (by omega)).mpr c88
        refine lv_iload hx hb dX7_paint_91 (lv_at hl 0 rfl) ?_
        refine lv_bipush (v := nI 8) hx hb dX7_paint_93 (by decide) ?_
        refine lv_irem hx hb dX7_paint_95 (by decide) ?_
        refine lv_asI (y := nI (pz % 8)) (pk_rem (by omega) (by omega) (by omega)) ?_
        refine lv_iload_n hx hb dX7_paint_96 rfl (lv_at hl 4 rfl) ?_
        refine lv_icmp_gt (tgt := 128) hx hb dX7_paint_97 (by decide) (fun c97 => ?_) (fun c97 => ?_)
        · have h9 : tx < pz % 8 := (nI_ltI (by omega) (by omega)).mp c97
          have e8 : rcB x y tx ty pz = false := by unfold rcB; simp only [decide_eq_false_iff_not]; omega
          refine lv_iinc (v := nI (pz + 1)) (lv' := [(6, .int (nI (pz + 1))), (5, .ref (ad nr)), (1, .int (nI x)), (2, .int (nI y)), (3, .int (nI tx)), (4, .int (nI ty)), (0, .ref (ad t))]) hx hb dX7_paint_128 hl (k := 0) rfl (iinc_nat _ 1) (by decide) rfl (fun ls hl => ?_)
          refine lv_goto (tgt := 75) hx hb dX7_paint_131 (by decide) ?_
          rw [gpF_f F9 (a := ad nr) e8] at hP hD
          exact ih (pz + 1) H locs ls (by omega) (by omega) hP hD hS (lv_sub hl [0, 1, 2, 3, 4, 5, 6] rfl)
        · have g97 : ¬ tx < pz % 8 := mt (nI_ltI (by omega) (by omega)).mpr c97
          refine lv_iload hx hb dX7_paint_100 (lv_at hl 0 rfl) ?_
          refine lv_bipush (v := nI 8) hx hb dX7_paint_102 (by decide) ?_
          refine lv_idiv hx hb dX7_paint_104 (by decide) ?_
          refine lv_asI (y := nI (pz / 8)) (pk_div (by omega) (by omega) (by omega)) ?_
          refine lv_iload_n hx hb dX7_paint_105 rfl (lv_at hl 3 rfl) ?_
          refine lv_icmp_lt (tgt := 128) hx hb dX7_paint_106 (by decide) (fun c106 => ?_) (fun c106 => ?_)
          · have h9 : pz / 8 < y := (nI_ltI (by omega) (by omega)).mp c106
            have e8 : rcB x y tx ty pz = false := by unfold rcB; simp only [decide_eq_false_iff_not]; omega
            refine lv_iinc (v := nI (pz + 1)) (lv' := [(6, .int (nI (pz + 1))), (5, .ref (ad nr)), (1, .int (nI x)), (2, .int (nI y)), (3, .int (nI tx)), (4, .int (nI ty)), (0, .ref (ad t))]) hx hb dX7_paint_128 hl (k := 0) rfl (iinc_nat _ 1) (by decide) rfl (fun ls hl => ?_)
            refine lv_goto (tgt := 75) hx hb dX7_paint_131 (by decide) ?_
            rw [gpF_f F9 (a := ad nr) e8] at hP hD
            exact ih (pz + 1) H locs ls (by omega) (by omega) hP hD hS (lv_sub hl [0, 1, 2, 3, 4, 5, 6] rfl)
          · have g106 : ¬ pz / 8 < y := mt (nI_ltI (by omega) (by omega)).mpr c106
            refine lv_iload hx hb dX7_paint_109 (lv_at hl 0 rfl) ?_
            refine lv_bipush (v := nI 8) hx hb dX7_paint_111 (by decide) ?_
            refine lv_idiv hx hb dX7_paint_113 (by decide) ?_
            refine lv_asI (y := nI (pz / 8)) (pk_div (by omega) (by omega) (by omega)) ?_
            refine lv_iload hx hb dX7_paint_114 (lv_at hl 5 rfl) ?_
            refine lv_icmp_gt (tgt := 128) hx hb dX7_paint_116 (by decide) (fun c116 => ?_) (fun c116 => ?_)
            · have h9 : ty < pz / 8 := (nI_ltI (by omega) (by omega)).mp c116
              have e8 : rcB x y tx ty pz = false := by unfold rcB; simp only [decide_eq_false_iff_not]; omega
              refine lv_iinc (v := nI (pz + 1)) (lv' := [(6, .int (nI (pz + 1))), (5, .ref (ad nr)), (1, .int (nI x)), (2, .int (nI y)), (3, .int (nI tx)), (4, .int (nI ty)), (0, .ref (ad t))]) hx hb dX7_paint_128 hl (k := 0) rfl (iinc_nat _ 1) (by decide) rfl (fun ls hl => ?_)
              refine lv_goto (tgt := 75) hx hb dX7_paint_131 (by decide) ?_
              rw [gpF_f F9 (a := ad nr) e8] at hP hD
              exact ih (pz + 1) H locs ls (by omega) (by omega) hP hD hS (lv_sub hl [0, 1, 2, 3, 4, 5, 6] rfl)
            · have g116 : ¬ ty < pz / 8 := mt (nI_ltI (by omega) (by omega)).mpr c116
              have e8 : rcB x y tx ty pz = true := by unfold rcB; simp only [decide_eq_true_eq]; omega
              refine lv_aload_n hx hb dX7_paint_119 rfl (lv_at hl 6 rfl) ?_
              refine iw_get hx hb hts iu_X7_paint_7 hown hK hP lt0 ((va_un _ _ (by omega)).trans (h0)) rfl 3 (by decide) (hts _ il_X7_paint_18) (fun _ h9 => h9) rfl dX7_paint_120 ?_
              refine lv_iload hx hb dX7_paint_123 (lv_at hl 0 rfl) ?_
              refine lv_aload hx hb dX7_paint_125 (lv_at hl 1 rfl) ?_
              refine iw_gast hx hb hK (vx_ag hV) hP hD hS lgs (va_us _ _ _) lnr ((va_un _ _ (by omega)).trans (hnr)) (vp_in_nI (show pz < 64 by omega) (by omega)) (nI_clamp (by omega)) dX7_paint_127 (fun H locs hP hD hS => ?_)
              rw [va_uu _ _ _ _] at hP hD
              refine lv_iinc (v := nI (pz + 1)) (lv' := [(6, .int (nI (pz + 1))), (5, .ref (ad nr)), (1, .int (nI x)), (2, .int (nI y)), (3, .int (nI tx)), (4, .int (nI ty)), (0, .ref (ad t))]) hx hb dX7_paint_128 hl (k := 0) rfl (iinc_nat _ 1) (by decide) rfl (fun ls hl => ?_)
              refine lv_goto (tgt := 75) hx hb dX7_paint_131 (by decide) ?_
              rw [gpF_t F9 e8] at hP hD
              exact ih (pz + 1) H locs ls (by omega) (by omega) hP hD hS (lv_sub hl [0, 1, 2, 3, 4, 5, 6] rfl)
set_option maxRecDepth 20000 in
theorem il_X7_paint_arrint : (Cond.arrayClass .int) ∈ wsX7_paint := by decide +kernel
set_option maxRecDepth 20000 in
theorem il_X7_paint_10 : (Cond.fieldLink RX7 10 "BayerGateLaw$Told" "m" "LBayerGate;") ∈ wsX7_paint := by decide +kernel
set_option maxRecDepth 20000 in
theorem il_X7_paint_72 : (Cond.constant RX7 72 (65536)) ∈ wsX7_paint := by decide +kernel
set_option maxHeartbeats 4000000 in
set_option maxRecDepth 100000 in
theorem kX7_paint (l : Launch) (G : iG) (N : Nat) (ad : Nat → Nat) (C : Nat → va_E) (b L : Nat) (xs : Nat → Int32) (h147 : 147 ≤ N) (S : St) (hcam : Cam G N ad C 1 S) (sn : Nat → Nat) (hts0 : isTs G ad C N sn) (d : Nat) (hd : d < 800) {dw : Int32} {a8 a9 a10 a11 : Nat} (h0 : C 0 = ob 7 [.ref (ad 1), .ref b, .int (nI d), .ref (ad 75), .ref (ad 140), .ref (ad 141), .ref (ad 142), .int dw, .ref a8, .ref a9, .ref a10, .ref a11]) (sz : Nat) : Met l yX7_paint wsX7_paint rmX7_paint (iPreX G (N) ad C b L xs sz [.ref (ad 0)]) (va_Qi (fun (r : Int32) (u : iU) => (r = nI 1) ∧ (∀ j, j < N → u.1 j = ad j) ∧ (∀ j, j < N → 75 < j → u.2 j = C j) ∧ ∃ q1 q2 q3 q4 q5 q6 q7 : Nat, (q1 < 8 ∧ q2 < 8 ∧ q3 < 8 - q1 ∧ q4 < 8 - q2 ∧ q5 < 256 ∧ q6 < 256 ∧ q7 < 256) ∧ Cam G (N + 1) u.1 u.2 1 (mkS (paY (sSh S) q1 q2 (q5 + 256 * q6 + 65536 * q7) (q1 + q3 - q1 + 1) (q2 + q4 - q2 + 1)) (sFac S) (sGq S) (sHw S) (sMp S) (sDr S) (sFn S) (sFl S) (sFr S) (sFi S)) ∧ isTs G u.1 u.2 (N + 1) (snP q1 q2 (q1 + q3) (q2 + q4) q5 q6 q7 sn) ∧ u.2 0 = ob 7 [.ref (u.1 1), .ref b, .int (nI (d + 7)), .ref (u.1 75), .ref (u.1 140), .ref (u.1 141), .ref (u.1 142), .int dw, .ref a8, .ref a9, .ref a10, .ref a11]) (iB2 G (N + 1) (iA (N) ad sz)) (iA (N) ad sz)) 1 3 (iA (N) ad sz) := by
  refine Met.ofW (cc := cX7_paint) (maxL := 7) (ret := (some .boolean)) (by decide) rfl ?_
  intro p e s m args below meth c s₁ B hml hv
  obtain ⟨rfl, ⟨hsz, hP, hK, hD0⟩, hV, hX⟩ := hv
  have hx := B.exec
  have hb := B.bytes
  have hr := B.returns
  have hts := atoms_spec (ws := wsX7_paint) B.pre
  have hown : s.vm.findClass RX7 = some m.cls := findClass_of_methodNamed B.named
  have hlocks := B.notSynchronized
  subst hsz
  have hD := wl_self hD0 s.heap.size
  have hA : ∀ q : Nat, s.heap.size ≤ q → iA (N) ad s.heap.size q := fun q h => Or.inr h
  have hS : va_S (iA (N) ad s.heap.size) s.heap s.heap [] := va_S.rf
  have hP : va_P G.1 vwB (wl (N) ad C) s.heap := hP
  have hl := lv_entry ([.ref (ad 0)]) (n := 7) (Nat.le_of_ble_eq_true rfl)
  rw [lg_entry_eq]
  generalize (lg_sl ([.ref (ad 0)]) ++ List.replicate (7 - (lg_sl ([.ref (ad 0)])).length) Slot.unset).toArray = ls at hl ⊢
  have hl : lv_has ls 7 [(0, .ref (ad 0))] := hl
  have hbA := XS_out hX
  refine lv_aload_n hx hb dX7_paint_0 rfl (lv_at hl 0 rfl) ?_
  refine lv_bipush (v := nI 8) hx hb dX7_paint_1 (by decide) ?_
  refine iw_i (va_runV (As := [.int (nI 8)]) (rest := []) ⟨hx, hb, hml, hown, hts⟩ (kX7_draw l G (N) ad _ b L xs (t := 0) (by omega) (8) (by omega) (d) (by omega) (h0) _) (cwV 1 hts gX7_paint_X7_draw rfl rfl rfl (by decide +kernel) ⟨Nat.le_of_ble_eq_true rfl, Nat.le_of_ble_eq_true rfl⟩) (iPVX hK hV hX hbA hS hP hD (by omega) (h0) rfl [.int (nI 8)]) rfl rfl hl.1 rfl (lv_room (Nat.le_of_ble_eq_true rfl)) dX7_paint_3 ⟨Nat.le_of_ble_eq_true rfl, Nat.le_of_ble_eq_true rfl⟩) hD hS hA (fun r8 u8 H locs hw8 hP hD hS => ?_)
  obtain ⟨⟨q1, hq1, hr8⟩, hu8⟩ := hw8
  refine lv_asI hr8 ?_
  rw [hu8] at hP hD
  refine lv_istore_n (lv' := [(1, .int (nI q1)), (0, .ref (ad 0))]) hx hb dX7_paint_6 rfl hl (by decide) rfl (fun ls hl => ?_)
  refine lv_aload_n hx hb dX7_paint_7 rfl (lv_at hl 1 rfl) ?_
  refine lv_bipush (v := nI 8) hx hb dX7_paint_8 (by decide) ?_
  refine iw_i (va_runV (As := [.int (nI 8)]) (rest := []) ⟨hx, hb, hml, hown, hts⟩ (kX7_draw l G (N) ad _ b L xs (t := 0) (by omega) (8) (by omega) (d + 1) (by omega) (va_us _ _ _) _) (cwV 1 hts gX7_paint_X7_draw rfl rfl rfl (by decide +kernel) ⟨Nat.le_of_ble_eq_true rfl, Nat.le_of_ble_eq_true rfl⟩) (iPVX hK hV hX hbA hS hP hD (by omega) (va_us _ _ _) rfl [.int (nI 8)]) rfl rfl hl.1 rfl (lv_room (Nat.le_of_ble_eq_true rfl)) dX7_paint_10 ⟨Nat.le_of_ble_eq_true rfl, Nat.le_of_ble_eq_true rfl⟩) hD hS hA (fun r8 u8 H locs hw8 hP hD hS => ?_)
  obtain ⟨⟨q2, hq2, hr8⟩, hu8⟩ := hw8
  refine lv_asI hr8 ?_
  rw [hu8] at hP hD
  rw [va_uu _ _ _ _] at hP hD
  refine lv_istore_n (lv' := [(2, .int (nI q2)), (1, .int (nI q1)), (0, .ref (ad 0))]) hx hb dX7_paint_13 rfl hl (by decide) rfl (fun ls hl => ?_)
  refine lv_iload_n hx hb dX7_paint_14 rfl (lv_at hl 1 rfl) ?_
  refine lv_aload_n hx hb dX7_paint_15 rfl (lv_at hl 2 rfl) ?_
  refine lv_bipush (v := nI 8) hx hb dX7_paint_16 (by decide) ?_
  refine lv_iload_n hx hb dX7_paint_18 rfl (lv_at hl 1 rfl) ?_
  refine lv_isub hx hb dX7_paint_19 ?_
  refine lv_asI (y := nI (8 - q1)) (pk_sub (by omega)) ?_
  refine iw_i (va_runV (As := [.int (nI (8 - q1))]) (rest := [.int (nI q1)]) ⟨hx, hb, hml, hown, hts⟩ (kX7_draw l G (N) ad _ b L xs (t := 0) (by omega) (8 - q1) (by omega) (d + 2) (by omega) (va_us _ _ _) _) (cwV 1 hts gX7_paint_X7_draw rfl rfl rfl (by decide +kernel) ⟨Nat.le_of_ble_eq_true rfl, Nat.le_of_ble_eq_true rfl⟩) (iPVX hK hV hX hbA hS hP hD (by omega) (va_us _ _ _) rfl [.int (nI (8 - q1))]) rfl rfl hl.1 rfl (lv_room (Nat.le_of_ble_eq_true rfl)) dX7_paint_20 ⟨Nat.le_of_ble_eq_true rfl, Nat.le_of_ble_eq_true rfl⟩) hD hS hA (fun r8 u8 H locs hw8 hP hD hS => ?_)
  obtain ⟨⟨q3, hq3, hr8⟩, hu8⟩ := hw8
  refine lv_asI hr8 ?_
  rw [hu8] at hP hD
  rw [va_uu _ _ _ _] at hP hD
  refine lv_iadd hx hb dX7_paint_23 ?_
  refine lv_asI (y := nI (q1 + q3)) (nI_add _ _) ?_
  refine lv_istore_n (lv' := [(3, .int (nI (q1 + q3))), (2, .int (nI q2)), (1, .int (nI q1)), (0, .ref (ad 0))]) hx hb dX7_paint_24 rfl hl (by decide) rfl (fun ls hl => ?_)
  refine lv_iload_n hx hb dX7_paint_25 rfl (lv_at hl 1 rfl) ?_
  refine lv_aload_n hx hb dX7_paint_26 rfl (lv_at hl 3 rfl) ?_
  refine lv_bipush (v := nI 8) hx hb dX7_paint_27 (by decide) ?_
  refine lv_iload_n hx hb dX7_paint_29 rfl (lv_at hl 1 rfl) ?_
  refine lv_isub hx hb dX7_paint_30 ?_
  refine lv_asI (y := nI (8 - q2)) (pk_sub (by omega)) ?_
  refine iw_i (va_runV (As := [.int (nI (8 - q2))]) (rest := [.int (nI q2)]) ⟨hx, hb, hml, hown, hts⟩ (kX7_draw l G (N) ad _ b L xs (t := 0) (by omega) (8 - q2) (by omega) (d + 3) (by omega) (va_us _ _ _) _) (cwV 1 hts gX7_paint_X7_draw rfl rfl rfl (by decide +kernel) ⟨Nat.le_of_ble_eq_true rfl, Nat.le_of_ble_eq_true rfl⟩) (iPVX hK hV hX hbA hS hP hD (by omega) (va_us _ _ _) rfl [.int (nI (8 - q2))]) rfl rfl hl.1 rfl (lv_room (Nat.le_of_ble_eq_true rfl)) dX7_paint_31 ⟨Nat.le_of_ble_eq_true rfl, Nat.le_of_ble_eq_true rfl⟩) hD hS hA (fun r8 u8 H locs hw8 hP hD hS => ?_)
  obtain ⟨⟨q4, hq4, hr8⟩, hu8⟩ := hw8
  refine lv_asI hr8 ?_
  rw [hu8] at hP hD
  rw [va_uu _ _ _ _] at hP hD
  refine lv_iadd hx hb dX7_paint_34 ?_
  refine lv_asI (y := nI (q2 + q4)) (nI_add _ _) ?_
  refine lv_istore (lv' := [(4, .int (nI (q2 + q4))), (3, .int (nI (q1 + q3))), (2, .int (nI q2)), (1, .int (nI q1)), (0, .ref (ad 0))]) hx hb dX7_paint_35 hl (by decide) rfl (fun ls hl => ?_)
  refine lv_iconst (v := nI 3) hx hb dX7_paint_37 (by decide) ?_
  refine iw_newI (N' := 3) hx hb (hts _ il_X7_paint_arrint) hK hP hD hS hA (by decide) (by decide) (Nat.le_of_ble_eq_true rfl) (Nat.le_of_ble_eq_true rfl) (Nat.le_of_ble_eq_true rfl) dX7_paint_38 (fun ad1 C1 H e1 c1 n1 hP hD hS => ?_)
  have k1_0 : C1 0 = ob 7 [.ref (ad1 1), .ref b, .int (nI (d + 4)), .ref (ad1 75), .ref (ad1 140), .ref (ad1 141), .ref (ad1 142), .int dw, .ref a8, .ref a9, .ref a10, .ref a11] := (c1 _ (by omega)).trans ((va_us _ _ _).trans (by first | (rw [e1 1 (by omega), e1 75 (by omega), e1 140 (by omega), e1 141 (by omega), e1 142 (by omega)]; done) | (rw [e1 1 (by omega), e1 75 (by omega), e1 140 (by omega), e1 141 (by omega), e1 142 (by omega)]; rfl)))
  have q1_cam := Cam_gr e1 c1 (by omega) (by omega) (Cam_up hcam (by omega))
  have q1_ts := isTs_gr e1 c1 (by omega) (by omega) (isTs_up hts0 (by omega))
  have ea1 : ∀ j, j < N → ad1 j = ad j := fun j h => e1 j (by omega)
  have ca1 : ∀ j, j < N → 75 < j → C1 j = C j := fun j h hx9 => (c1 j (by omega)).trans ((va_un _ _ (by omega)).trans (rfl))
  have hl : lv_has ls 7 [(4, .int (nI (q2 + q4))), (3, .int (nI (q1 + q3))), (2, .int (nI q2)), (1, .int (nI q1)), (0, .ref (ad1 0))] := by rw [e1 0 (by omega)]; exact hl
  refine lv_dup hx hb dX7_paint_40 rfl ?_
  refine lv_iconst (v := nI 0) hx hb dX7_paint_41 (by decide) ?_
  refine lv_aload_n hx hb dX7_paint_42 rfl (lv_at hl 4 rfl) ?_
  refine lv_sipush (v := nI 256) hx hb dX7_paint_43 (by decide) ?_
  refine iw_i (va_runV (As := [.int (nI 256)]) (rest := [.int (nI 0), .ref (ad1 N), .ref (ad1 N)]) ⟨hx, hb, hml, hown, hts⟩ (kX7_draw l G (N + 1) ad1 _ b L xs (t := 0) (by omega) (256) (by omega) (d + 4) (by omega) (k1_0) _) (cwV 1 hts gX7_paint_X7_draw rfl rfl rfl (by decide +kernel) ⟨Nat.le_of_ble_eq_true rfl, Nat.le_of_ble_eq_true rfl⟩) (iPVX hK hV hX hbA hS hP hD (by omega) (k1_0) rfl [.int (nI 256)]) rfl rfl hl.1 rfl (lv_room (Nat.le_of_ble_eq_true rfl)) dX7_paint_46 ⟨Nat.le_of_ble_eq_true rfl, Nat.le_of_ble_eq_true rfl⟩) hD hS hA (fun r8 u8 H locs hw8 hP hD hS => ?_)
  obtain ⟨⟨q5, hq5, hr8⟩, hu8⟩ := hw8
  refine lv_asI hr8 ?_
  rw [hu8] at hP hD
  refine iw_iast hx hb hK hP hD hS (by omega) ((va_un _ _ (by omega)).trans (n1)) (vp_in_nI (show 0 < 3 by omega) (by omega)) (nI_clamp (by omega)) dX7_paint_49 (fun H locs hP hD hS => ?_)
  refine lv_dup hx hb dX7_paint_50 rfl ?_
  refine lv_iconst (v := nI 1) hx hb dX7_paint_51 (by decide) ?_
  refine lv_aload_n hx hb dX7_paint_52 rfl (lv_at hl 4 rfl) ?_
  refine lv_sipush (v := nI 256) hx hb dX7_paint_53 (by decide) ?_
  refine iw_i (va_runV (As := [.int (nI 256)]) (rest := [.int (nI 1), .ref (ad1 N), .ref (ad1 N)]) ⟨hx, hb, hml, hown, hts⟩ (kX7_draw l G (N + 1) ad1 _ b L xs (t := 0) (by omega) (256) (by omega) (d + 5) (by omega) ((va_un _ _ (by omega)).trans (va_us _ _ _)) _) (cwV 1 hts gX7_paint_X7_draw rfl rfl rfl (by decide +kernel) ⟨Nat.le_of_ble_eq_true rfl, Nat.le_of_ble_eq_true rfl⟩) (iPVX hK hV hX hbA hS hP hD (by omega) ((va_un _ _ (by omega)).trans (va_us _ _ _)) rfl [.int (nI 256)]) rfl rfl hl.1 rfl (lv_room (Nat.le_of_ble_eq_true rfl)) dX7_paint_56 ⟨Nat.le_of_ble_eq_true rfl, Nat.le_of_ble_eq_true rfl⟩) hD hS hA (fun r8 u8 H locs hw8 hP hD hS => ?_)
  obtain ⟨⟨q6, hq6, hr8⟩, hu8⟩ := hw8
  refine lv_asI hr8 ?_
  rw [hu8] at hP hD
  rw [va_u3 _ _ _ _ ((by omega))] at hP hD
  refine iw_iast hx hb hK hP hD hS (by omega) (va_us _ _ _) (vp_in_nI (show 1 < 3 by omega) (by omega)) (nI_clamp (by omega)) dX7_paint_59 (fun H locs hP hD hS => ?_)
  rw [va_uu _ _ _ _] at hP hD
  refine lv_dup hx hb dX7_paint_60 rfl ?_
  refine lv_iconst (v := nI 2) hx hb dX7_paint_61 (by decide) ?_
  refine lv_aload_n hx hb dX7_paint_62 rfl (lv_at hl 4 rfl) ?_
  refine lv_sipush (v := nI 256) hx hb dX7_paint_63 (by decide) ?_
  refine iw_i (va_runV (As := [.int (nI 256)]) (rest := [.int (nI 2), .ref (ad1 N), .ref (ad1 N)]) ⟨hx, hb, hml, hown, hts⟩ (kX7_draw l G (N + 1) ad1 _ b L xs (t := 0) (by omega) (256) (by omega) (d + 6) (by omega) ((va_un _ _ (by omega)).trans (va_us _ _ _)) _) (cwV 1 hts gX7_paint_X7_draw rfl rfl rfl (by decide +kernel) ⟨Nat.le_of_ble_eq_true rfl, Nat.le_of_ble_eq_true rfl⟩) (iPVX hK hV hX hbA hS hP hD (by omega) ((va_un _ _ (by omega)).trans (va_us _ _ _)) rfl [.int (nI 256)]) rfl rfl hl.1 rfl (lv_room (Nat.le_of_ble_eq_true rfl)) dX7_paint_66 ⟨Nat.le_of_ble_eq_true rfl, Nat.le_of_ble_eq_true rfl⟩) hD hS hA (fun r8 u8 H locs hw8 hP hD hS => ?_)
  obtain ⟨⟨q7, hq7, hr8⟩, hu8⟩ := hw8
  refine lv_asI hr8 ?_
  rw [hu8] at hP hD
  rw [va_u3 _ _ _ _ ((by omega))] at hP hD
  refine iw_iast hx hb hK hP hD hS (by omega) (va_us _ _ _) (vp_in_nI (show 2 < 3 by omega) (by omega)) (nI_clamp (by omega)) dX7_paint_69 (fun H locs hP hD hS => ?_)
  rw [va_uu _ _ _ _] at hP hD
  have hP := wl_ia (g := fun i => nI (rw3 q5 q6 q7 i)) hP (fun k hk => by rcases (show k = 0 ∨ k = 1 ∨ k = 2 by omega) with rfl | rfl | rfl <;> rfl)
  have hD := wl_D hD (va_up (va_up C1 0 (ob 7 [.ref (ad1 1), .ref b, .int (nI (d + 7)), .ref (ad1 75), .ref (ad1 140), .ref (ad1 141), .ref (ad1 142), .int dw, .ref a8, .ref a9, .ref a10, .ref a11])) N (ia G 3 (fun i => nI (rw3 q5 q6 q7 i))))
  refine lv_astore (lv' := [(5, .ref (ad1 N)), (4, .int (nI (q2 + q4))), (3, .int (nI (q1 + q3))), (2, .int (nI q2)), (1, .int (nI q1)), (0, .ref (ad1 0))]) hx hb dX7_paint_70 hl (by decide) rfl (fun ls hl => ?_)
  refine lv_iconst (v := nI 0) hx hb dX7_paint_72 (by decide) ?_
  refine lv_istore (lv' := [(6, .int (nI 0)), (5, .ref (ad1 N)), (4, .int (nI (q2 + q4))), (3, .int (nI (q1 + q3))), (2, .int (nI q2)), (1, .int (nI q1)), (0, .ref (ad1 0))]) hx hb dX7_paint_73 hl (by decide) rfl (fun ls hl => ?_)
  have tsx : isTs G ad1 (va_up (va_up C1 0 (ob 7 [.ref (ad1 1), .ref b, .int (nI (d + 7)), .ref (ad1 75), .ref (ad1 140), .ref (ad1 141), .ref (ad1 142), .int dw, .ref a8, .ref a9, .ref a10, .ref a11])) N (ia G 3 (fun i => nI (rw3 q5 q6 q7 i)))) N sn := (isTs_up (isTs_up q1_ts (by omega)) (by omega))
  obtain ⟨hB9, F9, sc9, gr9, g75, hsc⟩ := tsx
  have hts9 := isTs_new (x := q1) (y := q2) (tx := q1 + q3) (ty := q2 + q4) h147 (Nat.le_refl _) hsc (va_us _ _ _)
  have hP := wl_selfE hP g75
  have hD := wl_D hD (va_up (va_up (va_up C1 0 (ob 7 [.ref (ad1 1), .ref b, .int (nI (d + 7)), .ref (ad1 75), .ref (ad1 140), .ref (ad1 141), .ref (ad1 142), .int dw, .ref a8, .ref a9, .ref a10, .ref a11])) N (ia G 3 (fun i => nI (rw3 q5 q6 q7 i)))) 75 (ra G 5 64 F9))
  refine lX7_paint (N := N + 1) hx hb hml hr hts hown hK hA (Nat.le_refl _) (Nat.le_refl _) hV (t := 0) (gs := 75) (nr := N) (x := q1) (y := q2) (tx := q1 + q3) (ty := q2 + q4) (F9 := F9) (by omega) (by omega) (by omega) (by omega) (by omega) ((va_un _ _ (by omega)).trans (va_us _ _ _)) (va_us _ _ _) (by omega) (by omega) (by omega) (by omega) (fun H locs ls hP hD hS hl => ?_) 65 0 _ _ ls (by omega) (by omega) (by rw [gpF_0]; exact hP) (by rw [gpF_0]; exact hD) hS (lv_sub hl [0, 1, 5, 4, 3, 2, 6] rfl)
  refine lv_aload_n hx hb dX7_paint_134 rfl (lv_at hl 5 rfl) ?_
  refine iw_get hx hb hts iu_X7_paint_7 hown hK hP (by omega) ((va_un _ _ (by omega)).trans ((va_un _ _ (by omega)).trans (va_us _ _ _))) rfl 0 (by decide) (hts _ il_X7_paint_10) (fun _ h9 => h9) rfl dX7_paint_135 ?_
  refine lv_iload_n hx hb dX7_paint_138 rfl (lv_at hl 1 rfl) ?_
  refine lv_iload_n hx hb dX7_paint_139 rfl (lv_at hl 2 rfl) ?_
  refine lv_iload_n hx hb dX7_paint_140 rfl (lv_at hl 3 rfl) ?_
  refine lv_iload hx hb dX7_paint_141 (lv_at hl 4 rfl) ?_
  refine lv_aload hx hb dX7_paint_143 (lv_at hl 0 rfl) ?_
  refine lv_iconst (v := nI 0) hx hb dX7_paint_145 (by decide) ?_
  refine iw_iald (v := nI (rw3 q5 q6 q7 0)) hx hb hK hP (by omega) ((va_un _ _ (by omega)).trans (va_us _ _ _)) (vp_in_nI (show 0 < 3 by omega) (by omega)) (congrArg (fun i => nI (rw3 q5 q6 q7 i)) (nI_clamp (by omega))) dX7_paint_146 ?_
  refine lv_asI (y := nI q5) rfl ?_
  refine lv_sipush (v := nI 256) hx hb dX7_paint_147 (by decide) ?_
  refine lv_aload hx hb dX7_paint_150 (lv_at hl 0 rfl) ?_
  refine lv_iconst (v := nI 1) hx hb dX7_paint_152 (by decide) ?_
  refine iw_iald (v := nI (rw3 q5 q6 q7 1)) hx hb hK hP (by omega) ((va_un _ _ (by omega)).trans (va_us _ _ _)) (vp_in_nI (show 1 < 3 by omega) (by omega)) (congrArg (fun i => nI (rw3 q5 q6 q7 i)) (nI_clamp (by omega))) dX7_paint_153 ?_
  refine lv_asI (y := nI q6) rfl ?_
  refine lv_imul hx hb dX7_paint_154 ?_
  refine lv_asI (y := nI (256 * q6)) (pk_mul _ _) ?_
  refine lv_iadd hx hb dX7_paint_155 ?_
  refine lv_asI (y := nI (q5 + (256 * q6))) (nI_add _ _) ?_
  refine lv_ldc hx hb hown (hts _ il_X7_paint_72) dX7_paint_156 ?_
  refine lv_asI (y := nI 65536) (by decide) ?_
  refine lv_aload hx hb dX7_paint_158 (lv_at hl 0 rfl) ?_
  refine lv_iconst (v := nI 2) hx hb dX7_paint_160 (by decide) ?_
  refine iw_iald (v := nI (rw3 q5 q6 q7 2)) hx hb hK hP (by omega) ((va_un _ _ (by omega)).trans (va_us _ _ _)) (vp_in_nI (show 2 < 3 by omega) (by omega)) (congrArg (fun i => nI (rw3 q5 q6 q7 i)) (nI_clamp (by omega))) dX7_paint_161 ?_
  refine lv_asI (y := nI q7) rfl ?_
  refine lv_imul hx hb dX7_paint_162 ?_
  refine lv_asI (y := nI (65536 * q7)) (pk_mul _ _) ?_
  refine lv_iadd hx hb dX7_paint_163 ?_
  refine lv_asI (y := nI ((q5 + (256 * q6)) + (65536 * q7))) (nI_add _ _) ?_
  refine iw_i (va_runV (As := [.int (nI q1), .int (nI q2), .int (nI (q1 + q3)), .int (nI (q2 + q4)), .int (nI ((q5 + (256 * q6)) + (65536 * q7)))]) (rest := []) ⟨hx, hb, hml, hown, hts⟩ (kX6_paint l G (N + 1) ad1 _ 1 S (Cam_N (Cam_up (Cam_up (Cam_up q1_cam (by omega)) (by omega)) (by omega)) (by omega)) q1 q2 (q1 + q3) (q2 + q4) (q5 + 256 * q6 + 65536 * q7) ⟨by omega, by omega, by omega, by omega⟩ (by omega) _) (cwV 5 hts gX7_paint_X6_paint rfl rfl rfl (by decide +kernel) ⟨Nat.le_of_ble_eq_true rfl, Nat.le_of_ble_eq_true rfl⟩) (iPV hK hP hD (by omega) ((va_un _ _ (by omega)).trans ((va_un _ _ (by omega)).trans ((va_un _ _ (by omega)).trans (q1_cam.2.2.1)))) rfl [.int (nI q1), .int (nI q2), .int (nI (q1 + q3)), .int (nI (q2 + q4)), .int (nI ((q5 + (256 * q6)) + (65536 * q7)))]) rfl rfl hl.1 rfl (lv_room (Nat.le_of_ble_eq_true rfl)) dX7_paint_164 ⟨Nat.le_of_ble_eq_true rfl, Nat.le_of_ble_eq_true rfl⟩) hD hS hA (fun r8 u8 H locs hw8 hP hD hS => ?_)
  obtain ⟨hr8, hc8, hs8⟩ := hw8
  refine lv_asI hr8 ?_
  obtain ⟨V1, rfl⟩ : ∃ V, V = u8 := ⟨_, rfl⟩
  have k2_0 : V1 0 = ob 7 [.ref (ad1 1), .ref b, .int (nI (d + 7)), .ref (ad1 75), .ref (ad1 140), .ref (ad1 141), .ref (ad1 142), .int dw, .ref a8, .ref a9, .ref a10, .ref a11] := (hs8 _ (by omega)).trans ((va_un _ _ (by omega)).trans ((va_un _ _ (by omega)).trans (va_us _ _ _)))
  have k2_N : V1 N = ia G 3 (fun i => nI (rw3 q5 q6 q7 i)) := (hs8 _ (by omega)).trans ((va_un _ _ (by omega)).trans (va_us _ _ _))
  have q2_cam := hc8
  have ea2 : ∀ j, j < N → ad1 j = ad j := ea1
  have ca2 : ∀ j, j < N → 75 < j → V1 j = C j := fun j h hx9 => (hs8 j (by omega)).trans ((va_un _ _ (by omega)).trans ((va_un _ _ (by omega)).trans ((va_un _ _ (by omega)).trans (ca1 j h hx9))))
  have hts8 := isTs_cam hs8 (Or.inl (by omega)) hts9
  refine lv_iload_n hx hb dX7_paint_167 rfl (lv_at hl 3 rfl) ?_
  refine lv_iconst (v := nI 1) hx hb dX7_paint_168 (by decide) ?_
  refine lv_iadd hx hb dX7_paint_169 ?_
  refine lv_asI (y := nI ((q1 + q3) + 1)) (nI_add _ _) ?_
  refine lv_iload_n hx hb dX7_paint_170 rfl (lv_at hl 1 rfl) ?_
  refine lv_isub hx hb dX7_paint_171 ?_
  refine lv_asI (y := nI (((q1 + q3) + 1) - q1)) (pk_sub (by omega)) ?_
  refine lv_iload hx hb dX7_paint_172 (lv_at hl 4 rfl) ?_
  refine lv_iconst (v := nI 1) hx hb dX7_paint_174 (by decide) ?_
  refine lv_iadd hx hb dX7_paint_175 ?_
  refine lv_asI (y := nI ((q2 + q4) + 1)) (nI_add _ _) ?_
  refine lv_iload_n hx hb dX7_paint_176 rfl (lv_at hl 2 rfl) ?_
  refine lv_isub hx hb dX7_paint_177 ?_
  refine lv_asI (y := nI (((q2 + q4) + 1) - q2)) (pk_sub (by omega)) ?_
  refine lv_imul hx hb dX7_paint_178 ?_
  refine lv_asI (y := nI ((((q1 + q3) + 1) - q1) * (((q2 + q4) + 1) - q2))) (pk_mul _ _) ?_
  refine lv_icmp_ne (tgt := 186) hx hb dX7_paint_179 (by decide) (fun c9 => absurd ((by rw [show q1 + q3 - q1 + 1 = q1 + q3 + 1 - q1 by omega, show q2 + q4 - q2 + 1 = q2 + q4 + 1 - q2 by omega])) c9) (fun _ => ?_)
  refine lv_iconst (v := nI 1) hx hb dX7_paint_182 (by decide) ?_
  refine lv_goto (tgt := 187) hx hb dX7_paint_183 (by decide) ?_
  refine W.widen (k := 1) (n := 3) (Nat.le_of_ble_eq_true rfl) (Nat.le_of_ble_eq_true rfl) ?_
  have z_0 : (V1) 0 = ob 7 [.ref (ad1 1), .ref b, .int (nI (d + 7)), .ref (ad1 75), .ref (ad1 140), .ref (ad1 141), .ref (ad1 142), .int dw, .ref a8, .ref a9, .ref a10, .ref a11] := k2_0
  exact W.zret (v := (nI 1)) (ty := .boolean) hx hb hr (by decide) (fun t ht hW => ⟨⟨_, (ad1, V1), rfl, ⟨rfl, ⟨ea2, fun j h hx9 => ca2 j h hx9, ⟨q1, q2, q3, q4, q5, q6, q7, ⟨hq1, hq2, hq3, hq4, hq5, hq6, hq7⟩, (Cam_N q2_cam (by omega)), hts8, z_0⟩⟩⟩, ⟨by rw [ht]; exact hP, hD⟩⟩, hS.F ht⟩) hS.2.2 dX7_paint_187
