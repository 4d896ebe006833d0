set_option maxRecDepth 20000 in
theorem ggX7_frame_X7_colour : GoodIn wsX7_frame wsX7_colour := goodIn_r _ [12] (by decide +kernel) (by decide +kernel)
set_option maxRecDepth 20000 in
theorem gX7_frame_X7_colour : GoodIn wsX7_frame (va_wsS RX7 93 yX7_colour wsX7_colour) := goodIn_app (goodIn_of _ (by decide +kernel)) ggX7_frame_X7_colour
abbrev rmX7_frame : Room := { frames := 1, cells := 1, slots := 65, locals := 20 }
set_option maxHeartbeats 4000000 in
set_option maxRecDepth 100000 in
theorem lX7_frame_w {p : Program} {l : Launch} {e : Env} {s : State} {m : MethodId} {args : Array Value} {below : List Frame} {meth : Method} {c : Code} {Q : State → Prop} {A : Nat → Prop} {H0 : Heap} {cells slots : Nat} (hx : p.tables.exec = Jvm.exec) (hb : c.code = cX7_frame) (hml : c.maxLocals = 10) (hr : meth.sig.returnType = (some (.array .int))) (hts : ∀ w ∈ wsX7_frame, w.before args s = true) (hown : s.vm.findClass RX7 = some m.cls) {G : iG} (hK : KB G s) (hA : ∀ q, H0.size ≤ q → A q) {N : Nat} {ad : Nat → Nat} {C : Nat → va_E} {H : Heap} {locs : List Loc} (hP : va_P G.1 vwB (wl N ad C) H) (hD : va_D A (wl N ad C)) (hS : va_S A H0 H locs)  (hcc : cells ≤ rmX7_frame.cells) (hcs : slots ≤ rmX7_frame.slots) {nr t pz t1 g1 : Nat} (kx : ∀ (w9 : Nat) (ls : Array Slot), w9 ≤ 60 → lv_has ls 10 [(4, .int (nI w9)), (5, .int (nI pz)), (3, .ref (ad nr)), (0, .ref (ad t)), (1, .int (nI t1)), (2, .int (nI g1))] → W p l e rmX7_frame s m args below meth c H locs cells slots Q (F0 m 42 ls [])) : ∀ (d : Nat) (w9 : Nat) (ls : Array Slot), w9 < d → w9 < 2000 → lv_has ls 10 [(4, .int (nI w9)), (5, .int (nI pz)), (3, .ref (ad nr)), (0, .ref (ad t)), (1, .int (nI t1)), (2, .int (nI g1))] → W p l e rmX7_frame s m args below meth c H locs cells slots Q (F0 m 29 ls []) := by
  intro d
  induction d with
  | zero => intro w9 ls hd; exact absurd hd (Nat.not_lt_zero _)
  | succ d ih =>
    intro w9 ls hd h2 hl
    refine lv_iload hx hb dX7_frame_29 (lv_at hl 0 rfl) ?_
    refine lv_bipush (v := nI 60) hx hb dX7_frame_31 (by decide) ?_
    refine lv_icmp_le (tgt := 42) hx hb dX7_frame_33 (by decide) (fun c33 => ?_) (fun c33 => ?_)
    · have h6 : w9 ≤ 60 := (nI_leI (by omega) (by omega)).mp c33
      exact kx w9 ls h6 (lv_sub hl [0, 1, 2, 3, 4, 5] rfl)
    · have h6 : ¬ w9 ≤ 60 := mt (nI_leI (by omega) (by omega)).mpr c33
      refine lv_iinc (v := nI (w9 - 61)) (lv' := [(4, .int (nI (w9 - 61))), (5, .int (nI pz)), (3, .ref (ad nr)), (0, .ref (ad t)), (1, .int (nI t1)), (2, .int (nI g1))]) hx hb dX7_frame_36 hl (k := 0) rfl (show nI w9 + -nI 61 = nI (w9 - 61) from nI_subn (by omega)) (by decide) rfl (fun ls hl => ?_)
      refine lv_goto (tgt := 29) hx hb dX7_frame_39 (by decide) ?_
      exact ih (w9 - 61) ls (by omega) (by omega) (lv_sub hl [0, 1, 2, 3, 4, 5] rfl)
set_option maxRecDepth 20000 in
theorem iu_X7_frame_7 : ∀ w ∈ u_ws RX7 TX7 12, w ∈ wsX7_frame := by decide +kernel
set_option maxRecDepth 20000 in
theorem il_X7_frame_18 : (Cond.fieldLink RX7 18 "BayerGateLaw$Told" "scene" "[[I") ∈ wsX7_frame := by decide +kernel
set_option maxRecDepth 20000 in
theorem il_X7_frame_21 : (Cond.fieldLink RX7 21 "BayerGateLaw$Told" "lamp" "[I") ∈ wsX7_frame := by decide +kernel
set_option maxRecDepth 20000 in
theorem il_X7_frame_96 : (Cond.constantFloat RX7 96 (1082130432)) ∈ wsX7_frame := by decide +kernel
set_option maxRecDepth 20000 in
theorem il_X7_frame_97 : (Cond.constantFloat RX7 97 (1098907648)) ∈ wsX7_frame := by decide +kernel
set_option maxRecDepth 20000 in
theorem il_X7_frame_98 : (Cond.constantFloat RX7 98 (1132396544)) ∈ wsX7_frame := by decide +kernel
set_option maxRecDepth 20000 in
theorem il_X7_frame_25 : (Cond.fieldLink RX7 25 "BayerGateLaw$Told" "how" "[I") ∈ wsX7_frame := by decide +kernel
set_option maxHeartbeats 4000000 in
set_option maxRecDepth 100000 in
theorem lX7_frame {p : Program} {l : Launch} {e : Env} {s : State} {m : MethodId} {args : Array Value} {below : List Frame} {meth : Method} {c : Code} {Q : State → Prop} {A : Nat → Prop} {H0 : Heap} {cells slots : Nat} (hx : p.tables.exec = Jvm.exec) (hb : c.code = cX7_frame) (hml : c.maxLocals = 10) (hr : meth.sig.returnType = (some (.array .int))) (hts : ∀ w ∈ wsX7_frame, w.before args s = true) (hown : s.vm.findClass RX7 = some m.cls) {G : iG} (hK : KB G s) (hA : ∀ q, H0.size ≤ q → A q) {N : Nat} {ad : Nat → Nat} {C : Nat → va_E}  (hcc : cells ≤ rmX7_frame.cells) (hcs : slots ≤ rmX7_frame.slots) {b a1 a4 a5 a6 a7 a8 t gs la ho nr t1 g1 : Nat} {dd dw : Int32} {F9 : Nat → Option Nat} {sc9 : Nat → Nat} {gr9 : Nat → Nat → Int32} {fl : Nat → Int32} {lp sn : Nat → Nat} (lt0 : t < N) (lgs : gs < N) (lla : la < N) (lho : ho < N) (lnr : nr < N) (d1 : t ≠ nr) (d2 : gs ≠ nr) (d3 : la ≠ nr) (d4 : ho ≠ nr) (h0 : C t = ob 7 [.ref a1, .ref b, .int dd, .ref (ad gs), .ref (ad la), .ref (ad ho), .ref a4, .int dw, .ref a5, .ref a6, .ref a7, .ref a8]) (hgs : C gs = ra G 5 64 F9) (hsc : ∀ i, i < 64 → F9 i = some (ad (sc9 i)) ∧ sc9 i < N ∧ sc9 i ≠ nr ∧ C (sc9 i) = ia G 3 (gr9 i) ∧ ∀ q, q < 3 → gr9 i q = nI (sn (3 * i + q))) (hla : C la = ia G 3 fl) (hfl : ∀ i, i < 3 → fl i = nI (lp i)) (hlp : ∀ i, i < 3 → 0 < lp i ∧ lp i < 17) (hho : C ho = ia G 64 (fun _ => nI 0)) (ht1 : 0 < t1 ∧ t1 < 65) (kx : ∀ (w9 : Nat) (f9 : Nat → Int32) (H : Heap) (locs : List Loc) (ls : Array Slot), w9 ≤ 60 → va_P G.1 vwB (wl N ad (va_up C nr (ia G 65 f9))) H → va_D A (wl N ad (va_up C nr (ia G 65 f9))) → va_S A H0 H locs → lv_has ls 10 [(4, .int (nI w9)), (3, .ref (ad nr)), (0, .ref (ad t)), (1, .int (nI t1)), (2, .int (nI g1))] → W p l e rmX7_frame s m args below meth c H locs cells slots Q (F0 m 183 ls [])) : ∀ (d : Nat) (pz w9 : Nat) (f9 : Nat → Int32) (H : Heap) (locs : List Loc) (ls : Array Slot), 64 - pz < d → pz ≤ 64 → w9 ≤ 60 → va_P G.1 vwB (wl N ad (va_up C nr (ia G 65 f9))) H → va_D A (wl N ad (va_up C nr (ia G 65 f9))) → va_S A H0 H locs → lv_has ls 10 [(5, .int (nI pz)), (4, .int (nI w9)), (3, .ref (ad nr)), (0, .ref (ad t)), (1, .int (nI t1)), (2, .int (nI g1))] → W p l e rmX7_frame s m args below meth c H locs cells slots Q (F0 m 14 ls []) := by
  intro d
  induction d with
  | zero => intro pz w9 f9 H locs ls hd; exact absurd hd (Nat.not_lt_zero _)
  | succ d ih =>
    intro pz w9 f9 H locs ls hd h2 h3 hP hD hS hl
    refine lv_iload hx hb dX7_frame_14 (lv_at hl 0 rfl) ?_
    refine lv_bipush (v := nI 64) hx hb dX7_frame_16 (by decide) ?_
    refine lv_icmp_ge (tgt := 183) hx hb dX7_frame_18 (by decide) (fun c18 => ?_) (fun c18 => ?_)
    · have h6 : ¬ pz < 64 := fun h => absurd c18 (mt (nI_leI (by omega) (by omega)).mp (by omega))
      have h7 : pz = 64 := by omega
      subst h7
      exact kx w9 f9 H locs ls h3 hP hD hS (lv_sub hl [1, 2, 3, 4, 5] rfl)
    · have h4 : pz < 64 := by have := mt (nI_leI (by omega) (by omega)).mpr c18; omega
      refine lv_iconst (v := nI 2) hx hb dX7_frame_21 (by decide) ?_
      refine lv_iload hx hb dX7_frame_22 (lv_at hl 1 rfl) ?_
      refine lv_imul hx hb dX7_frame_24 ?_
      refine lv_asI (y := nI (2 * w9)) (pk_mul _ _) ?_
      refine lv_iconst (v := nI 5) hx hb dX7_frame_25 (by decide) ?_
      refine lv_iadd hx hb dX7_frame_26 ?_
      refine lv_asI (y := nI ((2 * w9) + 5)) (nI_add _ _) ?_
      refine lv_istore (lv' := [(4, .int (nI ((2 * w9) + 5))), (5, .int (nI pz)), (3, .ref (ad nr)), (0, .ref (ad t)), (1, .int (nI t1)), (2, .int (nI g1))]) hx hb dX7_frame_27 hl (by decide) rfl (fun ls hl => ?_)
      refine lX7_frame_w hx hb hml hr hts hown hK hA hP hD hS hcc hcs (fun w9 ls h3 hl => ?_) 2000 ((2 * w9) + 5) ls (by omega) (by omega) (lv_sub hl [0, 1, 2, 3, 4, 5] rfl)
      refine lv_iload hx hb dX7_frame_42 (lv_at hl 1 rfl) ?_
      refine iw_pi (va_runS (As := [.int (nI pz)]) (rest := []) ⟨hx, hb, hml, hown, hts⟩ (kX7_colour l pz (by omega)) (va_cwS 1 hts gX7_frame_X7_colour rfl rfl rfl (by decide +kernel) ⟨Nat.le_of_ble_eq_true rfl, Nat.le_of_ble_eq_true rfl⟩) ⟨fun a U g mk q => q, fun U hU hW => ⟨rfl, trivial⟩⟩ rfl rfl hl.1 rfl (lv_room (Nat.le_of_ble_eq_true rfl)) dX7_frame_44 ⟨hcc, hcs⟩) hP hS (fun r8 u8 H locs hw8 hP hS => ?_)
      refine lv_asI hw8 ?_
      have hk3 := clT_lt pz
      refine lv_istore (lv' := [(6, .int (nI (clT pz))), (4, .int (nI w9)), (5, .int (nI pz)), (3, .ref (ad nr)), (0, .ref (ad t)), (1, .int (nI t1)), (2, .int (nI g1))]) hx hb dX7_frame_47 hl (by decide) rfl (fun ls hl => ?_)
      refine lv_aload_n hx hb dX7_frame_49 rfl (lv_at hl 4 rfl) ?_
      refine iw_get hx hb hts iu_X7_frame_7 hown hK hP lt0 ((va_un _ _ (by omega)).trans (h0)) rfl 3 (by decide) (hts _ il_X7_frame_18) (fun _ h9 => h9) rfl dX7_frame_50 ?_
      refine lv_iload hx hb dX7_frame_53 (lv_at hl 2 rfl) ?_
      refine iw_gald (v := ad (sc9 pz)) hx hb hK hP lgs ((va_un _ _ (by omega)).trans (hgs)) (vp_in_nI (show pz < 64 by omega) (by omega)) ((congrArg F9 (nI_clamp (by omega))).trans ((fun i hi => (hsc i hi).1) _ (by omega))) dX7_frame_55 ?_
      obtain ⟨-, ls9, ln9, hs9, hg9⟩ := hsc pz h4
      refine lv_iload hx hb dX7_frame_56 (lv_at hl 0 rfl) ?_
      refine iw_iald (v := (gr9 pz) (clT pz)) hx hb hK hP ls9 ((va_un _ _ (by omega)).trans (hs9)) (vp_in_nI (show clT pz < 3 from hk3) (by omega)) (congrArg (gr9 pz) (nI_clamp (by omega))) dX7_frame_58 ?_
      refine lv_asI (y := nI (sn (3 * pz + clT pz))) (hg9 _ hk3) ?_
      refine lv_i2f hx hb dX7_frame_59 ?_
      refine lv_fstore (lv' := [(7, .float (FP.i2f (nI (sn (3 * pz + clT pz))))), (6, .int (nI (clT pz))), (4, .int (nI w9)), (5, .int (nI pz)), (3, .ref (ad nr)), (0, .ref (ad t)), (1, .int (nI t1)), (2, .int (nI g1))]) hx hb dX7_frame_60 hl (by decide) rfl (fun ls hl => ?_)
      refine lv_fload hx hb dX7_frame_62 (lv_at hl 0 rfl) ?_
      refine lv_aload_n hx hb dX7_frame_64 rfl (lv_at hl 5 rfl) ?_
      refine iw_get hx hb hts iu_X7_frame_7 hown hK hP lt0 ((va_un _ _ (by omega)).trans (h0)) rfl 4 (by decide) (hts _ il_X7_frame_21) (fun _ h9 => h9) rfl dX7_frame_65 ?_
      refine lv_iload hx hb dX7_frame_68 (lv_at hl 1 rfl) ?_
      refine iw_iald (v := fl (clT pz)) hx hb hK hP lla ((va_un _ _ (by omega)).trans (hla)) (vp_in_nI (show clT pz < 3 from hk3) (by omega)) (congrArg fl (nI_clamp (by omega))) dX7_frame_70 ?_
      refine lv_asI (y := nI (lp (clT pz))) (hfl _ hk3) ?_
      refine lv_i2f hx hb dX7_frame_71 ?_
      refine lv_ldcf hx hb hown (hts _ il_X7_frame_96) dX7_frame_72 ?_
      refine lv_fdiv hx hb dX7_frame_74 (fin32_n (finz32_fin (quF_ok _ (hlp _ hk3).2 (hlp _ hk3).1))) ?_
      refine lv_asF (y := quF (lp (clT pz))) rfl ?_
      refine lv_fmul hx hb dX7_frame_75 (fmul_ff (i2f_fin32 _) (finz32_fin (quF_ok _ (hlp _ hk3).2 (hlp _ hk3).1))) ?_
      refine lv_fstore (lv' := [(7, .float (FP.fmul (FP.i2f (nI (sn (3 * pz + clT pz)))) (quF (lp (clT pz))))), (6, .int (nI (clT pz))), (4, .int (nI w9)), (5, .int (nI pz)), (3, .ref (ad nr)), (0, .ref (ad t)), (1, .int (nI t1)), (2, .int (nI g1))]) hx hb dX7_frame_76 hl (by decide) rfl (fun ls hl => ?_)
      refine lv_fload hx hb dX7_frame_78 (lv_at hl 0 rfl) ?_
      refine lv_iload_n hx hb dX7_frame_80 rfl (lv_at hl 6 rfl) ?_
      refine lv_i2f hx hb dX7_frame_81 ?_
      refine lv_fmul hx hb dX7_frame_82 (fmul_nz (fmul_ff (i2f_fin32 _) (finz32_fin (quF_ok _ (hlp _ hk3).2 (hlp _ hk3).1))) (i2f_nz ht1.1 (by omega))) ?_
      refine lv_fstore (lv' := [(7, .float (FP.fmul (FP.fmul (FP.i2f (nI (sn (3 * pz + clT pz)))) (quF (lp (clT pz)))) (FP.i2f (nI t1)))), (6, .int (nI (clT pz))), (4, .int (nI w9)), (5, .int (nI pz)), (3, .ref (ad nr)), (0, .ref (ad t)), (1, .int (nI t1)), (2, .int (nI g1))]) hx hb dX7_frame_83 hl (by decide) rfl (fun ls hl => ?_)
      refine lv_fload hx hb dX7_frame_85 (lv_at hl 0 rfl) ?_
      refine lv_ldcf hx hb hown (hts _ il_X7_frame_97) dX7_frame_87 ?_
      refine lv_fdiv hx hb dX7_frame_89 (fdiv_nz (fmul_nz (fmul_ff (i2f_fin32 _) (finz32_fin (quF_ok _ (hlp _ hk3).2 (hlp _ hk3).1))) (i2f_nz ht1.1 (by omega))) f16_ok) ?_
      refine lv_fstore (lv' := [(7, .float (FP.fdiv (FP.fmul (FP.fmul (FP.i2f (nI (sn (3 * pz + clT pz)))) (quF (lp (clT pz)))) (FP.i2f (nI t1))) (1098907648))), (6, .int (nI (clT pz))), (4, .int (nI w9)), (5, .int (nI pz)), (3, .ref (ad nr)), (0, .ref (ad t)), (1, .int (nI t1)), (2, .int (nI g1))]) hx hb dX7_frame_90 hl (by decide) rfl (fun ls hl => ?_)
      refine lv_fload hx hb dX7_frame_92 (lv_at hl 0 rfl) ?_
      refine lv_ldcf hx hb hown (hts _ il_X7_frame_98) dX7_frame_94 ?_
      refine lv_fcmp hx hb dX7_frame_96 ?_
      refine lv_if_le (tgt := 106) hx hb dX7_frame_97 (by decide) (fun c97 => ?_) (fun c97 => ?_)
      · refine lv_fload hx hb dX7_frame_106 (lv_at hl 0 rfl) ?_
        refine lv_f2i hx hb dX7_frame_108 ?_
        refine lv_istore (lv' := [(8, .int (FP.f2i (FP.fdiv (FP.fmul (FP.fmul (FP.i2f (nI (sn (3 * pz + clT pz)))) (quF (lp (clT pz)))) (FP.i2f (nI t1))) (1098907648)))), (7, .float (FP.fdiv (FP.fmul (FP.fmul (FP.i2f (nI (sn (3 * pz + clT pz)))) (quF (lp (clT pz)))) (FP.i2f (nI t1))) (1098907648))), (6, .int (nI (clT pz))), (4, .int (nI w9)), (5, .int (nI pz)), (3, .ref (ad nr)), (0, .ref (ad t)), (1, .int (nI t1)), (2, .int (nI g1))]) hx hb dX7_frame_109 hl (by decide) rfl (fun ls hl => ?_)
        refine lv_bipush (v := nI 12) hx hb dX7_frame_111 (by decide) ?_
        refine lv_iload hx hb dX7_frame_113 (lv_at hl 0 rfl) ?_
        refine lv_iload_n hx hb dX7_frame_115 rfl (lv_at hl 8 rfl) ?_
        refine lv_imul hx hb dX7_frame_116 ?_
        refine lv_iadd hx hb dX7_frame_117 ?_
        refine lv_iload hx hb dX7_frame_118 (lv_at hl 3 rfl) ?_
        refine lv_bipush (v := nI 8) hx hb dX7_frame_120 (by decide) ?_
        refine lv_irem hx hb dX7_frame_122 (by decide) ?_
        refine lv_asI (y := nI (w9 % 8)) (pk_rem (by omega) (by omega) (by omega)) ?_
        refine lv_iadd hx hb dX7_frame_123 ?_
        refine lv_istore (lv' := [(9, .int (((nI 12) + ((FP.f2i (FP.fdiv (FP.fmul (FP.fmul (FP.i2f (nI (sn (3 * pz + clT pz)))) (quF (lp (clT pz)))) (FP.i2f (nI t1))) (1098907648))) * (nI g1))) + (nI (w9 % 8)))), (8, .int (FP.f2i (FP.fdiv (FP.fmul (FP.fmul (FP.i2f (nI (sn (3 * pz + clT pz)))) (quF (lp (clT pz)))) (FP.i2f (nI t1))) (1098907648)))), (7, .float (FP.fdiv (FP.fmul (FP.fmul (FP.i2f (nI (sn (3 * pz + clT pz)))) (quF (lp (clT pz)))) (FP.i2f (nI t1))) (1098907648))), (6, .int (nI (clT pz))), (4, .int (nI w9)), (5, .int (nI pz)), (3, .ref (ad nr)), (0, .ref (ad t)), (1, .int (nI t1)), (2, .int (nI g1))]) hx hb dX7_frame_124 hl (by decide) rfl (fun ls hl => ?_)
        refine lv_aload_n hx hb dX7_frame_126 rfl (lv_at hl 6 rfl) ?_
        refine lv_iload hx hb dX7_frame_127 (lv_at hl 5 rfl) ?_
        refine lv_aload_n hx hb dX7_frame_129 rfl (lv_at hl 7 rfl) ?_
        refine iw_get hx hb hts iu_X7_frame_7 hown hK hP lt0 ((va_un _ _ (by omega)).trans (h0)) rfl 5 (by decide) (hts _ il_X7_frame_25) (fun _ h9 => h9) rfl dX7_frame_130 ?_
        refine lv_iload hx hb dX7_frame_133 (lv_at hl 5 rfl) ?_
        refine iw_iald (v := nI 0) hx hb hK hP lho ((va_un _ _ (by omega)).trans (hho)) (vp_in_nI (show pz < 64 by omega) (by omega)) (rfl) dX7_frame_135 ?_
        refine lv_iconst (v := nI 1) hx hb dX7_frame_136 (by decide) ?_
        refine lv_icmp_eq (tgt := 145) hx hb dX7_frame_137 (by decide) (fun c9 => absurd c9 (by decide)) (fun _ => ?_)
        refine lv_iload hx hb dX7_frame_140 (lv_at hl 0 rfl) ?_
        refine lv_if_ge (tgt := 149) hx hb dX7_frame_142 (by decide) (fun c142 => ?_) (fun c142 => ?_)
        · refine lv_aload_n hx hb dX7_frame_149 rfl (lv_at hl 7 rfl) ?_
          refine iw_get hx hb hts iu_X7_frame_7 hown hK hP lt0 ((va_un _ _ (by omega)).trans (h0)) rfl 5 (by decide) (hts _ il_X7_frame_25) (fun _ h9 => h9) rfl dX7_frame_150 ?_
          refine lv_iload hx hb dX7_frame_153 (lv_at hl 5 rfl) ?_
          refine iw_iald (v := nI 0) hx hb hK hP lho ((va_un _ _ (by omega)).trans (hho)) (vp_in_nI (show pz < 64 by omega) (by omega)) (rfl) dX7_frame_155 ?_
          refine lv_iconst (v := nI 2) hx hb dX7_frame_156 (by decide) ?_
          refine lv_icmp_eq (tgt := 168) hx hb dX7_frame_157 (by decide) (fun c9 => absurd c9 (by decide)) (fun _ => ?_)
          refine lv_iload hx hb dX7_frame_160 (lv_at hl 0 rfl) ?_
          refine lv_sipush (v := nI 255) hx hb dX7_frame_162 (by decide) ?_
          refine lv_icmp_le (tgt := 174) hx hb dX7_frame_165 (by decide) (fun c165 => ?_) (fun c165 => ?_)
          · refine lv_iload hx hb dX7_frame_174 (lv_at hl 0 rfl) ?_
            refine iw_iast hx hb hK hP hD hS lnr (va_us _ _ _) (vp_in_nI (show pz < 65 by omega) (by omega)) (nI_clamp (by omega)) dX7_frame_176 (fun H locs hP hD hS => ?_)
            rw [va_uu _ _ _ _] at hP hD
            refine lv_iinc (v := nI (pz + 1)) (lv' := [(5, .int (nI (pz + 1))), (9, .int (((nI 12) + ((FP.f2i (FP.fdiv (FP.fmul (FP.fmul (FP.i2f (nI (sn (3 * pz + clT pz)))) (quF (lp (clT pz)))) (FP.i2f (nI t1))) (1098907648))) * (nI g1))) + (nI (w9 % 8)))), (8, .int (FP.f2i (FP.fdiv (FP.fmul (FP.fmul (FP.i2f (nI (sn (3 * pz + clT pz)))) (quF (lp (clT pz)))) (FP.i2f (nI t1))) (1098907648)))), (7, .float (FP.fdiv (FP.fmul (FP.fmul (FP.i2f (nI (sn (3 * pz + clT pz)))) (quF (lp (clT pz)))) (FP.i2f (nI t1))) (1098907648))), (6, .int (nI (clT pz))), (4, .int (nI w9)), (3, .ref (ad nr)), (0, .ref (ad t)), (1, .int (nI t1)), (2, .int (nI g1))]) hx hb dX7_frame_177 hl (k := 5) rfl (iinc_nat _ 1) (by decide) rfl (fun ls hl => ?_)
            refine lv_goto (tgt := 14) hx hb dX7_frame_180 (by decide) ?_
            exact ih (pz + 1) w9 (upd f9 pz (((nI 12) + ((FP.f2i (FP.fdiv (FP.fmul (FP.fmul (FP.i2f (nI (sn (3 * pz + clT pz)))) (quF (lp (clT pz)))) (FP.i2f (nI t1))) (1098907648))) * (nI g1))) + (nI (w9 % 8)))) H locs ls (by omega) (by omega) (by omega) hP hD hS (lv_sub hl [0, 5, 6, 7, 8, 9] rfl)
          · refine lv_sipush (v := nI 255) hx hb dX7_frame_168 (by decide) ?_
            refine lv_goto (tgt := 176) hx hb dX7_frame_171 (by decide) ?_
            refine iw_iast hx hb hK hP hD hS lnr (va_us _ _ _) (vp_in_nI (show pz < 65 by omega) (by omega)) (nI_clamp (by omega)) dX7_frame_176 (fun H locs hP hD hS => ?_)
            rw [va_uu _ _ _ _] at hP hD
            refine lv_iinc (v := nI (pz + 1)) (lv' := [(5, .int (nI (pz + 1))), (9, .int (((nI 12) + ((FP.f2i (FP.fdiv (FP.fmul (FP.fmul (FP.i2f (nI (sn (3 * pz + clT pz)))) (quF (lp (clT pz)))) (FP.i2f (nI t1))) (1098907648))) * (nI g1))) + (nI (w9 % 8)))), (8, .int (FP.f2i (FP.fdiv (FP.fmul (FP.fmul (FP.i2f (nI (sn (3 * pz + clT pz)))) (quF (lp (clT pz)))) (FP.i2f (nI t1))) (1098907648)))), (7, .float (FP.fdiv (FP.fmul (FP.fmul (FP.i2f (nI (sn (3 * pz + clT pz)))) (quF (lp (clT pz)))) (FP.i2f (nI t1))) (1098907648))), (6, .int (nI (clT pz))), (4, .int (nI w9)), (3, .ref (ad nr)), (0, .ref (ad t)), (1, .int (nI t1)), (2, .int (nI g1))]) hx hb dX7_frame_177 hl (k := 5) rfl (iinc_nat _ 1) (by decide) rfl (fun ls hl => ?_)
            refine lv_goto (tgt := 14) hx hb dX7_frame_180 (by decide) ?_
            exact ih (pz + 1) w9 (upd f9 pz (nI 255)) H locs ls (by omega) (by omega) (by omega) hP hD hS (lv_sub hl [0, 5, 6, 7, 8, 9] rfl)
        · refine lv_iconst (v := nI 0) hx hb dX7_frame_145 (by decide) ?_
          refine lv_goto (tgt := 176) hx hb dX7_frame_146 (by decide) ?_
          refine iw_iast hx hb hK hP hD hS lnr (va_us _ _ _) (vp_in_nI (show pz < 65 by omega) (by omega)) (nI_clamp (by omega)) dX7_frame_176 (fun H locs hP hD hS => ?_)
          rw [va_uu _ _ _ _] at hP hD
          refine lv_iinc (v := nI (pz + 1)) (lv' := [(5, .int (nI (pz + 1))), (9, .int (((nI 12) + ((FP.f2i (FP.fdiv (FP.fmul (FP.fmul (FP.i2f (nI (sn (3 * pz + clT pz)))) (quF (lp (clT pz)))) (FP.i2f (nI t1))) (1098907648))) * (nI g1))) + (nI (w9 % 8)))), (8, .int (FP.f2i (FP.fdiv (FP.fmul (FP.fmul (FP.i2f (nI (sn (3 * pz + clT pz)))) (quF (lp (clT pz)))) (FP.i2f (nI t1))) (1098907648)))), (7, .float (FP.fdiv (FP.fmul (FP.fmul (FP.i2f (nI (sn (3 * pz + clT pz)))) (quF (lp (clT pz)))) (FP.i2f (nI t1))) (1098907648))), (6, .int (nI (clT pz))), (4, .int (nI w9)), (3, .ref (ad nr)), (0, .ref (ad t)), (1, .int (nI t1)), (2, .int (nI g1))]) hx hb dX7_frame_177 hl (k := 5) rfl (iinc_nat _ 1) (by decide) rfl (fun ls hl => ?_)
          refine lv_goto (tgt := 14) hx hb dX7_frame_180 (by decide) ?_
          exact ih (pz + 1) w9 (upd f9 pz (nI 0)) H locs ls (by omega) (by omega) (by omega) hP hD hS (lv_sub hl [0, 5, 6, 7, 8, 9] rfl)
      · refine lv_sipush (v := nI 255) hx hb dX7_frame_100 (by decide) ?_
        refine lv_goto (tgt := 109) hx hb dX7_frame_103 (by decide) ?_
        refine lv_istore (lv' := [(8, .int (nI 255)), (7, .float (FP.fdiv (FP.fmul (FP.fmul (FP.i2f (nI (sn (3 * pz + clT pz)))) (quF (lp (clT pz)))) (FP.i2f (nI t1))) (1098907648))), (6, .int (nI (clT pz))), (4, .int (nI w9)), (5, .int (nI pz)), (3, .ref (ad nr)), (0, .ref (ad t)), (1, .int (nI t1)), (2, .int (nI g1))]) hx hb dX7_frame_109 hl (by decide) rfl (fun ls hl => ?_)
        refine lv_bipush (v := nI 12) hx hb dX7_frame_111 (by decide) ?_
        refine lv_iload hx hb dX7_frame_113 (lv_at hl 0 rfl) ?_
        refine lv_iload_n hx hb dX7_frame_115 rfl (lv_at hl 8 rfl) ?_
        refine lv_imul hx hb dX7_frame_116 ?_
        refine lv_asI (y := nI (255 * g1)) (pk_mul _ _) ?_
        refine lv_iadd hx hb dX7_frame_117 ?_
        refine lv_asI (y := nI (12 + (255 * g1))) (nI_add _ _) ?_
        refine lv_iload hx hb dX7_frame_118 (lv_at hl 3 rfl) ?_
        refine lv_bipush (v := nI 8) hx hb dX7_frame_120 (by decide) ?_
        refine lv_irem hx hb dX7_frame_122 (by decide) ?_
        refine lv_asI (y := nI (w9 % 8)) (pk_rem (by omega) (by omega) (by omega)) ?_
        refine lv_iadd hx hb dX7_frame_123 ?_
        refine lv_asI (y := nI ((12 + (255 * g1)) + (w9 % 8))) (nI_add _ _) ?_
        refine lv_istore (lv' := [(9, .int (nI ((12 + (255 * g1)) + (w9 % 8)))), (8, .int (nI 255)), (7, .float (FP.fdiv (FP.fmul (FP.fmul (FP.i2f (nI (sn (3 * pz + clT pz)))) (quF (lp (clT pz)))) (FP.i2f (nI t1))) (1098907648))), (6, .int (nI (clT pz))), (4, .int (nI w9)), (5, .int (nI pz)), (3, .ref (ad nr)), (0, .ref (ad t)), (1, .int (nI t1)), (2, .int (nI g1))]) hx hb dX7_frame_124 hl (by decide) rfl (fun ls hl => ?_)
        refine lv_aload_n hx hb dX7_frame_126 rfl (lv_at hl 6 rfl) ?_
        refine lv_iload hx hb dX7_frame_127 (lv_at hl 5 rfl) ?_
        refine lv_aload_n hx hb dX7_frame_129 rfl (lv_at hl 7 rfl) ?_
        refine iw_get hx hb hts iu_X7_frame_7 hown hK hP lt0 ((va_un _ _ (by omega)).trans (h0)) rfl 5 (by decide) (hts _ il_X7_frame_25) (fun _ h9 => h9) rfl dX7_frame_130 ?_
        refine lv_iload hx hb dX7_frame_133 (lv_at hl 5 rfl) ?_
        refine iw_iald (v := nI 0) hx hb hK hP lho ((va_un _ _ (by omega)).trans (hho)) (vp_in_nI (show pz < 64 by omega) (by omega)) (rfl) dX7_frame_135 ?_
        refine lv_iconst (v := nI 1) hx hb dX7_frame_136 (by decide) ?_
        refine lv_icmp_eq (tgt := 145) hx hb dX7_frame_137 (by decide) (fun c9 => absurd c9 (by decide)) (fun _ => ?_)
        refine lv_iload hx hb dX7_frame_140 (lv_at hl 0 rfl) ?_
        refine lv_if_ge (tgt := 149) hx hb dX7_frame_142 (by decide) (fun c142 => ?_) (fun c142 => ?_)
        · refine lv_aload_n hx hb dX7_frame_149 rfl (lv_at hl 7 rfl) ?_
          refine iw_get hx hb hts iu_X7_frame_7 hown hK hP lt0 ((va_un _ _ (by omega)).trans (h0)) rfl 5 (by decide) (hts _ il_X7_frame_25) (fun _ h9 => h9) rfl dX7_frame_150 ?_
          refine lv_iload hx hb dX7_frame_153 (lv_at hl 5 rfl) ?_
          refine iw_iald (v := nI 0) hx hb hK hP lho ((va_un _ _ (by omega)).trans (hho)) (vp_in_nI (show pz < 64 by omega) (by omega)) (rfl) dX7_frame_155 ?_
          refine lv_iconst (v := nI 2) hx hb dX7_frame_156 (by decide) ?_
          refine lv_icmp_eq (tgt := 168) hx hb dX7_frame_157 (by decide) (fun c9 => absurd c9 (by decide)) (fun _ => ?_)
          refine lv_iload hx hb dX7_frame_160 (lv_at hl 0 rfl) ?_
          refine lv_sipush (v := nI 255) hx hb dX7_frame_162 (by decide) ?_
          refine lv_icmp_le (tgt := 174) hx hb dX7_frame_165 (by decide) (fun c165 => ?_) (fun c165 => ?_)
          · refine lv_iload hx hb dX7_frame_174 (lv_at hl 0 rfl) ?_
            refine iw_iast hx hb hK hP hD hS lnr (va_us _ _ _) (vp_in_nI (show pz < 65 by omega) (by omega)) (nI_clamp (by omega)) dX7_frame_176 (fun H locs hP hD hS => ?_)
            rw [va_uu _ _ _ _] at hP hD
            refine lv_iinc (v := nI (pz + 1)) (lv' := [(5, .int (nI (pz + 1))), (9, .int (nI ((12 + (255 * g1)) + (w9 % 8)))), (8, .int (nI 255)), (7, .float (FP.fdiv (FP.fmul (FP.fmul (FP.i2f (nI (sn (3 * pz + clT pz)))) (quF (lp (clT pz)))) (FP.i2f (nI t1))) (1098907648))), (6, .int (nI (clT pz))), (4, .int (nI w9)), (3, .ref (ad nr)), (0, .ref (ad t)), (1, .int (nI t1)), (2, .int (nI g1))]) hx hb dX7_frame_177 hl (k := 5) rfl (iinc_nat _ 1) (by decide) rfl (fun ls hl => ?_)
            refine lv_goto (tgt := 14) hx hb dX7_frame_180 (by decide) ?_
            exact ih (pz + 1) w9 (upd f9 pz (nI ((12 + (255 * g1)) + (w9 % 8)))) H locs ls (by omega) (by omega) (by omega) hP hD hS (lv_sub hl [0, 5, 6, 7, 8, 9] rfl)
          · refine lv_sipush (v := nI 255) hx hb dX7_frame_168 (by decide) ?_
            refine lv_goto (tgt := 176) hx hb dX7_frame_171 (by decide) ?_
            refine iw_iast hx hb hK hP hD hS lnr (va_us _ _ _) (vp_in_nI (show pz < 65 by omega) (by omega)) (nI_clamp (by omega)) dX7_frame_176 (fun H locs hP hD hS => ?_)
            rw [va_uu _ _ _ _] at hP hD
            refine lv_iinc (v := nI (pz + 1)) (lv' := [(5, .int (nI (pz + 1))), (9, .int (nI ((12 + (255 * g1)) + (w9 % 8)))), (8, .int (nI 255)), (7, .float (FP.fdiv (FP.fmul (FP.fmul (FP.i2f (nI (sn (3 * pz + clT pz)))) (quF (lp (clT pz)))) (FP.i2f (nI t1))) (1098907648))), (6, .int (nI (clT pz))), (4, .int (nI w9)), (3, .ref (ad nr)), (0, .ref (ad t)), (1, .int (nI t1)), (2, .int (nI g1))]) hx hb dX7_frame_177 hl (k := 5) rfl (iinc_nat _ 1) (by decide) rfl (fun ls hl => ?_)
            refine lv_goto (tgt := 14) hx hb dX7_frame_180 (by decide) ?_
            exact ih (pz + 1) w9 (upd f9 pz (nI 255)) H locs ls (by omega) (by omega) (by omega) hP hD hS (lv_sub hl [0, 5, 6, 7, 8, 9] rfl)
        · refine lv_iconst (v := nI 0) hx hb dX7_frame_145 (by decide) ?_
          refine lv_goto (tgt := 176) hx hb dX7_frame_146 (by decide) ?_
          refine iw_iast hx hb hK hP hD hS lnr (va_us _ _ _) (vp_in_nI (show pz < 65 by omega) (by omega)) (nI_clamp (by omega)) dX7_frame_176 (fun H locs hP hD hS => ?_)
          rw [va_uu _ _ _ _] at hP hD
          refine lv_iinc (v := nI (pz + 1)) (lv' := [(5, .int (nI (pz + 1))), (9, .int (nI ((12 + (255 * g1)) + (w9 % 8)))), (8, .int (nI 255)), (7, .float (FP.fdiv (FP.fmul (FP.fmul (FP.i2f (nI (sn (3 * pz + clT pz)))) (quF (lp (clT pz)))) (FP.i2f (nI t1))) (1098907648))), (6, .int (nI (clT pz))), (4, .int (nI w9)), (3, .ref (ad nr)), (0, .ref (ad t)), (1, .int (nI t1)), (2, .int (nI g1))]) hx hb dX7_frame_177 hl (k := 5) rfl (iinc_nat _ 1) (by decide) rfl (fun ls hl => ?_)
          refine lv_goto (tgt := 14) hx hb dX7_frame_180 (by decide) ?_
          exact ih (pz + 1) w9 (upd f9 pz (nI 0)) H locs ls (by omega) (by omega) (by omega) hP hD hS (lv_sub hl [0, 5, 6, 7, 8, 9] rfl)
set_option maxRecDepth 20000 in
theorem il_X7_frame_arrint : (Cond.arrayClass .int) ∈ wsX7_frame := by decide +kernel
set_option maxRecDepth 20000 in
theorem il_X7_frame_91 : (Cond.fieldLink RX7 91 "BayerGateLaw$Told" "draw" "I") ∈ wsX7_frame := by decide +kernel
set_option maxHeartbeats 4000000 in
set_option maxRecDepth 100000 in
theorem kX7_frame (l : Launch) (G : iG) (N : Nat) (ad : Nat → Nat) (C : Nat → va_E) (h147 : 147 ≤ N) (sn : Nat → Nat) (hts0 : isTs G ad C N sn) {b d : Nat} {a8 a9 a10 a11 : Nat} (h0 : C 0 = ob 7 [.ref (ad 1), .ref b, .int (nI d), .ref (ad 75), .ref (ad 140), .ref (ad 141), .ref (ad 142), .int (nI 0), .ref a8, .ref a9, .ref a10, .ref a11]) {fl : Nat → Int32} {lp : Nat → Nat} (hfl0 : C 140 = ia G 3 fl) (hfl : ∀ i, i < 3 → fl i = nI (lp i)) (hlp : ∀ i, i < 3 → 0 < lp i ∧ lp i < 17) (hho : C 141 = ia G 64 (fun _ => nI 0)) (t1 g1 : Nat) (ht1 : 0 < t1 ∧ t1 < 65) (sz : Nat) : Met l yX7_frame wsX7_frame rmX7_frame (iPre G (N) ad C sz [.ref (ad 0), .int (nI t1), .int (nI g1)]) (va_Qr (fun (u : iU) => (∀ j, j < N → u.1 j = ad j) ∧ (∀ j, j < N → u.2 j = C j) ∧ ∃ f : Nat → Int32, u.2 N = ia G 65 f) (fun u a t => iB2 G (N + 1) (iA (N) ad sz) u t ∧ a = u.1 (N)) (iA (N) ad sz)) 1 65 (iA (N) ad sz) := by
  refine Met.ofW (cc := cX7_frame) (maxL := 10) (ret := (some (.array .int))) (by decide) rfl ?_
  intro p e s m args below meth c s₁ B hml hv
  obtain ⟨rfl, hsz, hP, hK, hD0⟩ := hv
  have hx := B.exec
  have hb := B.bytes
  have hr := B.returns
  have hts := atoms_spec (ws := wsX7_frame) B.pre
  have hown : s.vm.findClass RX7 = some m.cls := findClass_of_methodNamed B.named
  have hlocks := B.notSynchronized
  subst hsz
  have hD := wl_self hD0 s.heap.size
  have hA : ∀ q : Nat, s.heap.size ≤ q → iA (N) ad s.heap.size q := fun q h => Or.inr h
  have hS : va_S (iA (N) ad s.heap.size) s.heap s.heap [] := va_S.rf
  have hP : va_P G.1 vwB (wl (N) ad C) s.heap := hP
  have hl := lv_entry ([.ref (ad 0), .int (nI t1), .int (nI g1)]) (n := 10) (Nat.le_of_ble_eq_true rfl)
  rw [lg_entry_eq]
  generalize (lg_sl ([.ref (ad 0), .int (nI t1), .int (nI g1)]) ++ List.replicate (10 - (lg_sl ([.ref (ad 0), .int (nI t1), .int (nI g1)])).length) Slot.unset).toArray = ls at hl ⊢
  have hl : lv_has ls 10 [(0, .ref (ad 0)), (1, .int (nI t1)), (2, .int (nI g1))] := hl
  refine lv_bipush (v := nI 65) hx hb dX7_frame_0 (by decide) ?_
  refine iw_newI (N' := 65) hx hb (hts _ il_X7_frame_arrint) hK hP hD hS hA (by decide) (by decide) (Nat.le_of_ble_eq_true rfl) (Nat.le_of_ble_eq_true rfl) (Nat.le_of_ble_eq_true rfl) dX7_frame_2 (fun ad1 C1 H e1 c1 n1 hP hD hS => ?_)
  have k1_0 : C1 0 = ob 7 [.ref (ad1 1), .ref b, .int (nI d), .ref (ad1 75), .ref (ad1 140), .ref (ad1 141), .ref (ad1 142), .int (nI 0), .ref a8, .ref a9, .ref a10, .ref a11] := (c1 _ (by omega)).trans ((h0).trans (by first | (rw [e1 1 (by omega), e1 75 (by omega), e1 140 (by omega), e1 141 (by omega), e1 142 (by omega)]; done) | (rw [e1 1 (by omega), e1 75 (by omega), e1 140 (by omega), e1 141 (by omega), e1 142 (by omega)]; rfl)))
  have k1_140 : C1 140 = ia G 3 fl := (c1 _ (by omega)).trans (hfl0)
  have k1_141 : C1 141 = ia G 64 (fun _ => nI 0) := (c1 _ (by omega)).trans (hho)
  have q1_ts := isTs_gr e1 c1 (by omega) (by omega) hts0
  have ea1 : ∀ j, j < N → ad1 j = ad j := fun j h => e1 j (by omega)
  have ca1 : ∀ j, j < N → C1 j = C j := fun j h => (c1 j (by omega)).trans (rfl)
  have hl : lv_has ls 10 [(0, .ref (ad1 0)), (1, .int (nI t1)), (2, .int (nI g1))] := by rw [e1 0 (by omega)]; exact hl
  refine lv_astore_n (lv' := [(3, .ref (ad1 N)), (0, .ref (ad1 0)), (1, .int (nI t1)), (2, .int (nI g1))]) hx hb dX7_frame_4 rfl hl (by decide) rfl (fun ls hl => ?_)
  refine lv_aload_n hx hb dX7_frame_5 rfl (lv_at hl 1 rfl) ?_
  refine iw_get hx hb hts iu_X7_frame_7 hown hK hP (by omega) (k1_0) rfl 7 (by decide) (hts _ il_X7_frame_91) (fun _ h9 => h9) rfl dX7_frame_6 ?_
  refine lv_istore (lv' := [(4, .int (nI 0)), (3, .ref (ad1 N)), (0, .ref (ad1 0)), (1, .int (nI t1)), (2, .int (nI g1))]) hx hb dX7_frame_9 hl (by decide) rfl (fun ls hl => ?_)
  refine lv_iconst (v := nI 0) hx hb dX7_frame_11 (by decide) ?_
  refine lv_istore (lv' := [(5, .int (nI 0)), (4, .int (nI 0)), (3, .ref (ad1 N)), (0, .ref (ad1 0)), (1, .int (nI t1)), (2, .int (nI g1))]) hx hb dX7_frame_12 hl (by decide) rfl (fun ls hl => ?_)
  have tsx : isTs G ad1 (C1) N sn := q1_ts
  obtain ⟨hB9, F9, sc9, gr9, g75, hsc⟩ := tsx
  have hsc2 : ∀ i, i < 64 → F9 i = some (ad1 (sc9 i)) ∧ sc9 i < N + 1 ∧ sc9 i ≠ N ∧ C1 (sc9 i) = ia G 3 (gr9 i) ∧ ∀ q, q < 3 → gr9 i q = nI (sn (3 * i + q)) := fun i hi => by
    obtain ⟨a1, a2, a3, a4, a5, a6⟩ := hsc i hi
    exact ⟨a1, by omega, by omega, a5, a6⟩
  have hP := wl_selfE hP (n1)
  have hD := wl_D hD (va_up C1 N (ia G 65 (fun _ => nI 0)))
  refine lX7_frame (N := N + 1) hx hb hml hr hts hown hK hA (Nat.le_refl _) (Nat.le_refl _) (t := 0) (gs := 75) (la := 140) (ho := 141) (nr := N) (sc9 := sc9) (lp := lp) (by omega) (by omega) (by omega) (by omega) (by omega) (by omega) (by omega) (by omega) (by omega) (k1_0) g75 hsc2 (k1_140) hfl hlp (k1_141) ht1 (fun w9 f9 H locs ls h3 hP hD hS hl => ?_) 65 0 0 _ _ _ ls (by omega) (by omega) (by omega) hP hD hS (lv_sub hl [0, 1, 2, 3, 4, 5] rfl)
  refine lv_aload_n hx hb dX7_frame_183 rfl (lv_at hl 1 rfl) ?_
  refine lv_bipush (v := nI 64) hx hb dX7_frame_184 (by decide) ?_
  refine lv_iload hx hb dX7_frame_186 (lv_at hl 0 rfl) ?_
  refine iw_iast hx hb hK hP hD hS (by omega) (va_us _ _ _) (vp_in_nI (show 64 < 65 by omega) (by omega)) (nI_clamp (by omega)) dX7_frame_188 (fun H locs hP hD hS => ?_)
  rw [va_uu _ _ _ _] at hP hD
  refine lv_aload_n hx hb dX7_frame_189 rfl (lv_at hl 1 rfl) ?_
  refine W.widen (k := 1) (n := 65) (Nat.le_of_ble_eq_true rfl) (Nat.le_of_ble_eq_true rfl) ?_
  have z_N : (va_up C1 N (ia G 65 (upd f9 64 (nI w9)))) N = ia G 65 (upd f9 64 (nI w9)) := va_us _ _ _
  exact W.aret hx hb hr (Or.inr ⟨_, rfl⟩) (Or.inr ⟨_, rfl⟩) (fun t ht hW => ⟨⟨(ad1, va_up C1 N (ia G 65 (upd f9 64 (nI w9)))), _, rfl, ⟨ea1, fun j h => (va_un _ _ (by omega)).trans (ca1 j h), ⟨upd f9 64 (nI w9), z_N⟩⟩, ⟨by rw [ht]; exact hP, hD⟩, rfl⟩, hS.F ht⟩) hS.2.2 dX7_frame_190
