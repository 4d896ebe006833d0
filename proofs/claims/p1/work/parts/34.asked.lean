set_option maxRecDepth 20000 in
theorem ggX6_ofPlace_X6_placeOf : GoodIn wsX6_ofPlace wsX6_placeOf := goodIn_r _ [19] (by decide +kernel) (by decide +kernel)
set_option maxRecDepth 20000 in
theorem gX6_ofPlace_X6_placeOf : GoodIn wsX6_ofPlace (va_wsS RX6 74 yX6_placeOf wsX6_placeOf) := goodIn_app (goodIn_of _ (by decide +kernel)) ggX6_ofPlace_X6_placeOf
set_option maxRecDepth 20000 in
theorem ggX6_ofPlace_X3_shade : GoodIn wsX6_ofPlace wsX3_shade := goodIn_r _ [24, 25, 49, 50, 51] (by decide +kernel) (by decide +kernel)
set_option maxRecDepth 20000 in
theorem gX6_ofPlace_X3_shade : GoodIn wsX6_ofPlace (wsV RX6 218 RX3 yX3_shade wsX3_shade) := goodIn_app (goodIn_of _ (by decide +kernel)) ggX6_ofPlace_X3_shade
set_option maxRecDepth 20000 in
theorem ggX6_ofPlace_X6_colourSeen : GoodIn wsX6_ofPlace wsX6_colourSeen := goodIn_r _ [28] (by decide +kernel) (by decide +kernel)
set_option maxRecDepth 20000 in
theorem gX6_ofPlace_X6_colourSeen : GoodIn wsX6_ofPlace (va_wsS RX6 221 yX6_colourSeen wsX6_colourSeen) := goodIn_app (goodIn_of _ (by decide +kernel)) ggX6_ofPlace_X6_colourSeen
set_option maxRecDepth 20000 in
theorem ggX6_ofPlace_X4_howIs : GoodIn wsX6_ofPlace wsX4_howIs := goodIn_r _ [33, 34, 52, 53, 54] (by decide +kernel) (by decide +kernel)
set_option maxRecDepth 20000 in
theorem gX6_ofPlace_X4_howIs : GoodIn wsX6_ofPlace (wsV RX6 88 RX4 yX4_howIs wsX4_howIs) := goodIn_app (goodIn_of _ (by decide +kernel)) ggX6_ofPlace_X4_howIs
set_option maxRecDepth 20000 in
theorem ggX6_ofPlace_X4_isMapped : GoodIn wsX6_ofPlace wsX4_isMapped := goodIn_r _ [38, 39, 52, 53, 54] (by decide +kernel) (by decide +kernel)
set_option maxRecDepth 20000 in
theorem gX6_ofPlace_X4_isMapped : GoodIn wsX6_ofPlace (wsV RX6 224 RX4 yX4_isMapped wsX4_isMapped) := goodIn_app (goodIn_of _ (by decide +kernel)) ggX6_ofPlace_X4_isMapped
set_option maxRecDepth 20000 in
theorem ggX6_wouldClip_X4_expose : GoodIn wsX6_wouldClip wsX4_expose := goodIn_r _ [17, 18, 19, 20, 6, 21, 22, 23, 24, 25, 26, 27, 28, 29, 30, 31, 32, 33, 34, 35, 36, 37, 16, 38, 39, 40, 41, 42, 43, 44, 45, 61, 62, 63, 64, 65, 66, 67, 68, 69, 70, 71] (by decide +kernel) (by decide +kernel)
set_option maxRecDepth 20000 in
theorem gX6_wouldClip_X4_expose : GoodIn wsX6_wouldClip (wsV RX6 108 RX4 yX4_expose wsX4_expose) := goodIn_app (goodIn_of _ (by decide +kernel)) ggX6_wouldClip_X4_expose
set_option maxRecDepth 20000 in
theorem ggX6_wouldClip_X1_countClipped : GoodIn wsX6_wouldClip wsX1_countClipped := goodIn_r _ [50, 51, 64, 65, 66, 67, 68] (by decide +kernel) (by decide +kernel)
set_option maxRecDepth 20000 in
theorem gX6_wouldClip_X1_countClipped : GoodIn wsX6_wouldClip (wsV RX6 183 RX1 yX1_countClipped wsX1_countClipped) := goodIn_app (goodIn_of _ (by decide +kernel)) ggX6_wouldClip_X1_countClipped
set_option maxRecDepth 20000 in
theorem ggX6_many_X4_countMapped : GoodIn wsX6_many wsX4_countMapped := goodIn_r _ [14, 15, 41, 42, 43] (by decide +kernel) (by decide +kernel)
set_option maxRecDepth 20000 in
theorem gX6_many_X4_countMapped : GoodIn wsX6_many (wsV RX6 99 RX4 yX4_countMapped wsX4_countMapped) := goodIn_app (goodIn_of _ (by decide +kernel)) ggX6_many_X4_countMapped
set_option maxRecDepth 20000 in
theorem ggX6_many_X6_countEdits : GoodIn wsX6_many wsX6_countEdits := goodIn_r _ [19, 1, 20, 21, 22, 23, 24, 25, 26, 32, 33, 34, 35, 36, 37, 38, 39, 40, 44, 45, 46, 47, 48, 49, 50, 51] (by decide +kernel) (by decide +kernel)
set_option maxRecDepth 20000 in
theorem gX6_many_X6_countEdits : GoodIn wsX6_many (wsV RX6 231 RX6 yX6_countEdits wsX6_countEdits) := goodIn_app (goodIn_of _ (by decide +kernel)) ggX6_many_X6_countEdits
set_option maxRecDepth 20000 in
theorem ggX6_many_X4_countSpoilt : GoodIn wsX6_many wsX4_countSpoilt := goodIn_r _ [30, 31, 15, 41, 42, 43] (by decide +kernel) (by decide +kernel)
set_option maxRecDepth 20000 in
theorem gX6_many_X4_countSpoilt : GoodIn wsX6_many (wsV RX6 234 RX4 yX4_countSpoilt wsX4_countSpoilt) := goodIn_app (goodIn_of _ (by decide +kernel)) ggX6_many_X4_countSpoilt
/-- the dark scene: no light, whatever the time -/
theorem dk_f2i : ∀ t, t < 65 → FP.f2i (FP.fdiv (FP.fmul (FP.fmul (FP.i2f (nI 0)) FP.fconst1) (FP.i2f (nI t))) 1098907648) = 0 := by decide +kernel
def R0 (k : Nat) : Nat := 12 + drN 0 (k + 1) % 8
theorem R0_le : ∀ i, i < 64 → R0 i ≤ 255 := fun i _ => by unfold R0; omega
theorem dk_raw (g : Nat) {m : Nat} (h : m < 8) : maxI (nI 0) (minI (nI 255) (nI 16 + minI 0 (nI 255) * nI g + nI m - nI 4)) = nI (12 + m) := by
  have e0 : minI 0 (nI 255) = 0 := by decide
  have e1 : (0 : Int32) * nI g = 0 := by simp
  rw [e0, e1]
  rcases (show m = 0 ∨ m = 1 ∨ m = 2 ∨ m = 3 ∨ m = 4 ∨ m = 5 ∨ m = 6 ∨ m = 7 by omega) with rfl | rfl | rfl | rfl | rfl | rfl | rfl | rfl <;> decide
theorem dk_fac {c : Nat} (h : c < 3) : (vf_upd (vf_upd (vf_upd (fun _ => 0) 0 FP.fconst1) 1 FP.fconst1) 2 FP.fconst1) c = FP.fconst1 := by
  rcases (show c = 0 ∨ c = 1 ∨ c = 2 by omega) with rfl | rfl | rfl <;> rfl
theorem ex0 {t g : Nat} (ht : t < 65) : exN (fun _ => 0) (fun _ => 0) (vf_upd (vf_upd (vf_upd (fun _ => 0) 0 FP.fconst1) 1 FP.fconst1) 2 FP.fconst1) 0 t g = R0 := by
  funext k
  unfold exN R0 rawI liF
  rw [dk_fac (colN_lt _ _), dk_f2i t ht, if_neg (show ¬ (nI 0 = nI 1) by decide), if_neg (show ¬ (nI 0 = nI 2) by decide), dk_raw g (Nat.mod_lt _ (by omega)), nI_clamp (by omega)]
theorem cl0 : clN R0 64 = 0 := by decide +kernel
theorem me0 : meF R0 = 4624950526704877568 := by decide +kernel
def isN64 (x : UInt64) : Bool := match FP.Core.val64 x with
  | .nan => false
  | _ => true
theorem isN64_ok {x : UInt64} (h : isN64 x = true) : vf_n64 x := by
  rw [n64_val]
  intro e
  unfold isN64 at h
  rw [e] at h
  cases h
theorem off_n : ∀ v, v < 256 → isN64 (FP.dsub 4624950526704877568 (FP.i2d (nI v))) = true := by decide +kernel
def offF (v : Nat) : UInt64 := FP.dsub 4624950526704877568 (FP.i2d (nI v))
def absF (v : Nat) : UInt64 := if 0 ≤ Op.cmpValue (FP.dcmp (offF v) FP.dconst0) .g then offF v else FP.dneg (offF v)
theorem abs_eq : ∀ v, v < 256 → 0 ≤ Op.cmpValue (FP.dcmp (absF v) (absF v)) .g := by decide +kernel
def ofP (S : St) (x y w : Nat) : Int32 := if w < 3 then nI (sSh S (3 * (8 * y + x) + w)) else if w = 3 then nI (colN x y) else if w = 4 then nI (sHw S (8 * y + x)) else if sMp S (8 * y + x) then nI 1 else nI 0
abbrev rmX6_ofPlace : Room := { frames := 2, cells := 0, slots := 0, locals := 42 }
set_option maxRecDepth 20000 in
theorem iu_X6_ofPlace_6 : ∀ w ∈ u_ws RX6 TX6 9, w ∈ wsX6_ofPlace := by decide +kernel
set_option maxRecDepth 20000 in
theorem il_X6_ofPlace_12 : (Cond.fieldLink RX6 12 "BayerGate" "scene" "LBayerGate$Scene;") ∈ wsX6_ofPlace := by decide +kernel
set_option maxRecDepth 20000 in
theorem il_X6_ofPlace_19 : (Cond.fieldLink RX6 19 "BayerGate" "sensor" "LBayerGate$Sensor;") ∈ wsX6_ofPlace := by decide +kernel
set_option maxHeartbeats 4000000 in
set_option maxRecDepth 100000 in
theorem kX6_ofPlace (l : Launch) (G : iG) (N : Nat) (ad : Nat → Nat) (C : Nat → va_E) (o : Nat) (S : St) (hcam : Cam G N ad C o S) (x y : Nat) (hx8 : x < 8) (hy8 : y < 8) (w : Nat) (hw6 : w < 6) (sz : Nat) : Met l yX6_ofPlace wsX6_ofPlace rmX6_ofPlace (iPre G N ad C sz [.ref (ad o), .int (nI x), .int (nI y), .int (nI w)]) (va_Qi (fun (r : Int32) (u : Nat → va_E) => r = ofP S x y w ∧ u = C) (iB G N ad) (iA N ad sz)) 0 0 (iA N ad sz) := by
  refine Met.ofW (cc := cX6_ofPlace) (maxL := 5) (ret := (some .int)) (by decide) rfl ?_
  intro p e s m args below meth c s₁ B hml hv
  obtain ⟨rfl, hsz, hP, hK, hD0⟩ := hv
  have hx := B.exec
  have hb := B.bytes
  have hr := B.returns
  have hts := atoms_spec (ws := wsX6_ofPlace) B.pre
  have hown : s.vm.findClass RX6 = some m.cls := findClass_of_methodNamed B.named
  have hlocks := B.notSynchronized
  subst hsz
  have hD := wl_self hD0 s.heap.size
  have hA : ∀ q : Nat, s.heap.size ≤ q → iA N ad s.heap.size q := fun q h => Or.inr h
  have hS : va_S (iA N ad s.heap.size) s.heap s.heap [] := va_S.rf
  have hP : va_P G.1 vwB (wl N ad C) s.heap := hP
  have hl := lv_entry ([.ref (ad o), .int (nI x), .int (nI y), .int (nI w)]) (n := 5) (Nat.le_of_ble_eq_true rfl)
  rw [lg_entry_eq]
  generalize (lg_sl ([.ref (ad o), .int (nI x), .int (nI y), .int (nI w)]) ++ List.replicate (5 - (lg_sl ([.ref (ad o), .int (nI x), .int (nI y), .int (nI w)])).length) Slot.unset).toArray = ls at hl ⊢
  have hl : lv_has ls 5 [(0, .ref (ad o)), (1, .int (nI x)), (2, .int (nI y)), (3, .int (nI w))] := hl
  obtain ⟨hN, ⟨ok1, ok2, ok3, ok4, ok5, ok6, ok7, ok8, ok9⟩, h0, ⟨s1, s2, s3⟩, ⟨e1, e2, e3⟩, h7, h8, ⟨TF, tr1, tr2, tr3, tr4, tr5⟩, ⟨TD, dv1, dv2, dv3⟩, ⟨TC, cv1, cv2, cv3⟩, hfr, hfi⟩ := id hcam
  refine lv_iload_n hx hb dX6_ofPlace_0 rfl (lv_at hl 1 rfl) ?_
  refine lv_iload_n hx hb dX6_ofPlace_1 rfl (lv_at hl 2 rfl) ?_
  refine iw_pv (va_runS (As := [.int (nI x), .int (nI y)]) (rest := []) ⟨hx, hb, hml, hown, hts⟩ (kX6_needPlace l (x) (y) (by omega) (by omega)) (va_cwS 2 hts gX6_ofPlace_X6_needPlace rfl rfl rfl (by decide +kernel) ⟨Nat.le_of_ble_eq_true rfl, Nat.le_of_ble_eq_true rfl⟩) ⟨fun a U g mk q => q, fun U hU hW => ⟨rfl, trivial⟩⟩ rfl rfl hl.1 rfl (lv_room (Nat.le_of_ble_eq_true rfl)) dX6_ofPlace_2 ⟨Nat.le_of_ble_eq_true rfl, Nat.le_of_ble_eq_true rfl⟩) hP hS (fun u8 H locs hw8 hP hS => ?_)
  refine lv_iload_n hx hb dX6_ofPlace_5 rfl (lv_at hl 3 rfl) ?_
  refine lv_iconst (v := nI 0) hx hb dX6_ofPlace_6 (by decide) ?_
  refine lv_iconst (v := nI 5) hx hb dX6_ofPlace_7 (by decide) ?_
  refine iw_pv (va_runS (As := [.int (nI w), .int (nI 0), .int (nI 5)]) (rest := []) ⟨hx, hb, hml, hown, hts⟩ (kX6_needRange l (nI w) (nI 0) (nI 5) (nI_nlt (by omega) (by omega)) (nI_le (by omega) (by omega))) (va_cwS 3 hts gX6_ofPlace_X6_needRange rfl rfl rfl (by decide +kernel) ⟨Nat.le_of_ble_eq_true rfl, Nat.le_of_ble_eq_true rfl⟩) ⟨fun a U g mk q => q, fun U hU hW => ⟨rfl, trivial⟩⟩ rfl rfl hl.1 rfl (lv_room (Nat.le_of_ble_eq_true rfl)) dX6_ofPlace_8 ⟨Nat.le_of_ble_eq_true rfl, Nat.le_of_ble_eq_true rfl⟩) hP hS (fun u8 H locs hw8 hP hS => ?_)
  refine lv_iload_n hx hb dX6_ofPlace_11 rfl (lv_at hl 1 rfl) ?_
  refine lv_iload_n hx hb dX6_ofPlace_12 rfl (lv_at hl 2 rfl) ?_
  refine iw_pi (va_runS (As := [.int (nI x), .int (nI y)]) (rest := []) ⟨hx, hb, hml, hown, hts⟩ (kX6_placeOf l (x) (y)) (va_cwS 2 hts gX6_ofPlace_X6_placeOf rfl rfl rfl (by decide +kernel) ⟨Nat.le_of_ble_eq_true rfl, Nat.le_of_ble_eq_true rfl⟩) ⟨fun a U g mk q => q, fun U hU hW => ⟨rfl, trivial⟩⟩ rfl rfl hl.1 rfl (lv_room (Nat.le_of_ble_eq_true rfl)) dX6_ofPlace_13 ⟨Nat.le_of_ble_eq_true rfl, Nat.le_of_ble_eq_true rfl⟩) hP hS (fun r8 u8 H locs hw8 hP hS => ?_)
  refine lv_asI hw8 ?_
  refine lv_istore (lv' := [(4, .int (nI (8 * y + x))), (0, .ref (ad o)), (1, .int (nI x)), (2, .int (nI y)), (3, .int (nI w))]) hx hb dX6_ofPlace_16 hl (by decide) rfl (fun ls hl => ?_)
  refine lv_iload_n hx hb dX6_ofPlace_18 rfl (lv_at hl 4 rfl) ?_
  rcases (show w = 0 ∨ w = 1 ∨ w = 2 ∨ w = 3 ∨ w = 4 ∨ w = 5 by omega) with rfl | rfl | rfl | rfl | rfl | rfl
  · refine lv_tableIn (off := 33) (tgt := 52) hx hb dX6_ofPlace_19 (by decide) (by decide) (by decide) (by decide) ?_
    refine lv_aload_n hx hb dX6_ofPlace_52 rfl (lv_at hl 1 rfl) ?_
    refine iw_get hx hb hts iu_X6_ofPlace_6 hown hK hP (by omega) (h0) rfl 0 (by decide) (hts _ il_X6_ofPlace_12) (fun _ h9 => h9) rfl dX6_ofPlace_53 ?_
    refine lv_iload hx hb dX6_ofPlace_56 (lv_at hl 0 rfl) ?_
    refine lv_iload_n hx hb dX6_ofPlace_58 rfl (lv_at hl 4 rfl) ?_
    refine iw_i (va_runV (As := [.int (nI (8 * y + x)), .int (nI 0)]) (rest := []) ⟨hx, hb, hml, hown, hts⟩ (kX3_shade l G N ad _ (by omega) (by omega) (by omega) (s1) (s2) (s3) (8 * y + x) 0 (by omega) (by omega) _) (cwV 2 hts gX6_ofPlace_X3_shade rfl rfl rfl (by decide +kernel) ⟨Nat.le_of_ble_eq_true rfl, Nat.le_of_ble_eq_true rfl⟩) (iPV hK hP hD (by omega) (s1) rfl [.int (nI (8 * y + x)), .int (nI 0)]) rfl rfl hl.1 rfl (lv_room (Nat.le_of_ble_eq_true rfl)) dX6_ofPlace_59 ⟨Nat.le_of_ble_eq_true rfl, Nat.le_of_ble_eq_true rfl⟩) hD hS hA (fun r8 u8 H locs hw8 hP hD hS => ?_)
    obtain ⟨hr8, hu8⟩ := hw8
    refine lv_asI hr8 ?_
    rw [hu8] at hP hD
    exact W.iret (v := (nI (sSh S (3 * (8 * y + x) + 0)))) hx hb hr (fun t ht hW => ⟨⟨_, _, rfl, ⟨(by first | rfl | (unfold ofP; simp_all; done)), rfl⟩, iB_of ht hP⟩, hS.F ht⟩) hS.2.2 dX6_ofPlace_62
  · refine lv_tableIn (off := 33) (tgt := 52) hx hb dX6_ofPlace_19 (by decide) (by decide) (by decide) (by decide) ?_
    refine lv_aload_n hx hb dX6_ofPlace_52 rfl (lv_at hl 1 rfl) ?_
    refine iw_get hx hb hts iu_X6_ofPlace_6 hown hK hP (by omega) (h0) rfl 0 (by decide) (hts _ il_X6_ofPlace_12) (fun _ h9 => h9) rfl dX6_ofPlace_53 ?_
    refine lv_iload hx hb dX6_ofPlace_56 (lv_at hl 0 rfl) ?_
    refine lv_iload_n hx hb dX6_ofPlace_58 rfl (lv_at hl 4 rfl) ?_
    refine iw_i (va_runV (As := [.int (nI (8 * y + x)), .int (nI 1)]) (rest := []) ⟨hx, hb, hml, hown, hts⟩ (kX3_shade l G N ad _ (by omega) (by omega) (by omega) (s1) (s2) (s3) (8 * y + x) 1 (by omega) (by omega) _) (cwV 2 hts gX6_ofPlace_X3_shade rfl rfl rfl (by decide +kernel) ⟨Nat.le_of_ble_eq_true rfl, Nat.le_of_ble_eq_true rfl⟩) (iPV hK hP hD (by omega) (s1) rfl [.int (nI (8 * y + x)), .int (nI 1)]) rfl rfl hl.1 rfl (lv_room (Nat.le_of_ble_eq_true rfl)) dX6_ofPlace_59 ⟨Nat.le_of_ble_eq_true rfl, Nat.le_of_ble_eq_true rfl⟩) hD hS hA (fun r8 u8 H locs hw8 hP hD hS => ?_)
    obtain ⟨hr8, hu8⟩ := hw8
    refine lv_asI hr8 ?_
    rw [hu8] at hP hD
    exact W.iret (v := (nI (sSh S (3 * (8 * y + x) + 1)))) hx hb hr (fun t ht hW => ⟨⟨_, _, rfl, ⟨(by first | rfl | (unfold ofP; simp_all; done)), rfl⟩, iB_of ht hP⟩, hS.F ht⟩) hS.2.2 dX6_ofPlace_62
  · refine lv_tableIn (off := 33) (tgt := 52) hx hb dX6_ofPlace_19 (by decide) (by decide) (by decide) (by decide) ?_
    refine lv_aload_n hx hb dX6_ofPlace_52 rfl (lv_at hl 1 rfl) ?_
    refine iw_get hx hb hts iu_X6_ofPlace_6 hown hK hP (by omega) (h0) rfl 0 (by decide) (hts _ il_X6_ofPlace_12) (fun _ h9 => h9) rfl dX6_ofPlace_53 ?_
    refine lv_iload hx hb dX6_ofPlace_56 (lv_at hl 0 rfl) ?_
    refine lv_iload_n hx hb dX6_ofPlace_58 rfl (lv_at hl 4 rfl) ?_
    refine iw_i (va_runV (As := [.int (nI (8 * y + x)), .int (nI 2)]) (rest := []) ⟨hx, hb, hml, hown, hts⟩ (kX3_shade l G N ad _ (by omega) (by omega) (by omega) (s1) (s2) (s3) (8 * y + x) 2 (by omega) (by omega) _) (cwV 2 hts gX6_ofPlace_X3_shade rfl rfl rfl (by decide +kernel) ⟨Nat.le_of_ble_eq_true rfl, Nat.le_of_ble_eq_true rfl⟩) (iPV hK hP hD (by omega) (s1) rfl [.int (nI (8 * y + x)), .int (nI 2)]) rfl rfl hl.1 rfl (lv_room (Nat.le_of_ble_eq_true rfl)) dX6_ofPlace_59 ⟨Nat.le_of_ble_eq_true rfl, Nat.le_of_ble_eq_true rfl⟩) hD hS hA (fun r8 u8 H locs hw8 hP hD hS => ?_)
    obtain ⟨hr8, hu8⟩ := hw8
    refine lv_asI hr8 ?_
    rw [hu8] at hP hD
    exact W.iret (v := (nI (sSh S (3 * (8 * y + x) + 2)))) hx hb hr (fun t ht hW => ⟨⟨_, _, rfl, ⟨(by first | rfl | (unfold ofP; simp_all; done)), rfl⟩, iB_of ht hP⟩, hS.F ht⟩) hS.2.2 dX6_ofPlace_62
  · refine lv_tableIn (off := 44) (tgt := 63) hx hb dX6_ofPlace_19 (by decide) (by decide) (by decide) (by decide) ?_
    refine lv_iload_n hx hb dX6_ofPlace_63 rfl (lv_at hl 2 rfl) ?_
    refine lv_iload_n hx hb dX6_ofPlace_64 rfl (lv_at hl 3 rfl) ?_
    refine iw_pi (va_runS (As := [.int (nI x), .int (nI y)]) (rest := []) ⟨hx, hb, hml, hown, hts⟩ (kX6_colourSeen l x y (by omega) (by omega)) (va_cwS 2 hts gX6_ofPlace_X6_colourSeen rfl rfl rfl (by decide +kernel) ⟨Nat.le_of_ble_eq_true rfl, Nat.le_of_ble_eq_true rfl⟩) ⟨fun a U g mk q => q, fun U hU hW => ⟨rfl, trivial⟩⟩ rfl rfl hl.1 rfl (lv_room (Nat.le_of_ble_eq_true rfl)) dX6_ofPlace_65 ⟨Nat.le_of_ble_eq_true rfl, Nat.le_of_ble_eq_true rfl⟩) hP hS (fun r8 u8 H locs hw8 hP hS => ?_)
    refine lv_asI hw8 ?_
    exact W.iret (v := (nI (colN x y))) hx hb hr (fun t ht hW => ⟨⟨_, _, rfl, ⟨(by first | rfl | (unfold ofP; simp_all; done)), rfl⟩, iB_of ht hP⟩, hS.F ht⟩) hS.2.2 dX6_ofPlace_68
  · refine lv_tableIn (off := 50) (tgt := 69) hx hb dX6_ofPlace_19 (by decide) (by decide) (by decide) (by decide) ?_
    refine lv_aload_n hx hb dX6_ofPlace_69 rfl (lv_at hl 1 rfl) ?_
    refine iw_get hx hb hts iu_X6_ofPlace_6 hown hK hP (by omega) (h0) rfl 1 (by decide) (hts _ il_X6_ofPlace_19) (fun _ h9 => h9) rfl dX6_ofPlace_70 ?_
    refine lv_iload hx hb dX6_ofPlace_73 (lv_at hl 0 rfl) ?_
    refine iw_i (va_runV (As := [.int (nI (8 * y + x))]) (rest := []) ⟨hx, hb, hml, hown, hts⟩ (kX4_howIs l G N ad _ (by omega) (by omega) (by omega) (e1) (e2) (e3) (8 * y + x) (by omega) _) (cwV 1 hts gX6_ofPlace_X4_howIs rfl rfl rfl (by decide +kernel) ⟨Nat.le_of_ble_eq_true rfl, Nat.le_of_ble_eq_true rfl⟩) (iPV hK hP hD (by omega) (e1) rfl [.int (nI (8 * y + x))]) rfl rfl hl.1 rfl (lv_room (Nat.le_of_ble_eq_true rfl)) dX6_ofPlace_75 ⟨Nat.le_of_ble_eq_true rfl, Nat.le_of_ble_eq_true rfl⟩) hD hS hA (fun r8 u8 H locs hw8 hP hD hS => ?_)
    obtain ⟨hr8, hu8⟩ := hw8
    refine lv_asI hr8 ?_
    rw [hu8] at hP hD
    exact W.iret (v := (nI (sHw S (8 * y + x)))) hx hb hr (fun t ht hW => ⟨⟨_, _, rfl, ⟨(by first | rfl | (unfold ofP; simp_all; done)), rfl⟩, iB_of ht hP⟩, hS.F ht⟩) hS.2.2 dX6_ofPlace_78
  · refine lv_tableOut (tgt := 79) hx hb dX6_ofPlace_19 (by decide) (by decide) ?_
    refine lv_aload_n hx hb dX6_ofPlace_79 rfl (lv_at hl 1 rfl) ?_
    refine iw_get hx hb hts iu_X6_ofPlace_6 hown hK hP (by omega) (h0) rfl 1 (by decide) (hts _ il_X6_ofPlace_19) (fun _ h9 => h9) rfl dX6_ofPlace_80 ?_
    refine lv_iload hx hb dX6_ofPlace_83 (lv_at hl 0 rfl) ?_
    refine iw_i (va_runV (As := [.int (nI (8 * y + x))]) (rest := []) ⟨hx, hb, hml, hown, hts⟩ (kX4_isMapped l G N ad _ (by omega) (by omega) (by omega) (e1) (e2) (e3) (8 * y + x) (by omega) _) (cwV 1 hts gX6_ofPlace_X4_isMapped rfl rfl rfl (by decide +kernel) ⟨Nat.le_of_ble_eq_true rfl, Nat.le_of_ble_eq_true rfl⟩) (iPV hK hP hD (by omega) (e1) rfl [.int (nI (8 * y + x))]) rfl rfl hl.1 rfl (lv_room (Nat.le_of_ble_eq_true rfl)) dX6_ofPlace_85 ⟨Nat.le_of_ble_eq_true rfl, Nat.le_of_ble_eq_true rfl⟩) hD hS hA (fun r8 u8 H locs hw8 hP hD hS => ?_)
    obtain ⟨hr8, hu8⟩ := hw8
    refine lv_asI hr8 ?_
    rw [hu8] at hP hD
    refine lv_if_eq (tgt := 95) hx hb dX6_ofPlace_88 (by decide) (fun c88 => ?_) (fun c88 => ?_)
    · have hm9 : sMp S (8 * y + x) = false := by cases e9 : sMp S (8 * y + x) with | false => rfl | true => rw [e9] at c88; exact absurd c88 (by decide)
      refine lv_iconst (v := nI 0) hx hb dX6_ofPlace_95 (by decide) ?_
      exact W.iret (v := (nI 0)) hx hb hr (fun t ht hW => ⟨⟨_, _, rfl, ⟨(by first | rfl | (unfold ofP; simp_all; done)), rfl⟩, iB_of ht hP⟩, hS.F ht⟩) hS.2.2 dX6_ofPlace_96
    · have hm9 : sMp S (8 * y + x) = true := by cases e9 : sMp S (8 * y + x) with | true => rfl | false => rw [e9] at c88; exact absurd rfl c88
      refine lv_iconst (v := nI 1) hx hb dX6_ofPlace_91 (by decide) ?_
      refine lv_goto (tgt := 96) hx hb dX6_ofPlace_92 (by decide) ?_
      exact W.iret (v := (nI 1)) hx hb hr (fun t ht hW => ⟨⟨_, _, rfl, ⟨(by first | rfl | (unfold ofP; simp_all; done)), rfl⟩, iB_of ht hP⟩, hS.F ht⟩) hS.2.2 dX6_ofPlace_96
abbrev rmX6_wouldClip : Room := { frames := 3, cells := 0, slots := 0, locals := 74 }
set_option maxRecDepth 20000 in
theorem iu_X6_wouldClip_6 : ∀ w ∈ u_ws RX6 TX6 9, w ∈ wsX6_wouldClip := by decide +kernel
set_option maxRecDepth 20000 in
theorem il_X6_wouldClip_19 : (Cond.fieldLink RX6 19 "BayerGate" "sensor" "LBayerGate$Sensor;") ∈ wsX6_wouldClip := by decide +kernel
set_option maxRecDepth 20000 in
theorem il_X6_wouldClip_12 : (Cond.fieldLink RX6 12 "BayerGate" "scene" "LBayerGate$Scene;") ∈ wsX6_wouldClip := by decide +kernel
set_option maxRecDepth 20000 in
theorem il_X6_wouldClip_43 : (Cond.fieldLink RX6 43 "BayerGate" "trial" "LBayerGate$Frame;") ∈ wsX6_wouldClip := by decide +kernel
set_option maxHeartbeats 4000000 in
set_option maxRecDepth 100000 in
theorem kX6_wouldClip (l : Launch) (G : iG) (N : Nat) (ad : Nat → Nat) (C : Nat → va_E) (o : Nat) (S : St) (hcam : Cam G N ad C o S) (t1 g1 : Nat) (ht : 0 < t1 ∧ t1 < 65) (hg : 0 < g1 ∧ g1 < 9) (sz : Nat) : Met l yX6_wouldClip wsX6_wouldClip rmX6_wouldClip (iPre G N ad C sz [.ref (ad o), .int (nI t1), .int (nI g1)]) (va_Qi (fun (r : Int32) (u : Nat → va_E) => r = nI (clN (exN (sHw S) (sSh S) (sFac S) (sDr S) t1 g1) 64) ∧ Cam G N ad u o S ∧ same C u o) (iB G N ad) (iA N ad sz)) 0 0 (iA N ad sz) := by
  refine Met.ofW (cc := cX6_wouldClip) (maxL := 3) (ret := (some .int)) (by decide) rfl ?_
  intro p e s m args below meth c s₁ B hml hv
  obtain ⟨rfl, hsz, hP, hK, hD0⟩ := hv
  have hx := B.exec
  have hb := B.bytes
  have hr := B.returns
  have hts := atoms_spec (ws := wsX6_wouldClip) B.pre
  have hown : s.vm.findClass RX6 = some m.cls := findClass_of_methodNamed B.named
  have hlocks := B.notSynchronized
  subst hsz
  have hD := wl_self hD0 s.heap.size
  have hA : ∀ q : Nat, s.heap.size ≤ q → iA N ad s.heap.size q := fun q h => Or.inr h
  have hS : va_S (iA N ad s.heap.size) s.heap s.heap [] := va_S.rf
  have hP : va_P G.1 vwB (wl N ad C) s.heap := hP
  have hl := lv_entry ([.ref (ad o), .int (nI t1), .int (nI g1)]) (n := 3) (Nat.le_of_ble_eq_true rfl)
  rw [lg_entry_eq]
  generalize (lg_sl ([.ref (ad o), .int (nI t1), .int (nI g1)]) ++ List.replicate (3 - (lg_sl ([.ref (ad o), .int (nI t1), .int (nI g1)])).length) Slot.unset).toArray = ls at hl ⊢
  have hl : lv_has ls 3 [(0, .ref (ad o)), (1, .int (nI t1)), (2, .int (nI g1))] := hl
  obtain ⟨hN, ⟨ok1, ok2, ok3, ok4, ok5, ok6, ok7, ok8, ok9⟩, h0, ⟨s1, s2, s3⟩, ⟨e1, e2, e3⟩, h7, h8, ⟨TF, tr1, tr2, tr3, tr4, tr5⟩, ⟨TD, dv1, dv2, dv3⟩, ⟨TC, cv1, cv2, cv3⟩, hfr, hfi⟩ := id hcam
  refine lv_iload_n hx hb dX6_wouldClip_0 rfl (lv_at hl 1 rfl) ?_
  refine lv_iload_n hx hb dX6_wouldClip_1 rfl (lv_at hl 2 rfl) ?_
  refine iw_pv (va_runS (As := [.int (nI t1), .int (nI g1)]) (rest := []) ⟨hx, hb, hml, hown, hts⟩ (kX6_needExposure l t1 g1 ht hg) (va_cwS 2 hts gX6_wouldClip_X6_needExposure rfl rfl rfl (by decide +kernel) ⟨Nat.le_of_ble_eq_true rfl, Nat.le_of_ble_eq_true rfl⟩) ⟨fun a U g mk q => q, fun U hU hW => ⟨rfl, trivial⟩⟩ rfl rfl hl.1 rfl (lv_room (Nat.le_of_ble_eq_true rfl)) dX6_wouldClip_2 ⟨Nat.le_of_ble_eq_true rfl, Nat.le_of_ble_eq_true rfl⟩) hP hS (fun u8 H locs hw8 hP hS => ?_)
  refine lv_aload_n hx hb dX6_wouldClip_5 rfl (lv_at hl 0 rfl) ?_
  refine iw_get hx hb hts iu_X6_wouldClip_6 hown hK hP (by omega) (h0) rfl 1 (by decide) (hts _ il_X6_wouldClip_19) (fun _ h9 => h9) rfl dX6_wouldClip_6 ?_
  refine lv_aload_n hx hb dX6_wouldClip_9 rfl (lv_at hl 0 rfl) ?_
  refine iw_get hx hb hts iu_X6_wouldClip_6 hown hK hP (by omega) (h0) rfl 0 (by decide) (hts _ il_X6_wouldClip_12) (fun _ h9 => h9) rfl dX6_wouldClip_10 ?_
  refine lv_iload_n hx hb dX6_wouldClip_13 rfl (lv_at hl 1 rfl) ?_
  refine lv_iload_n hx hb dX6_wouldClip_14 rfl (lv_at hl 2 rfl) ?_
  refine lv_aload_n hx hb dX6_wouldClip_15 rfl (lv_at hl 0 rfl) ?_
  refine iw_get hx hb hts iu_X6_wouldClip_6 hown hK hP (by omega) (h0) rfl 6 (by decide) (hts _ il_X6_wouldClip_43) (fun _ h9 => h9) rfl dX6_wouldClip_16 ?_
  refine iw_i (va_runV (As := [.ref (ad (o + 1)), .int (nI t1), .int (nI g1), .ref (ad (o + 9))]) (rest := []) ⟨hx, hb, hml, hown, hts⟩ (kX4_expose l G N ad _ (by omega) (by omega) (by omega) (s1) (s2) (s3) (by omega) (by omega) (by omega) (e1) (e2) (e3) (by omega) (by omega) (tr1) (tr2) (by omega) (by omega) ok5 (time := t1) (gain := g1) ht.1 ht.2 ok2 _) (cwV 4 hts gX6_wouldClip_X4_expose rfl rfl rfl (by decide +kernel) ⟨Nat.le_of_ble_eq_true rfl, Nat.le_of_ble_eq_true rfl⟩) (iPV hK hP hD (by omega) (e1) rfl [.ref (ad (o + 1)), .int (nI t1), .int (nI g1), .ref (ad (o + 9))]) rfl rfl hl.1 rfl (lv_room (Nat.le_of_ble_eq_true rfl)) dX6_wouldClip_19 ⟨Nat.le_of_ble_eq_true rfl, Nat.le_of_ble_eq_true rfl⟩) hD hS hA (fun r8 u8 H locs hw8 hP hD hS => ?_)
  obtain ⟨hr8, hu8⟩ := hw8
  refine lv_asI hr8 ?_
  rw [hu8] at hP hD
  refine lv_pop hx hb dX6_wouldClip_22 rfl ?_
  refine lv_aload_n hx hb dX6_wouldClip_23 rfl (lv_at hl 0 rfl) ?_
  refine iw_get hx hb hts iu_X6_wouldClip_6 hown hK hP (by omega) ((va_un _ _ (by omega)).trans ((va_un _ _ (by omega)).trans (h0))) rfl 6 (by decide) (hts _ il_X6_wouldClip_43) (fun _ h9 => h9) rfl dX6_wouldClip_24 ?_
  refine iw_i (va_runV (As := []) (rest := []) ⟨hx, hb, hml, hown, hts⟩ (kX1_countClipped l G N ad _ (by omega) (by omega) (va_us _ _ _) ((va_un _ _ (by omega)).trans (va_us _ _ _)) (fun i _ => (exN_ok _ _ _ _ _ _ i).1) _) (cwV 0 hts gX6_wouldClip_X1_countClipped rfl rfl rfl (by decide +kernel) ⟨Nat.le_of_ble_eq_true rfl, Nat.le_of_ble_eq_true rfl⟩) (iPV hK hP hD (by omega) (va_us _ _ _) rfl []) rfl rfl hl.1 rfl (lv_room (Nat.le_of_ble_eq_true rfl)) dX6_wouldClip_27 ⟨Nat.le_of_ble_eq_true rfl, Nat.le_of_ble_eq_true rfl⟩) hD hS hA (fun r8 u8 H locs hw8 hP hD hS => ?_)
  obtain ⟨hr8, hu8⟩ := hw8
  refine lv_asI hr8 ?_
  rw [hu8] at hP hD
  have q1 := up_traw hcam (exN (sHw S) (sSh S) (sFac S) (sDr S) t1 g1)
  have q2 := up_tobj q1 (nI t1) (nI g1) TF.2.2.2.2
  exact W.iret (v := (nI (clN (exN (sHw S) (sSh S) (sFac S) (sDr S) t1 g1) 64))) hx hb hr (fun t ht hW => ⟨⟨_, _, rfl, ⟨rfl, q2, same_up (same_up (same_rf) _ (by omega) (by omega)) _ (by omega) (by omega)⟩, iB_of ht hP⟩, hS.F ht⟩) hS.2.2 dX6_wouldClip_30
abbrev rmX6_countEdits : Room := { frames := 0, cells := 0, slots := 0, locals := 0 }
set_option maxRecDepth 20000 in
theorem iu_X6_countEdits_6 : ∀ w ∈ u_ws RX6 TX6 9, w ∈ wsX6_countEdits := by decide +kernel
set_option maxRecDepth 20000 in
theorem il_X6_countEdits_35 : (Cond.fieldLink RX6 35 "BayerGate" "frameCount" "I") ∈ wsX6_countEdits := by decide +kernel
set_option maxHeartbeats 4000000 in
set_option maxRecDepth 100000 in
theorem kX6_countEdits (l : Launch) (G : iG) (N : Nat) (ad : Nat → Nat) (C : Nat → va_E) (o : Nat) (S : St) (hcam : Cam G N ad C o S) (hf0 : sFn S = 0) (sz : Nat) : Met l yX6_countEdits wsX6_countEdits rmX6_countEdits (iPre G N ad C sz [.ref (ad o)]) (va_Qi (fun (r : Int32) (u : Nat → va_E) => r = nI 0 ∧ u = C) (iB G N ad) (iA N ad sz)) 0 0 (iA N ad sz) := by
  refine Met.ofW (cc := cX6_countEdits) (maxL := 3) (ret := (some .int)) (by decide) rfl ?_
  intro p e s m args below meth c s₁ B hml hv
  obtain ⟨rfl, hsz, hP, hK, hD0⟩ := hv
  have hx := B.exec
  have hb := B.bytes
  have hr := B.returns
  have hts := atoms_spec (ws := wsX6_countEdits) B.pre
  have hown : s.vm.findClass RX6 = some m.cls := findClass_of_methodNamed B.named
  have hlocks := B.notSynchronized
  subst hsz
  have hD := wl_self hD0 s.heap.size
  have hA : ∀ q : Nat, s.heap.size ≤ q → iA N ad s.heap.size q := fun q h => Or.inr h
  have hS : va_S (iA N ad s.heap.size) s.heap s.heap [] := va_S.rf
  have hP : va_P G.1 vwB (wl N ad C) s.heap := hP
  have hl := lv_entry ([.ref (ad o)]) (n := 3) (Nat.le_of_ble_eq_true rfl)
  rw [lg_entry_eq]
  generalize (lg_sl ([.ref (ad o)]) ++ List.replicate (3 - (lg_sl ([.ref (ad o)])).length) Slot.unset).toArray = ls at hl ⊢
  have hl : lv_has ls 3 [(0, .ref (ad o))] := hl
  obtain ⟨hN, ⟨ok1, ok2, ok3, ok4, ok5, ok6, ok7, ok8, ok9⟩, h0, ⟨s1, s2, s3⟩, ⟨e1, e2, e3⟩, h7, h8, ⟨TF, tr1, tr2, tr3, tr4, tr5⟩, ⟨TD, dv1, dv2, dv3⟩, ⟨TC, cv1, cv2, cv3⟩, hfr, hfi⟩ := id hcam
  refine lv_iconst (v := nI 0) hx hb dX6_countEdits_0 (by decide) ?_
  refine lv_istore_n (lv' := [(1, .int (nI 0)), (0, .ref (ad o))]) hx hb dX6_countEdits_1 rfl hl (by decide) rfl (fun ls hl => ?_)
  refine lv_iconst (v := nI 0) hx hb dX6_countEdits_2 (by decide) ?_
  refine lv_istore_n (lv' := [(2, .int (nI 0)), (1, .int (nI 0)), (0, .ref (ad o))]) hx hb dX6_countEdits_3 rfl hl (by decide) rfl (fun ls hl => ?_)
  refine lv_iload_n hx hb dX6_countEdits_4 rfl (lv_at hl 0 rfl) ?_
  refine lv_aload_n hx hb dX6_countEdits_5 rfl (lv_at hl 2 rfl) ?_
  refine iw_get hx hb hts iu_X6_countEdits_6 hown hK hP (by omega) (h0) rfl 4 (by decide) (hts _ il_X6_countEdits_35) (fun _ h9 => h9) rfl dX6_countEdits_6 ?_
  refine lv_icmp_ge (tgt := 33) hx hb dX6_countEdits_9 (by decide) (fun _ => ?_) (fun c9 => absurd ((by rw [hf0]; decide)) c9)
  refine lv_iload_n hx hb dX6_countEdits_33 rfl (lv_at hl 1 rfl) ?_
  exact W.iret (v := (nI 0)) hx hb hr (fun t ht hW => ⟨⟨_, _, rfl, ⟨rfl, rfl⟩, iB_of ht hP⟩, hS.F ht⟩) hS.2.2 dX6_countEdits_34
def maI (S : St) (w : Nat) : Int32 := if w = 0 then nI (sFn S) else if w = 1 then nI (sFl S) else if w = 2 then nI (ctN (sMp S) 64) else if w = 3 then nI (sDr S) else if w = 4 then nI 0 else if w = 5 then nI (csN (sHw S) (sMp S) true 64) else nI (csN (sHw S) (sMp S) false 64)
abbrev rmX6_many : Room := { frames := 1, cells := 0, slots := 0, locals := 23 }
set_option maxRecDepth 20000 in
theorem iu_X6_many_6 : ∀ w ∈ u_ws RX6 TX6 9, w ∈ wsX6_many := by decide +kernel
set_option maxRecDepth 20000 in
theorem il_X6_many_35 : (Cond.fieldLink RX6 35 "BayerGate" "frameCount" "I") ∈ wsX6_many := by decide +kernel
set_option maxRecDepth 20000 in
theorem il_X6_many_39 : (Cond.fieldLink RX6 39 "BayerGate" "fileCount" "I") ∈ wsX6_many := by decide +kernel
set_option maxRecDepth 20000 in
theorem il_X6_many_19 : (Cond.fieldLink RX6 19 "BayerGate" "sensor" "LBayerGate$Sensor;") ∈ wsX6_many := by decide +kernel
set_option maxRecDepth 20000 in
theorem iu_X6_many_4 : ∀ w ∈ u_ws RX4 TX4 3, w ∈ wsX6_many := by decide +kernel
set_option maxHeartbeats 4000000 in
set_option maxRecDepth 100000 in
theorem kX6_many (l : Launch) (G : iG) (N : Nat) (ad : Nat → Nat) (C : Nat → va_E) (o : Nat) (S : St) (hcam : Cam G N ad C o S) (hf0 : sFn S = 0) (w : Nat) (hw7 : w < 7) (sz : Nat) : Met l yX6_many wsX6_many rmX6_many (iPre G N ad C sz [.ref (ad o), .int (nI w)]) (va_Qi (fun (r : Int32) (u : Nat → va_E) => r = maI S w ∧ u = C) (iB G N ad) (iA N ad sz)) 0 0 (iA N ad sz) := by
  refine Met.ofW (cc := cX6_many) (maxL := 2) (ret := (some .int)) (by decide) rfl ?_
  intro p e s m args below meth c s₁ B hml hv
  obtain ⟨rfl, hsz, hP, hK, hD0⟩ := hv
  have hx := B.exec
  have hb := B.bytes
  have hr := B.returns
  have hts := atoms_spec (ws := wsX6_many) B.pre
  have hown : s.vm.findClass RX6 = some m.cls := findClass_of_methodNamed B.named
  have hlocks := B.notSynchronized
  subst hsz
  have hD := wl_self hD0 s.heap.size
  have hA : ∀ q : Nat, s.heap.size ≤ q → iA N ad s.heap.size q := fun q h => Or.inr h
  have hS : va_S (iA N ad s.heap.size) s.heap s.heap [] := va_S.rf
  have hP : va_P G.1 vwB (wl N ad C) s.heap := hP
  have hl := lv_entry ([.ref (ad o), .int (nI w)]) (n := 2) (Nat.le_of_ble_eq_true rfl)
  rw [lg_entry_eq]
  generalize (lg_sl ([.ref (ad o), .int (nI w)]) ++ List.replicate (2 - (lg_sl ([.ref (ad o), .int (nI w)])).length) Slot.unset).toArray = ls at hl ⊢
  have hl : lv_has ls 2 [(0, .ref (ad o)), (1, .int (nI w))] := hl
  obtain ⟨hN, ⟨ok1, ok2, ok3, ok4, ok5, ok6, ok7, ok8, ok9⟩, h0, ⟨s1, s2, s3⟩, ⟨e1, e2, e3⟩, h7, h8, ⟨TF, tr1, tr2, tr3, tr4, tr5⟩, ⟨TD, dv1, dv2, dv3⟩, ⟨TC, cv1, cv2, cv3⟩, hfr, hfi⟩ := id hcam
  refine lv_iload_n hx hb dX6_many_0 rfl (lv_at hl 1 rfl) ?_
  refine lv_iconst (v := nI 0) hx hb dX6_many_1 (by decide) ?_
  refine lv_bipush (v := nI 6) hx hb dX6_many_2 (by decide) ?_
  refine iw_pv (va_runS (As := [.int (nI w), .int (nI 0), .int (nI 6)]) (rest := []) ⟨hx, hb, hml, hown, hts⟩ (kX6_needRange l (nI w) (nI 0) (nI 6) (nI_nlt (by omega) (by omega)) (nI_le (by omega) (by omega))) (va_cwS 3 hts gX6_many_X6_needRange rfl rfl rfl (by decide +kernel) ⟨Nat.le_of_ble_eq_true rfl, Nat.le_of_ble_eq_true rfl⟩) ⟨fun a U g mk q => q, fun U hU hW => ⟨rfl, trivial⟩⟩ rfl rfl hl.1 rfl (lv_room (Nat.le_of_ble_eq_true rfl)) dX6_many_4 ⟨Nat.le_of_ble_eq_true rfl, Nat.le_of_ble_eq_true rfl⟩) hP hS (fun u8 H locs hw8 hP hS => ?_)
  refine lv_iload_n hx hb dX6_many_7 rfl (lv_at hl 1 rfl) ?_
  rcases (show w = 0 ∨ w = 1 ∨ w = 2 ∨ w = 3 ∨ w = 4 ∨ w = 5 ∨ w = 6 by omega) with rfl | rfl | rfl | rfl | rfl | rfl | rfl
  · refine lv_tableIn (off := 40) (tgt := 48) hx hb dX6_many_8 (by decide) (by decide) (by decide) (by decide) ?_
    refine lv_aload_n hx hb dX6_many_48 rfl (lv_at hl 0 rfl) ?_
    refine iw_get hx hb hts iu_X6_many_6 hown hK hP (by omega) (h0) rfl 4 (by decide) (hts _ il_X6_many_35) (fun _ h9 => h9) rfl dX6_many_49 ?_
    exact W.iret (v := (nI (sFn S))) hx hb hr (fun t ht hW => ⟨⟨_, _, rfl, ⟨rfl, rfl⟩, iB_of ht hP⟩, hS.F ht⟩) hS.2.2 dX6_many_52
  · refine lv_tableIn (off := 45) (tgt := 53) hx hb dX6_many_8 (by decide) (by decide) (by decide) (by decide) ?_
    refine lv_aload_n hx hb dX6_many_53 rfl (lv_at hl 0 rfl) ?_
    refine iw_get hx hb hts iu_X6_many_6 hown hK hP (by omega) (h0) rfl 5 (by decide) (hts _ il_X6_many_39) (fun _ h9 => h9) rfl dX6_many_54 ?_
    exact W.iret (v := (nI (sFl S))) hx hb hr (fun t ht hW => ⟨⟨_, _, rfl, ⟨rfl, rfl⟩, iB_of ht hP⟩, hS.F ht⟩) hS.2.2 dX6_many_57
  · refine lv_tableIn (off := 50) (tgt := 58) hx hb dX6_many_8 (by decide) (by decide) (by decide) (by decide) ?_
    refine lv_aload_n hx hb dX6_many_58 rfl (lv_at hl 0 rfl) ?_
    refine iw_get hx hb hts iu_X6_many_6 hown hK hP (by omega) (h0) rfl 1 (by decide) (hts _ il_X6_many_19) (fun _ h9 => h9) rfl dX6_many_59 ?_
    refine iw_i (va_runV (As := []) (rest := []) ⟨hx, hb, hml, hown, hts⟩ (kX4_countMapped l G N ad _ (by omega) (by omega) (by omega) (e1) (e2) (e3) _) (cwV 0 hts gX6_many_X4_countMapped rfl rfl rfl (by decide +kernel) ⟨Nat.le_of_ble_eq_true rfl, Nat.le_of_ble_eq_true rfl⟩) (iPV hK hP hD (by omega) (e1) rfl []) rfl rfl hl.1 rfl (lv_room (Nat.le_of_ble_eq_true rfl)) dX6_many_62 ⟨Nat.le_of_ble_eq_true rfl, Nat.le_of_ble_eq_true rfl⟩) hD hS hA (fun r8 u8 H locs hw8 hP hD hS => ?_)
    obtain ⟨hr8, hu8⟩ := hw8
    refine lv_asI hr8 ?_
    rw [hu8] at hP hD
    exact W.iret (v := (nI (ctN (sMp S) 64))) hx hb hr (fun t ht hW => ⟨⟨_, _, rfl, ⟨rfl, rfl⟩, iB_of ht hP⟩, hS.F ht⟩) hS.2.2 dX6_many_65
  · refine lv_tableIn (off := 58) (tgt := 66) hx hb dX6_many_8 (by decide) (by decide) (by decide) (by decide) ?_
    refine lv_aload_n hx hb dX6_many_66 rfl (lv_at hl 0 rfl) ?_
    refine iw_get hx hb hts iu_X6_many_6 hown hK hP (by omega) (h0) rfl 1 (by decide) (hts _ il_X6_many_19) (fun _ h9 => h9) rfl dX6_many_67 ?_
    refine iw_getN hx hb hts iu_X6_many_4 hown hK hP (by omega) (e1) rfl 2 (by decide) (nw_RX6_228 hK.2) (fun _ h9 => h9) rfl dX6_many_70 ?_
    exact W.iret (v := (nI (sDr S))) hx hb hr (fun t ht hW => ⟨⟨_, _, rfl, ⟨rfl, rfl⟩, iB_of ht hP⟩, hS.F ht⟩) hS.2.2 dX6_many_73
  · refine lv_tableIn (off := 66) (tgt := 74) hx hb dX6_many_8 (by decide) (by decide) (by decide) (by decide) ?_
    refine lv_aload_n hx hb dX6_many_74 rfl (lv_at hl 0 rfl) ?_
    refine iw_i (va_runV (As := []) (rest := []) ⟨hx, hb, hml, hown, hts⟩ (kX6_countEdits l G N ad _ o S hcam hf0 _) (cwV 0 hts gX6_many_X6_countEdits rfl rfl rfl (by decide +kernel) ⟨Nat.le_of_ble_eq_true rfl, Nat.le_of_ble_eq_true rfl⟩) (iPV hK hP hD (by omega) (h0) rfl []) rfl rfl hl.1 rfl (lv_room (Nat.le_of_ble_eq_true rfl)) dX6_many_75 ⟨Nat.le_of_ble_eq_true rfl, Nat.le_of_ble_eq_true rfl⟩) hD hS hA (fun r8 u8 H locs hw8 hP hD hS => ?_)
    obtain ⟨hr8, hu8⟩ := hw8
    refine lv_asI hr8 ?_
    rw [hu8] at hP hD
    exact W.iret (v := (nI 0)) hx hb hr (fun t ht hW => ⟨⟨_, _, rfl, ⟨rfl, rfl⟩, iB_of ht hP⟩, hS.F ht⟩) hS.2.2 dX6_many_78
  · refine lv_tableIn (off := 71) (tgt := 79) hx hb dX6_many_8 (by decide) (by decide) (by decide) (by decide) ?_
    refine lv_aload_n hx hb dX6_many_79 rfl (lv_at hl 0 rfl) ?_
    refine iw_get hx hb hts iu_X6_many_6 hown hK hP (by omega) (h0) rfl 1 (by decide) (hts _ il_X6_many_19) (fun _ h9 => h9) rfl dX6_many_80 ?_
    refine lv_iconst (v := nI 1) hx hb dX6_many_83 (by decide) ?_
    refine lv_asI (y := if true then nI 1 else nI 0) rfl ?_
    refine iw_i (va_runV (As := [.int (if true then nI 1 else nI 0)]) (rest := []) ⟨hx, hb, hml, hown, hts⟩ (kX4_countSpoilt l G N ad _ (by omega) (by omega) (by omega) (e1) (e2) (e3) ok4 true _) (cwV 1 hts gX6_many_X4_countSpoilt rfl rfl rfl (by decide +kernel) ⟨Nat.le_of_ble_eq_true rfl, Nat.le_of_ble_eq_true rfl⟩) (iPV hK hP hD (by omega) (e1) rfl [.int (if true then nI 1 else nI 0)]) rfl rfl hl.1 rfl (lv_room (Nat.le_of_ble_eq_true rfl)) dX6_many_84 ⟨Nat.le_of_ble_eq_true rfl, Nat.le_of_ble_eq_true rfl⟩) hD hS hA (fun r8 u8 H locs hw8 hP hD hS => ?_)
    obtain ⟨hr8, hu8⟩ := hw8
    refine lv_asI hr8 ?_
    rw [hu8] at hP hD
    exact W.iret (v := (nI (csN (sHw S) (sMp S) true 64))) hx hb hr (fun t ht hW => ⟨⟨_, _, rfl, ⟨rfl, rfl⟩, iB_of ht hP⟩, hS.F ht⟩) hS.2.2 dX6_many_87
  · refine lv_tableOut (tgt := 88) hx hb dX6_many_8 (by decide) (by decide) ?_
    refine lv_aload_n hx hb dX6_many_88 rfl (lv_at hl 0 rfl) ?_
    refine iw_get hx hb hts iu_X6_many_6 hown hK hP (by omega) (h0) rfl 1 (by decide) (hts _ il_X6_many_19) (fun _ h9 => h9) rfl dX6_many_89 ?_
    refine lv_iconst (v := nI 0) hx hb dX6_many_92 (by decide) ?_
    refine lv_asI (y := if false then nI 1 else nI 0) rfl ?_
    refine iw_i (va_runV (As := [.int (if false then nI 1 else nI 0)]) (rest := []) ⟨hx, hb, hml, hown, hts⟩ (kX4_countSpoilt l G N ad _ (by omega) (by omega) (by omega) (e1) (e2) (e3) ok4 false _) (cwV 1 hts gX6_many_X4_countSpoilt rfl rfl rfl (by decide +kernel) ⟨Nat.le_of_ble_eq_true rfl, Nat.le_of_ble_eq_true rfl⟩) (iPV hK hP hD (by omega) (e1) rfl [.int (if false then nI 1 else nI 0)]) rfl rfl hl.1 rfl (lv_room (Nat.le_of_ble_eq_true rfl)) dX6_many_93 ⟨Nat.le_of_ble_eq_true rfl, Nat.le_of_ble_eq_true rfl⟩) hD hS hA (fun r8 u8 H locs hw8 hP hD hS => ?_)
    obtain ⟨hr8, hu8⟩ := hw8
    refine lv_asI hr8 ?_
    rw [hu8] at hP hD
    exact W.iret (v := (nI (csN (sHw S) (sMp S) false 64))) hx hb hr (fun t ht hW => ⟨⟨_, _, rfl, ⟨rfl, rfl⟩, iB_of ht hP⟩, hS.F ht⟩) hS.2.2 dX6_many_96
