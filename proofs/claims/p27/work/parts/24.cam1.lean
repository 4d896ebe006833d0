set_option maxRecDepth 20000 in
theorem ggX6_paint_X6_placeOf : GoodIn wsX6_paint wsX6_placeOf := goodIn_r _ [19] (by decide +kernel) (by decide +kernel)
set_option maxRecDepth 20000 in
theorem gX6_paint_X6_placeOf : GoodIn wsX6_paint (va_wsS RX6 74 yX6_placeOf wsX6_placeOf) := goodIn_app (goodIn_of _ (by decide +kernel)) ggX6_paint_X6_placeOf
set_option maxRecDepth 20000 in
theorem ggX6_paint_X3_colourPlace : GoodIn wsX6_paint wsX3_colourPlace := goodIn_r _ [24, 25, 35, 36, 37] (by decide +kernel) (by decide +kernel)
set_option maxRecDepth 20000 in
theorem gX6_paint_X3_colourPlace : GoodIn wsX6_paint (wsV RX6 78 RX3 yX3_colourPlace wsX3_colourPlace) := goodIn_app (goodIn_of _ (by decide +kernel)) ggX6_paint_X3_colourPlace
set_option maxRecDepth 20000 in
theorem ggX6_paint_X6_needPlace : GoodIn wsX6_paint wsX6_needPlace := goodIn_ca (goodIn_r _ [8, 9, 10, 11, 12, 7, 13] (by decide +kernel) (by decide +kernel)) (goodIn_sub (fun _ h => List.mem_cons_of_mem _ (List.mem_append_right _ h)) (by decide +kernel))
set_option maxRecDepth 20000 in
theorem gX6_paint_X6_needPlace : GoodIn wsX6_paint (va_wsS RX6 58 yX6_needPlace wsX6_needPlace) := goodIn_app (goodIn_of _ (by decide +kernel)) ggX6_paint_X6_needPlace
set_option maxRecDepth 20000 in
theorem ggX6_paint_X6_needRange : GoodIn wsX6_paint wsX6_needRange := goodIn_ca (goodIn_r _ [16, 1, 2] (by decide +kernel) (by decide +kernel)) (goodIn_sub (fun _ h => List.mem_cons_of_mem _ (List.mem_append_left _ (List.mem_append_right _ h))) (by decide +kernel))
set_option maxRecDepth 20000 in
theorem gX6_paint_X6_needRange : GoodIn wsX6_paint (va_wsS RX6 70 yX6_needRange wsX6_needRange) := goodIn_app (goodIn_of _ (by decide +kernel)) ggX6_paint_X6_needRange
set_option maxRecDepth 20000 in
theorem ggX6_lamp_X6_needRange : GoodIn wsX6_lamp wsX6_needRange := goodIn_ca (goodIn_r _ [5, 6, 7] (by decide +kernel) (by decide +kernel)) (goodIn_sub (fun _ h => List.mem_cons_of_mem _ (List.mem_append_right _ h)) (by decide +kernel))
set_option maxRecDepth 20000 in
theorem gX6_lamp_X6_needRange : GoodIn wsX6_lamp (va_wsS RX6 70 yX6_needRange wsX6_needRange) := goodIn_app (goodIn_of _ (by decide +kernel)) ggX6_lamp_X6_needRange
set_option maxRecDepth 20000 in
theorem ggX6_lamp_X3_greenQuarters : GoodIn wsX6_lamp wsX3_greenQuarters := goodIn_r _ [12, 13, 29, 30, 31] (by decide +kernel) (by decide +kernel)
set_option maxRecDepth 20000 in
theorem gX6_lamp_X3_greenQuarters : GoodIn wsX6_lamp (wsV RX6 81 RX3 yX3_greenQuarters wsX3_greenQuarters) := goodIn_app (goodIn_of _ (by decide +kernel)) ggX6_lamp_X3_greenQuarters
set_option maxRecDepth 20000 in
theorem ggX6_lamp_X3_light : GoodIn wsX6_lamp wsX3_light := goodIn_r _ [17, 18, 19, 13, 29, 30, 31] (by decide +kernel) (by decide +kernel)
set_option maxRecDepth 20000 in
theorem gX6_lamp_X3_light : GoodIn wsX6_lamp (wsV RX6 85 RX3 yX3_light wsX3_light) := goodIn_app (goodIn_of _ (by decide +kernel)) ggX6_lamp_X3_light
set_option maxRecDepth 20000 in
theorem ggX6_spoil_X6_needPlace : GoodIn wsX6_spoil wsX6_needPlace := goodIn_ca (goodIn_r _ [5, 6, 7, 8, 9, 4, 10] (by decide +kernel) (by decide +kernel)) (goodIn_sub (fun _ h => List.mem_cons_of_mem _ (List.mem_append_left _ (List.mem_append_right _ h))) (by decide +kernel))
set_option maxRecDepth 20000 in
theorem gX6_spoil_X6_needPlace : GoodIn wsX6_spoil (va_wsS RX6 58 yX6_needPlace wsX6_needPlace) := goodIn_app (goodIn_of _ (by decide +kernel)) ggX6_spoil_X6_needPlace
set_option maxRecDepth 20000 in
theorem ggX6_spoil_X6_needRange : GoodIn wsX6_spoil wsX6_needRange := goodIn_ca (goodIn_r _ [13, 14, 15] (by decide +kernel) (by decide +kernel)) (goodIn_sub (fun _ h => List.mem_cons_of_mem _ (List.mem_append_right _ h)) (by decide +kernel))
set_option maxRecDepth 20000 in
theorem gX6_spoil_X6_needRange : GoodIn wsX6_spoil (va_wsS RX6 70 yX6_needRange wsX6_needRange) := goodIn_app (goodIn_of _ (by decide +kernel)) ggX6_spoil_X6_needRange
set_option maxRecDepth 20000 in
theorem ggX6_spoil_X6_placeOf : GoodIn wsX6_spoil wsX6_placeOf := goodIn_r _ [18] (by decide +kernel) (by decide +kernel)
set_option maxRecDepth 20000 in
theorem gX6_spoil_X6_placeOf : GoodIn wsX6_spoil (va_wsS RX6 74 yX6_placeOf wsX6_placeOf) := goodIn_app (goodIn_of _ (by decide +kernel)) ggX6_spoil_X6_placeOf
set_option maxRecDepth 20000 in
theorem ggX6_spoil_X4_howIs : GoodIn wsX6_spoil wsX4_howIs := goodIn_r _ [23, 24, 38, 39, 40] (by decide +kernel) (by decide +kernel)
set_option maxRecDepth 20000 in
theorem gX6_spoil_X4_howIs : GoodIn wsX6_spoil (wsV RX6 88 RX4 yX4_howIs wsX4_howIs) := goodIn_app (goodIn_of _ (by decide +kernel)) ggX6_spoil_X4_howIs
set_option maxRecDepth 20000 in
theorem ggX6_spoil_X4_setHow : GoodIn wsX6_spoil wsX4_setHow := goodIn_r _ [28, 24, 38, 39, 40] (by decide +kernel) (by decide +kernel)
set_option maxRecDepth 20000 in
theorem gX6_spoil_X4_setHow : GoodIn wsX6_spoil (wsV RX6 92 RX4 yX4_setHow wsX4_setHow) := goodIn_app (goodIn_of _ (by decide +kernel)) ggX6_spoil_X4_setHow
set_option maxRecDepth 20000 in
theorem ggX6_map_X6_needPlace : GoodIn wsX6_map wsX6_needPlace := goodIn_ca (goodIn_r _ [5, 6, 7, 8, 9, 4, 10] (by decide +kernel) (by decide +kernel)) (goodIn_sub (fun _ h => List.mem_cons_of_mem _ (List.mem_append_right _ h)) (by decide +kernel))
set_option maxRecDepth 20000 in
theorem gX6_map_X6_needPlace : GoodIn wsX6_map (va_wsS RX6 58 yX6_needPlace wsX6_needPlace) := goodIn_app (goodIn_of _ (by decide +kernel)) ggX6_map_X6_needPlace
set_option maxRecDepth 20000 in
theorem ggX6_map_X6_placeOf : GoodIn wsX6_map wsX6_placeOf := goodIn_r _ [13] (by decide +kernel) (by decide +kernel)
set_option maxRecDepth 20000 in
theorem gX6_map_X6_placeOf : GoodIn wsX6_map (va_wsS RX6 74 yX6_placeOf wsX6_placeOf) := goodIn_app (goodIn_of _ (by decide +kernel)) ggX6_map_X6_placeOf
set_option maxRecDepth 20000 in
theorem ggX6_map_X4_setMapped : GoodIn wsX6_map wsX4_setMapped := goodIn_r _ [18, 19, 33, 34, 35] (by decide +kernel) (by decide +kernel)
set_option maxRecDepth 20000 in
theorem gX6_map_X4_setMapped : GoodIn wsX6_map (wsV RX6 95 RX4 yX4_setMapped wsX4_setMapped) := goodIn_app (goodIn_of _ (by decide +kernel)) ggX6_map_X4_setMapped
set_option maxRecDepth 20000 in
theorem ggX6_map_X4_countMapped : GoodIn wsX6_map wsX4_countMapped := goodIn_r _ [23, 19, 33, 34, 35] (by decide +kernel) (by decide +kernel)
set_option maxRecDepth 20000 in
theorem gX6_map_X4_countMapped : GoodIn wsX6_map (wsV RX6 99 RX4 yX4_countMapped wsX4_countMapped) := goodIn_app (goodIn_of _ (by decide +kernel)) ggX6_map_X4_countMapped
/-- painting: a row, the rows -/
def paX (sh : Nat → Nat) (x y co : Nat) : Nat → Nat → Nat
  | 0 => sh
  | i + 1 => pcN (paX sh x y co i) (8 * y + (x + i)) co
def paY (sh : Nat → Nat) (x y co n : Nat) : Nat → Nat → Nat
  | 0 => sh
  | j + 1 => paX (paY sh x y co n j) x (y + j) co n
theorem pcN_lt {sh : Nat → Nat} (h : ∀ i, i < 192 → sh i < 256) (pl : Nat) {co : Nat} (hc : co < 16777216) : ∀ i, i < 192 → pcN sh pl co i < 256 := by
  intro i hi
  unfold pcN
  split
  · exact Nat.mod_lt _ (by omega)
  · split
    · exact Nat.mod_lt _ (by omega)
    · split
      · exact Nat.mod_lt _ (by omega)
      · exact h i hi
theorem paX_lt {sh : Nat → Nat} (h : ∀ i, i < 192 → sh i < 256) (x y : Nat) {co : Nat} (hc : co < 16777216) : ∀ n, ∀ i, i < 192 → paX sh x y co n i < 256
  | 0 => h
  | n + 1 => pcN_lt (paX_lt h x y hc n) _ hc
theorem paY_lt {sh : Nat → Nat} (h : ∀ i, i < 192 → sh i < 256) (x y : Nat) {co : Nat} (hc : co < 16777216) (n : Nat) : ∀ m, ∀ i, i < 192 → paY sh x y co n m i < 256
  | 0 => h
  | m + 1 => paX_lt (paY_lt h x y hc n m) x (y + m) hc n
theorem laF_ok {fac : Nat → UInt32} {r g b : Nat} (hr : 0 < r ∧ r < 17) (hg : 0 < g ∧ g < 17) (hb : 0 < b ∧ b < 17) : ∀ k, k < 3 → fin32 (vf_upd (vf_upd (vf_upd fac 0 (quF r)) 1 (quF g)) 2 (quF b) k) := by
  intro k hk
  rcases (show k = 0 ∨ k = 1 ∨ k = 2 by omega) with rfl | rfl | rfl
  · exact finz32_fin (quF_ok r hr.2 hr.1)
  · exact finz32_fin (quF_ok g hg.2 hg.1)
  · exact finz32_fin (quF_ok b hb.2 hb.1)
abbrev rmX6_paint : Room := { frames := 2, cells := 0, slots := 0, locals := 42 }
set_option maxRecDepth 20000 in
theorem iu_X6_paint_6 : ∀ w ∈ u_ws RX6 TX6 9, w ∈ wsX6_paint := by decide +kernel
set_option maxRecDepth 20000 in
theorem il_X6_paint_12 : (Cond.fieldLink RX6 12 "BayerGate" "scene" "LBayerGate$Scene;") ∈ wsX6_paint := by decide +kernel
set_option maxHeartbeats 4000000 in
set_option maxRecDepth 100000 in
theorem lX6_paint_x {p : Program} {l : Launch} {e : Env} {s : State} {m : MethodId} {args : Array Value} {below : List Frame} {meth : Method} {c : Code} {Q : State → Prop} {A : Nat → Prop} {H0 : Heap} {cells slots : Nat} (hx : p.tables.exec = Jvm.exec) (hb : c.code = cX6_paint) (hml : c.maxLocals = 8) (hr : meth.sig.returnType = (some .int)) (hts : ∀ w ∈ wsX6_paint, w.before args s = true) (hown : s.vm.findClass RX6 = some m.cls) {G : iG} (hK : KB G s) (hA : ∀ q, H0.size ≤ q → A q) {N : Nat} {ad : Nat → Nat} {C : Nat → va_E}  (hcc : cells ≤ rmX6_paint.cells) (hcs : slots ≤ rmX6_paint.slots) {o : Nat} {S : St} (hcam : Cam G N ad C o S) {x y tx ty co : Nat} (hxy : x ≤ tx ∧ tx < 8 ∧ y ≤ ty ∧ ty < 8) (hco : co < 16777216) {j : Nat} (hj : y + j ≤ ty) (kx : ∀ (H : Heap) (locs : List Loc) (ls : Array Slot), va_P G.1 vwB (wl N ad (va_up C (o + 2) (ia G 192 (fun i9 => nI ((paX (paY (sSh S) x y co (tx - x + 1) j) x (y + j) co (tx - x + 1)) i9))))) H → va_D A (wl N ad (va_up C (o + 2) (ia G 192 (fun i9 => nI ((paX (paY (sSh S) x y co (tx - x + 1) j) x (y + j) co (tx - x + 1)) i9))))) → va_S A H0 H locs → lv_has ls 8 [(6, .int (nI (y + j))), (0, .ref (ad o)), (1, .int (nI x)), (2, .int (nI y)), (3, .int (nI tx)), (4, .int (nI ty)), (5, .int (nI co))] → W p l e rmX6_paint s m args below meth c H locs cells slots Q (F0 m 81 ls [])) : ∀ (d : Nat) (i : Nat) (H : Heap) (locs : List Loc) (ls : Array Slot), tx + 1 - (x + i) < d → x + i ≤ tx + 1 → va_P G.1 vwB (wl N ad (va_up C (o + 2) (ia G 192 (fun i9 => nI ((paX (paY (sSh S) x y co (tx - x + 1) j) x (y + j) co i) i9))))) H → va_D A (wl N ad (va_up C (o + 2) (ia G 192 (fun i9 => nI ((paX (paY (sSh S) x y co (tx - x + 1) j) x (y + j) co i) i9))))) → va_S A H0 H locs → lv_has ls 8 [(7, .int (nI (x + i))), (6, .int (nI (y + j))), (0, .ref (ad o)), (1, .int (nI x)), (2, .int (nI y)), (3, .int (nI tx)), (4, .int (nI ty)), (5, .int (nI co))] → W p l e rmX6_paint s m args below meth c H locs cells slots Q (F0 m 53 ls []) := by
  intro d
  induction d with
  | zero => intro i H locs ls hd; exact absurd hd (Nat.not_lt_zero _)
  | succ d ih =>
    intro i H locs ls hd h2 hP hD hS hl
    obtain ⟨hN, ⟨ok1, ok2, ok3, ok4, ok5, ok6, ok7, ok8, ok9⟩, h0, ⟨s1, s2, s3⟩, ⟨e1, e2, e3⟩, ⟨F7, h7, hF7⟩, ⟨F8, h8, hF8⟩, ⟨TF, tr1, tr2, tr3, tr4, tr5⟩, ⟨TD, dv1, dv2, dv3⟩, ⟨TC, cv1, cv2, cv3⟩, hfr, hfi⟩ := id hcam
    refine lv_iload hx hb dX6_paint_53 (lv_at hl 0 rfl) ?_
    refine lv_iload_n hx hb dX6_paint_55 rfl (lv_at hl 5 rfl) ?_
    refine lv_icmp_gt (tgt := 81) hx hb dX6_paint_56 (by decide) (fun c56 => ?_) (fun c56 => ?_)
    · have h5 : i = tx - x + 1 := by have := (nI_ltI (by omega) (by omega)).mp c56; omega
      subst h5
      exact kx H locs ls hP hD hS (lv_sub hl [1, 2, 3, 4, 5, 6, 7] rfl)
    · have h4 : x + i ≤ tx := by have := mt (nI_ltI (by omega) (by omega)).mpr c56; omega
      refine lv_aload_n hx hb dX6_paint_59 rfl (lv_at hl 2 rfl) ?_
      refine iw_get hx hb hts iu_X6_paint_6 hown hK hP (by omega) ((va_un _ _ (by omega)).trans (h0)) rfl 0 (by decide) (hts _ il_X6_paint_12) (fun _ h9 => h9) rfl dX6_paint_60 ?_
      refine lv_iload hx hb dX6_paint_63 (lv_at hl 0 rfl) ?_
      refine lv_iload hx hb dX6_paint_65 (lv_at hl 1 rfl) ?_
      refine iw_pi (va_runS (As := [.int (nI (x + i)), .int (nI (y + j))]) (rest := [.ref (ad (o + 1))]) ⟨hx, hb, hml, hown, hts⟩ (kX6_placeOf l (x + i) (y + j)) (va_cwS 2 hts gX6_paint_X6_placeOf rfl rfl rfl (by decide +kernel) ⟨Nat.le_of_ble_eq_true rfl, Nat.le_of_ble_eq_true rfl⟩) ⟨fun a U g mk q => q, fun U hU hW => ⟨rfl, trivial⟩⟩ rfl rfl hl.1 rfl (lv_room (Nat.le_of_ble_eq_true rfl)) dX6_paint_67 ⟨hcc, hcs⟩) hP hS (fun r8 u8 H locs hw8 hP hS => ?_)
      refine lv_asI hw8 ?_
      refine lv_iload hx hb dX6_paint_70 (lv_at hl 7 rfl) ?_
      refine iw_v (va_runV (As := [.int (nI (8 * (y + j) + (x + i))), .int (nI co)]) (rest := []) ⟨hx, hb, hml, hown, hts⟩ (kX3_colourPlace l G N ad _ (by omega) (by omega) (by omega) ((va_un _ _ (by omega)).trans (s1)) (va_us _ _ _) ((va_un _ _ (by omega)).trans (s3)) (8 * (y + j) + (x + i)) co (by omega) (by omega) _) (cwV 2 hts gX6_paint_X3_colourPlace rfl rfl rfl (by decide +kernel) ⟨Nat.le_of_ble_eq_true rfl, Nat.le_of_ble_eq_true rfl⟩) (iPV hK hP hD (by omega) ((va_un _ _ (by omega)).trans (s1)) rfl [.int (nI (8 * (y + j) + (x + i))), .int (nI co)]) rfl rfl hl.1 rfl (lv_room (Nat.le_of_ble_eq_true rfl)) dX6_paint_72 ⟨hcc, hcs⟩) hD hS hA (fun u8 H locs hw8 hP hD hS => ?_)
      rw [hw8] at hP hD
      rw [va_uu] at hP hD
      refine lv_iinc (v := nI ((x + i) + 1)) (lv' := [(7, .int (nI ((x + i) + 1))), (6, .int (nI (y + j))), (0, .ref (ad o)), (1, .int (nI x)), (2, .int (nI y)), (3, .int (nI tx)), (4, .int (nI ty)), (5, .int (nI co))]) hx hb dX6_paint_75 hl (k := 0) rfl (iinc_nat _ 1) (by decide) rfl (fun ls hl => ?_)
      refine lv_goto (tgt := 53) hx hb dX6_paint_78 (by decide) ?_
      exact ih (i + 1) H locs ls (by omega) (by omega) hP hD hS (lv_sub hl [0, 1, 2, 3, 4, 5, 6, 7] rfl)
set_option maxHeartbeats 4000000 in
set_option maxRecDepth 100000 in
theorem lX6_paint_y {p : Program} {l : Launch} {e : Env} {s : State} {m : MethodId} {args : Array Value} {below : List Frame} {meth : Method} {c : Code} {Q : State → Prop} {A : Nat → Prop} {H0 : Heap} {cells slots : Nat} (hx : p.tables.exec = Jvm.exec) (hb : c.code = cX6_paint) (hml : c.maxLocals = 8) (hr : meth.sig.returnType = (some .int)) (hts : ∀ w ∈ wsX6_paint, w.before args s = true) (hown : s.vm.findClass RX6 = some m.cls) {G : iG} (hK : KB G s) (hA : ∀ q, H0.size ≤ q → A q) {N : Nat} {ad : Nat → Nat} {C : Nat → va_E}  (hcc : cells ≤ rmX6_paint.cells) (hcs : slots ≤ rmX6_paint.slots) {o : Nat} {S : St} (hcam : Cam G N ad C o S) {x y tx ty co : Nat} (hxy : x ≤ tx ∧ tx < 8 ∧ y ≤ ty ∧ ty < 8) (hco : co < 16777216) (kx : ∀ (H : Heap) (locs : List Loc) (ls : Array Slot), va_P G.1 vwB (wl N ad (va_up C (o + 2) (ia G 192 (fun i9 => nI ((paY (sSh S) x y co (tx - x + 1) (ty - y + 1)) i9))))) H → va_D A (wl N ad (va_up C (o + 2) (ia G 192 (fun i9 => nI ((paY (sSh S) x y co (tx - x + 1) (ty - y + 1)) i9))))) → va_S A H0 H locs → lv_has ls 8 [(0, .ref (ad o)), (1, .int (nI x)), (2, .int (nI y)), (3, .int (nI tx)), (4, .int (nI ty)), (5, .int (nI co))] → W p l e rmX6_paint s m args below meth c H locs cells slots Q (F0 m 87 ls [])) : ∀ (d : Nat) (j : Nat) (H : Heap) (locs : List Loc) (ls : Array Slot), ty + 1 - (y + j) < d → y + j ≤ ty + 1 → va_P G.1 vwB (wl N ad (va_up C (o + 2) (ia G 192 (fun i9 => nI ((paY (sSh S) x y co (tx - x + 1) j) i9))))) H → va_D A (wl N ad (va_up C (o + 2) (ia G 192 (fun i9 => nI ((paY (sSh S) x y co (tx - x + 1) j) i9))))) → va_S A H0 H locs → lv_has ls 8 [(6, .int (nI (y + j))), (0, .ref (ad o)), (1, .int (nI x)), (2, .int (nI y)), (3, .int (nI tx)), (4, .int (nI ty)), (5, .int (nI co))] → W p l e rmX6_paint s m args below meth c H locs cells slots Q (F0 m 43 ls []) := by
  intro d
  induction d with
  | zero => intro j H locs ls hd; exact absurd hd (Nat.not_lt_zero _)
  | succ d ih =>
    intro j H locs ls hd h2 hP hD hS hl
    obtain ⟨hN, ⟨ok1, ok2, ok3, ok4, ok5, ok6, ok7, ok8, ok9⟩, h0, ⟨s1, s2, s3⟩, ⟨e1, e2, e3⟩, ⟨F7, h7, hF7⟩, ⟨F8, h8, hF8⟩, ⟨TF, tr1, tr2, tr3, tr4, tr5⟩, ⟨TD, dv1, dv2, dv3⟩, ⟨TC, cv1, cv2, cv3⟩, hfr, hfi⟩ := id hcam
    refine lv_iload hx hb dX6_paint_43 (lv_at hl 0 rfl) ?_
    refine lv_iload hx hb dX6_paint_45 (lv_at hl 5 rfl) ?_
    refine lv_icmp_gt (tgt := 87) hx hb dX6_paint_47 (by decide) (fun c47 => ?_) (fun c47 => ?_)
    · have h5 : j = ty - y + 1 := by have := (nI_ltI (by omega) (by omega)).mp c47; omega
      subst h5
      exact kx H locs ls hP hD hS (lv_sub hl [1, 2, 3, 4, 5, 6] rfl)
    · have h4 : y + j ≤ ty := by have := mt (nI_ltI (by omega) (by omega)).mpr c47; omega
      refine lv_iload_n hx hb dX6_paint_50 rfl (lv_at hl 2 rfl) ?_
      refine lv_istore (lv' := [(7, .int (nI x)), (6, .int (nI (y + j))), (0, .ref (ad o)), (1, .int (nI x)), (2, .int (nI y)), (3, .int (nI tx)), (4, .int (nI ty)), (5, .int (nI co))]) hx hb dX6_paint_51 hl (by decide) rfl (fun ls hl => ?_)
      refine lX6_paint_x hx hb hml hr hts hown hK hA hcc hcs hcam hxy hco h4 (fun H locs ls hP hD hS hl => ?_) (tx + 2) 0 H locs ls (by omega) (by omega) hP hD hS (lv_sub hl [0, 1, 2, 3, 4, 5, 6, 7] rfl)
      refine lv_iinc (v := nI ((y + j) + 1)) (lv' := [(6, .int (nI ((y + j) + 1))), (0, .ref (ad o)), (1, .int (nI x)), (2, .int (nI y)), (3, .int (nI tx)), (4, .int (nI ty)), (5, .int (nI co))]) hx hb dX6_paint_81 hl (k := 0) rfl (iinc_nat _ 1) (by decide) rfl (fun ls hl => ?_)
      refine lv_goto (tgt := 43) hx hb dX6_paint_84 (by decide) ?_
      exact ih (j + 1) H locs ls (by omega) (by omega) hP hD hS (lv_sub hl [0, 1, 2, 3, 4, 5, 6] rfl)
set_option maxRecDepth 20000 in
theorem il_X6_paint_69 : (Cond.constant RX6 69 (16777215)) ∈ wsX6_paint := by decide +kernel
set_option maxHeartbeats 4000000 in
set_option maxRecDepth 100000 in
theorem kX6_paint (l : Launch) (G : iG) (N : Nat) (ad : Nat → Nat) (C : Nat → va_E) (o : Nat) (S : St) (hcam : Cam G N ad C o S) (x y tx ty co : Nat) (hxy : x ≤ tx ∧ tx < 8 ∧ y ≤ ty ∧ ty < 8) (hco : co < 16777216) (sz : Nat) : Met l yX6_paint wsX6_paint rmX6_paint (iPre G N ad C sz [.ref (ad o), .int (nI x), .int (nI y), .int (nI tx), .int (nI ty), .int (nI co)]) (va_Qi (fun (r : Int32) (u : Nat → va_E) => r = nI ((tx - x + 1) * (ty - y + 1)) ∧ Cam G N ad u o (mkS (paY (sSh S) x y co (tx - x + 1) (ty - y + 1)) (sFac S) (sGq S) (sHw S) (sMp S) (sDr S) (sFn S) (sFl S) (sFr S) (sFi S)) ∧ same C u o) (iB G N ad) (iA N ad sz)) 0 0 (iA N ad sz) := by
  refine Met.ofW (cc := cX6_paint) (maxL := 8) (ret := (some .int)) (by decide) rfl ?_
  intro p e s m args below meth c s₁ B hml hv
  obtain ⟨rfl, hsz, hP, hK, hD0⟩ := hv
  have hx := B.exec
  have hb := B.bytes
  have hr := B.returns
  have hts := atoms_spec (ws := wsX6_paint) B.pre
  have hown : s.vm.findClass RX6 = some m.cls := findClass_of_methodNamed B.named
  have hlocks := B.notSynchronized
  subst hsz
  have hD := wl_self hD0 s.heap.size
  have hA : ∀ q : Nat, s.heap.size ≤ q → iA N ad s.heap.size q := fun q h => Or.inr h
  have hS : va_S (iA N ad s.heap.size) s.heap s.heap [] := va_S.rf
  have hP : va_P G.1 vwB (wl N ad C) s.heap := hP
  have hl := lv_entry ([.ref (ad o), .int (nI x), .int (nI y), .int (nI tx), .int (nI ty), .int (nI co)]) (n := 8) (Nat.le_of_ble_eq_true rfl)
  rw [lg_entry_eq]
  generalize (lg_sl ([.ref (ad o), .int (nI x), .int (nI y), .int (nI tx), .int (nI ty), .int (nI co)]) ++ List.replicate (8 - (lg_sl ([.ref (ad o), .int (nI x), .int (nI y), .int (nI tx), .int (nI ty), .int (nI co)])).length) Slot.unset).toArray = ls at hl ⊢
  have hl : lv_has ls 8 [(0, .ref (ad o)), (1, .int (nI x)), (2, .int (nI y)), (3, .int (nI tx)), (4, .int (nI ty)), (5, .int (nI co))] := hl
  obtain ⟨hN, ⟨ok1, ok2, ok3, ok4, ok5, ok6, ok7, ok8, ok9⟩, h0, ⟨s1, s2, s3⟩, ⟨e1, e2, e3⟩, ⟨F7, h7, hF7⟩, ⟨F8, h8, hF8⟩, ⟨TF, tr1, tr2, tr3, tr4, tr5⟩, ⟨TD, dv1, dv2, dv3⟩, ⟨TC, cv1, cv2, cv3⟩, hfr, hfi⟩ := id hcam
  refine lv_iload_n hx hb dX6_paint_0 rfl (lv_at hl 1 rfl) ?_
  refine lv_iload_n hx hb dX6_paint_1 rfl (lv_at hl 2 rfl) ?_
  refine iw_pv (va_runS (As := [.int (nI x), .int (nI y)]) (rest := []) ⟨hx, hb, hml, hown, hts⟩ (kX6_needPlace l (x) (y) (by omega) (by omega)) (va_cwS 2 hts gX6_paint_X6_needPlace rfl rfl rfl (by decide +kernel) ⟨Nat.le_of_ble_eq_true rfl, Nat.le_of_ble_eq_true rfl⟩) ⟨fun a U g mk q => q, fun U hU hW => ⟨rfl, trivial⟩⟩ rfl rfl hl.1 rfl (lv_room (Nat.le_of_ble_eq_true rfl)) dX6_paint_2 ⟨Nat.le_of_ble_eq_true rfl, Nat.le_of_ble_eq_true rfl⟩) hP hS (fun u8 H locs hw8 hP hS => ?_)
  refine lv_iload_n hx hb dX6_paint_5 rfl (lv_at hl 3 rfl) ?_
  refine lv_iload hx hb dX6_paint_6 (lv_at hl 4 rfl) ?_
  refine iw_pv (va_runS (As := [.int (nI tx), .int (nI ty)]) (rest := []) ⟨hx, hb, hml, hown, hts⟩ (kX6_needPlace l (tx) (ty) (by omega) (by omega)) (va_cwS 2 hts gX6_paint_X6_needPlace rfl rfl rfl (by decide +kernel) ⟨Nat.le_of_ble_eq_true rfl, Nat.le_of_ble_eq_true rfl⟩) ⟨fun a U g mk q => q, fun U hU hW => ⟨rfl, trivial⟩⟩ rfl rfl hl.1 rfl (lv_room (Nat.le_of_ble_eq_true rfl)) dX6_paint_8 ⟨Nat.le_of_ble_eq_true rfl, Nat.le_of_ble_eq_true rfl⟩) hP hS (fun u8 H locs hw8 hP hS => ?_)
  refine lv_iload_n hx hb dX6_paint_11 rfl (lv_at hl 3 rfl) ?_
  refine lv_iload_n hx hb dX6_paint_12 rfl (lv_at hl 1 rfl) ?_
  refine lv_icmp_lt (tgt := 22) hx hb dX6_paint_13 (by decide) (fun c9 => absurd c9 (nI_nlt (by omega) (by omega))) (fun _ => ?_)
  refine lv_iload hx hb dX6_paint_16 (lv_at hl 4 rfl) ?_
  refine lv_iload_n hx hb dX6_paint_18 rfl (lv_at hl 2 rfl) ?_
  refine lv_icmp_ge (tgt := 32) hx hb dX6_paint_19 (by decide) (fun _ => ?_) (fun c9 => absurd (nI_le (by omega) (by omega)) c9)
  refine lv_iload hx hb dX6_paint_32 (lv_at hl 5 rfl) ?_
  refine lv_iconst (v := nI 0) hx hb dX6_paint_34 (by decide) ?_
  refine lv_ldc hx hb hown (hts _ il_X6_paint_69) dX6_paint_35 ?_
  refine lv_asI (y := nI 16777215) (by decide) ?_
  refine iw_pv (va_runS (As := [.int (nI co), .int (nI 0), .int (nI 16777215)]) (rest := []) ⟨hx, hb, hml, hown, hts⟩ (kX6_needRange l (nI co) (nI 0) (nI 16777215) (nI_nlt (by omega) (by omega)) (nI_le (by omega) (by omega))) (va_cwS 3 hts gX6_paint_X6_needRange rfl rfl rfl (by decide +kernel) ⟨Nat.le_of_ble_eq_true rfl, Nat.le_of_ble_eq_true rfl⟩) ⟨fun a U g mk q => q, fun U hU hW => ⟨rfl, trivial⟩⟩ rfl rfl hl.1 rfl (lv_room (Nat.le_of_ble_eq_true rfl)) dX6_paint_37 ⟨Nat.le_of_ble_eq_true rfl, Nat.le_of_ble_eq_true rfl⟩) hP hS (fun u8 H locs hw8 hP hS => ?_)
  refine lv_iload_n hx hb dX6_paint_40 rfl (lv_at hl 2 rfl) ?_
  refine lv_istore (lv' := [(6, .int (nI y)), (0, .ref (ad o)), (1, .int (nI x)), (2, .int (nI y)), (3, .int (nI tx)), (4, .int (nI ty)), (5, .int (nI co))]) hx hb dX6_paint_41 hl (by decide) rfl (fun ls hl => ?_)
  have hP := wl_selfE hP s2
  have hD := wl_D hD (va_up C (o + 2) (ia G 192 (fun i => nI (sSh S i))))
  refine lX6_paint_y hx hb hml hr hts hown hK hA (Nat.le_refl _) (Nat.le_refl _) hcam hxy hco (fun H locs ls hP hD hS hl => ?_) (ty + 2) 0 _ _ ls (by omega) (by omega) hP hD hS (lv_sub hl [0, 1, 2, 3, 4, 5, 6] rfl)
  refine lv_iload_n hx hb dX6_paint_87 rfl (lv_at hl 3 rfl) ?_
  refine lv_iload_n hx hb dX6_paint_88 rfl (lv_at hl 1 rfl) ?_
  refine lv_isub hx hb dX6_paint_89 ?_
  refine lv_asI (y := nI (tx - x)) (pk_sub (by omega)) ?_
  refine lv_iconst (v := nI 1) hx hb dX6_paint_90 (by decide) ?_
  refine lv_iadd hx hb dX6_paint_91 ?_
  refine lv_asI (y := nI ((tx - x) + 1)) (nI_add _ _) ?_
  refine lv_iload hx hb dX6_paint_92 (lv_at hl 4 rfl) ?_
  refine lv_iload_n hx hb dX6_paint_94 rfl (lv_at hl 2 rfl) ?_
  refine lv_isub hx hb dX6_paint_95 ?_
  refine lv_asI (y := nI (ty - y)) (pk_sub (by omega)) ?_
  refine lv_iconst (v := nI 1) hx hb dX6_paint_96 (by decide) ?_
  refine lv_iadd hx hb dX6_paint_97 ?_
  refine lv_asI (y := nI ((ty - y) + 1)) (nI_add _ _) ?_
  refine lv_imul hx hb dX6_paint_98 ?_
  refine lv_asI (y := nI (((tx - x) + 1) * ((ty - y) + 1))) (pk_mul _ _) ?_
  exact W.iret (v := (nI (((tx - x) + 1) * ((ty - y) + 1)))) hx hb hr (fun t ht hW => ⟨⟨_, _, rfl, ⟨rfl, up_sh hcam (paY_lt ok1 x y hco _ _), same_up (same_rf) _ (by omega) (by omega)⟩, iB_of ht hP⟩, hS.F ht⟩) hS.2.2 dX6_paint_99
abbrev rmX6_lamp : Room := { frames := 1, cells := 0, slots := 0, locals := 23 }
set_option maxRecDepth 20000 in
theorem iu_X6_lamp_6 : ∀ w ∈ u_ws RX6 TX6 9, w ∈ wsX6_lamp := by decide +kernel
set_option maxRecDepth 20000 in
theorem il_X6_lamp_12 : (Cond.fieldLink RX6 12 "BayerGate" "scene" "LBayerGate$Scene;") ∈ wsX6_lamp := by decide +kernel
set_option maxHeartbeats 4000000 in
set_option maxRecDepth 100000 in
theorem kX6_lamp (l : Launch) (G : iG) (N : Nat) (ad : Nat → Nat) (C : Nat → va_E) (o : Nat) (S : St) (hcam : Cam G N ad C o S) (r1 g1 b1 : Nat) (hr1 : 0 < r1 ∧ r1 < 17) (hg1 : 0 < g1 ∧ g1 < 17) (hb1 : 0 < b1 ∧ b1 < 17) (sz : Nat) : Met l yX6_lamp wsX6_lamp rmX6_lamp (iPre G N ad C sz [.ref (ad o), .int (nI r1), .int (nI g1), .int (nI b1)]) (va_Qi (fun (r : Int32) (u : Nat → va_E) => r = nI (sGq S) ∧ Cam G N ad u o (mkS (sSh S) (vf_upd (vf_upd (vf_upd (sFac S) 0 (quF r1)) 1 (quF g1)) 2 (quF b1)) g1 (sHw S) (sMp S) (sDr S) (sFn S) (sFl S) (sFr S) (sFi S)) ∧ same C u o) (iB G N ad) (iA N ad sz)) 0 0 (iA N ad sz) := by
  refine Met.ofW (cc := cX6_lamp) (maxL := 5) (ret := (some .int)) (by decide) rfl ?_
  intro p e s m args below meth c s₁ B hml hv
  obtain ⟨rfl, hsz, hP, hK, hD0⟩ := hv
  have hx := B.exec
  have hb := B.bytes
  have hr := B.returns
  have hts := atoms_spec (ws := wsX6_lamp) B.pre
  have hown : s.vm.findClass RX6 = some m.cls := findClass_of_methodNamed B.named
  have hlocks := B.notSynchronized
  subst hsz
  have hD := wl_self hD0 s.heap.size
  have hA : ∀ q : Nat, s.heap.size ≤ q → iA N ad s.heap.size q := fun q h => Or.inr h
  have hS : va_S (iA N ad s.heap.size) s.heap s.heap [] := va_S.rf
  have hP : va_P G.1 vwB (wl N ad C) s.heap := hP
  have hl := lv_entry ([.ref (ad o), .int (nI r1), .int (nI g1), .int (nI b1)]) (n := 5) (Nat.le_of_ble_eq_true rfl)
  rw [lg_entry_eq]
  generalize (lg_sl ([.ref (ad o), .int (nI r1), .int (nI g1), .int (nI b1)]) ++ List.replicate (5 - (lg_sl ([.ref (ad o), .int (nI r1), .int (nI g1), .int (nI b1)])).length) Slot.unset).toArray = ls at hl ⊢
  have hl : lv_has ls 5 [(0, .ref (ad o)), (1, .int (nI r1)), (2, .int (nI g1)), (3, .int (nI b1))] := hl
  obtain ⟨hN, ⟨ok1, ok2, ok3, ok4, ok5, ok6, ok7, ok8, ok9⟩, h0, ⟨s1, s2, s3⟩, ⟨e1, e2, e3⟩, ⟨F7, h7, hF7⟩, ⟨F8, h8, hF8⟩, ⟨TF, tr1, tr2, tr3, tr4, tr5⟩, ⟨TD, dv1, dv2, dv3⟩, ⟨TC, cv1, cv2, cv3⟩, hfr, hfi⟩ := id hcam
  refine lv_iload_n hx hb dX6_lamp_0 rfl (lv_at hl 1 rfl) ?_
  refine lv_iconst (v := nI 1) hx hb dX6_lamp_1 (by decide) ?_
  refine lv_bipush (v := nI 16) hx hb dX6_lamp_2 (by decide) ?_
  refine iw_pv (va_runS (As := [.int (nI r1), .int (nI 1), .int (nI 16)]) (rest := []) ⟨hx, hb, hml, hown, hts⟩ (kX6_needRange l (nI r1) (nI 1) (nI 16) (nI_nlt (by omega) (by omega)) (nI_le (by omega) (by omega))) (va_cwS 3 hts gX6_lamp_X6_needRange rfl rfl rfl (by decide +kernel) ⟨Nat.le_of_ble_eq_true rfl, Nat.le_of_ble_eq_true rfl⟩) ⟨fun a U g mk q => q, fun U hU hW => ⟨rfl, trivial⟩⟩ rfl rfl hl.1 rfl (lv_room (Nat.le_of_ble_eq_true rfl)) dX6_lamp_4 ⟨Nat.le_of_ble_eq_true rfl, Nat.le_of_ble_eq_true rfl⟩) hP hS (fun u8 H locs hw8 hP hS => ?_)
  refine lv_iload_n hx hb dX6_lamp_7 rfl (lv_at hl 2 rfl) ?_
  refine lv_iconst (v := nI 1) hx hb dX6_lamp_8 (by decide) ?_
  refine lv_bipush (v := nI 16) hx hb dX6_lamp_9 (by decide) ?_
  refine iw_pv (va_runS (As := [.int (nI g1), .int (nI 1), .int (nI 16)]) (rest := []) ⟨hx, hb, hml, hown, hts⟩ (kX6_needRange l (nI g1) (nI 1) (nI 16) (nI_nlt (by omega) (by omega)) (nI_le (by omega) (by omega))) (va_cwS 3 hts gX6_lamp_X6_needRange rfl rfl rfl (by decide +kernel) ⟨Nat.le_of_ble_eq_true rfl, Nat.le_of_ble_eq_true rfl⟩) ⟨fun a U g mk q => q, fun U hU hW => ⟨rfl, trivial⟩⟩ rfl rfl hl.1 rfl (lv_room (Nat.le_of_ble_eq_true rfl)) dX6_lamp_11 ⟨Nat.le_of_ble_eq_true rfl, Nat.le_of_ble_eq_true rfl⟩) hP hS (fun u8 H locs hw8 hP hS => ?_)
  refine lv_iload_n hx hb dX6_lamp_14 rfl (lv_at hl 3 rfl) ?_
  refine lv_iconst (v := nI 1) hx hb dX6_lamp_15 (by decide) ?_
  refine lv_bipush (v := nI 16) hx hb dX6_lamp_16 (by decide) ?_
  refine iw_pv (va_runS (As := [.int (nI b1), .int (nI 1), .int (nI 16)]) (rest := []) ⟨hx, hb, hml, hown, hts⟩ (kX6_needRange l (nI b1) (nI 1) (nI 16) (nI_nlt (by omega) (by omega)) (nI_le (by omega) (by omega))) (va_cwS 3 hts gX6_lamp_X6_needRange rfl rfl rfl (by decide +kernel) ⟨Nat.le_of_ble_eq_true rfl, Nat.le_of_ble_eq_true rfl⟩) ⟨fun a U g mk q => q, fun U hU hW => ⟨rfl, trivial⟩⟩ rfl rfl hl.1 rfl (lv_room (Nat.le_of_ble_eq_true rfl)) dX6_lamp_18 ⟨Nat.le_of_ble_eq_true rfl, Nat.le_of_ble_eq_true rfl⟩) hP hS (fun u8 H locs hw8 hP hS => ?_)
  refine lv_aload_n hx hb dX6_lamp_21 rfl (lv_at hl 0 rfl) ?_
  refine iw_get hx hb hts iu_X6_lamp_6 hown hK hP (by omega) (h0) rfl 0 (by decide) (hts _ il_X6_lamp_12) (fun _ h9 => h9) rfl dX6_lamp_22 ?_
  refine iw_i (va_runV (As := []) (rest := []) ⟨hx, hb, hml, hown, hts⟩ (kX3_greenQuarters l G N ad _ (by omega) (by omega) (by omega) (s1) (s2) (s3) _) (cwV 0 hts gX6_lamp_X3_greenQuarters rfl rfl rfl (by decide +kernel) ⟨Nat.le_of_ble_eq_true rfl, Nat.le_of_ble_eq_true rfl⟩) (iPV hK hP hD (by omega) (s1) rfl []) rfl rfl hl.1 rfl (lv_room (Nat.le_of_ble_eq_true rfl)) dX6_lamp_25 ⟨Nat.le_of_ble_eq_true rfl, Nat.le_of_ble_eq_true rfl⟩) hD hS hA (fun r8 u8 H locs hw8 hP hD hS => ?_)
  obtain ⟨hr8, hu8⟩ := hw8
  refine lv_asI hr8 ?_
  rw [hu8] at hP hD
  refine lv_istore (lv' := [(4, .int (nI (sGq S))), (0, .ref (ad o)), (1, .int (nI r1)), (2, .int (nI g1)), (3, .int (nI b1))]) hx hb dX6_lamp_28 hl (by decide) rfl (fun ls hl => ?_)
  refine lv_aload_n hx hb dX6_lamp_30 rfl (lv_at hl 1 rfl) ?_
  refine iw_get hx hb hts iu_X6_lamp_6 hown hK hP (by omega) (h0) rfl 0 (by decide) (hts _ il_X6_lamp_12) (fun _ h9 => h9) rfl dX6_lamp_31 ?_
  refine lv_iload_n hx hb dX6_lamp_34 rfl (lv_at hl 2 rfl) ?_
  refine lv_iload_n hx hb dX6_lamp_35 rfl (lv_at hl 3 rfl) ?_
  refine lv_iload_n hx hb dX6_lamp_36 rfl (lv_at hl 4 rfl) ?_
  refine iw_v (va_runV (As := [.int (nI r1), .int (nI g1), .int (nI b1)]) (rest := []) ⟨hx, hb, hml, hown, hts⟩ (kX3_light l G N ad _ (by omega) (by omega) (by omega) (s1) (s2) (s3) r1 g1 b1 hr1 hg1 hb1 _) (cwV 3 hts gX6_lamp_X3_light rfl rfl rfl (by decide +kernel) ⟨Nat.le_of_ble_eq_true rfl, Nat.le_of_ble_eq_true rfl⟩) (iPV hK hP hD (by omega) (s1) rfl [.int (nI r1), .int (nI g1), .int (nI b1)]) rfl rfl hl.1 rfl (lv_room (Nat.le_of_ble_eq_true rfl)) dX6_lamp_37 ⟨Nat.le_of_ble_eq_true rfl, Nat.le_of_ble_eq_true rfl⟩) hD hS hA (fun u8 H locs hw8 hP hD hS => ?_)
  rw [hw8] at hP hD
  refine lv_iload hx hb dX6_lamp_40 (lv_at hl 0 rfl) ?_
  exact W.iret (v := (nI (sGq S))) hx hb hr (fun t ht hW => ⟨⟨_, _, rfl, ⟨rfl, up_gq (up_fac hcam (laF_ok hr1 hg1 hb1)) hg1.2, same_up (same_up (same_rf) _ (by omega) (by omega)) _ (by omega) (by omega)⟩, iB_of ht hP⟩, hS.F ht⟩) hS.2.2 dX6_lamp_42
abbrev rmX6_spoil : Room := { frames := 2, cells := 0, slots := 0, locals := 42 }
set_option maxRecDepth 20000 in
theorem iu_X6_spoil_6 : ∀ w ∈ u_ws RX6 TX6 9, w ∈ wsX6_spoil := by decide +kernel
set_option maxRecDepth 20000 in
theorem il_X6_spoil_19 : (Cond.fieldLink RX6 19 "BayerGate" "sensor" "LBayerGate$Sensor;") ∈ wsX6_spoil := by decide +kernel
set_option maxHeartbeats 4000000 in
set_option maxRecDepth 100000 in
theorem kX6_spoil (l : Launch) (G : iG) (N : Nat) (ad : Nat → Nat) (C : Nat → va_E) (o : Nat) (S : St) (hcam : Cam G N ad C o S) (x y : Nat) (hx8 : x < 8) (hy8 : y < 8) (v : Nat) (hv3 : v < 3) (sz : Nat) : Met l yX6_spoil wsX6_spoil rmX6_spoil (iPre G N ad C sz [.ref (ad o), .int (nI x), .int (nI y), .int (nI v)]) (va_Qi (fun (r : Int32) (u : Nat → va_E) => r = nI (sHw S (8 * y + x)) ∧ Cam G N ad u o (mkS (sSh S) (sFac S) (sGq S) (va_up (sHw S) (8 * y + x) v) (sMp S) (sDr S) (sFn S) (sFl S) (sFr S) (sFi S)) ∧ same C u o) (iB G N ad) (iA N ad sz)) 0 0 (iA N ad sz) := by
  refine Met.ofW (cc := cX6_spoil) (maxL := 6) (ret := (some .int)) (by decide) rfl ?_
  intro p e s m args below meth c s₁ B hml hv
  obtain ⟨rfl, hsz, hP, hK, hD0⟩ := hv
  have hx := B.exec
  have hb := B.bytes
  have hr := B.returns
  have hts := atoms_spec (ws := wsX6_spoil) B.pre
  have hown : s.vm.findClass RX6 = some m.cls := findClass_of_methodNamed B.named
  have hlocks := B.notSynchronized
  subst hsz
  have hD := wl_self hD0 s.heap.size
  have hA : ∀ q : Nat, s.heap.size ≤ q → iA N ad s.heap.size q := fun q h => Or.inr h
  have hS : va_S (iA N ad s.heap.size) s.heap s.heap [] := va_S.rf
  have hP : va_P G.1 vwB (wl N ad C) s.heap := hP
  have hl := lv_entry ([.ref (ad o), .int (nI x), .int (nI y), .int (nI v)]) (n := 6) (Nat.le_of_ble_eq_true rfl)
  rw [lg_entry_eq]
  generalize (lg_sl ([.ref (ad o), .int (nI x), .int (nI y), .int (nI v)]) ++ List.replicate (6 - (lg_sl ([.ref (ad o), .int (nI x), .int (nI y), .int (nI v)])).length) Slot.unset).toArray = ls at hl ⊢
  have hl : lv_has ls 6 [(0, .ref (ad o)), (1, .int (nI x)), (2, .int (nI y)), (3, .int (nI v))] := hl
  obtain ⟨hN, ⟨ok1, ok2, ok3, ok4, ok5, ok6, ok7, ok8, ok9⟩, h0, ⟨s1, s2, s3⟩, ⟨e1, e2, e3⟩, ⟨F7, h7, hF7⟩, ⟨F8, h8, hF8⟩, ⟨TF, tr1, tr2, tr3, tr4, tr5⟩, ⟨TD, dv1, dv2, dv3⟩, ⟨TC, cv1, cv2, cv3⟩, hfr, hfi⟩ := id hcam
  refine lv_iload_n hx hb dX6_spoil_0 rfl (lv_at hl 1 rfl) ?_
  refine lv_iload_n hx hb dX6_spoil_1 rfl (lv_at hl 2 rfl) ?_
  refine iw_pv (va_runS (As := [.int (nI x), .int (nI y)]) (rest := []) ⟨hx, hb, hml, hown, hts⟩ (kX6_needPlace l (x) (y) (by omega) (by omega)) (va_cwS 2 hts gX6_spoil_X6_needPlace rfl rfl rfl (by decide +kernel) ⟨Nat.le_of_ble_eq_true rfl, Nat.le_of_ble_eq_true rfl⟩) ⟨fun a U g mk q => q, fun U hU hW => ⟨rfl, trivial⟩⟩ rfl rfl hl.1 rfl (lv_room (Nat.le_of_ble_eq_true rfl)) dX6_spoil_2 ⟨Nat.le_of_ble_eq_true rfl, Nat.le_of_ble_eq_true rfl⟩) hP hS (fun u8 H locs hw8 hP hS => ?_)
  refine lv_iload_n hx hb dX6_spoil_5 rfl (lv_at hl 3 rfl) ?_
  refine lv_iconst (v := nI 0) hx hb dX6_spoil_6 (by decide) ?_
  refine lv_iconst (v := nI 2) hx hb dX6_spoil_7 (by decide) ?_
  refine iw_pv (va_runS (As := [.int (nI v), .int (nI 0), .int (nI 2)]) (rest := []) ⟨hx, hb, hml, hown, hts⟩ (kX6_needRange l (nI v) (nI 0) (nI 2) (nI_nlt (by omega) (by omega)) (nI_le (by omega) (by omega))) (va_cwS 3 hts gX6_spoil_X6_needRange rfl rfl rfl (by decide +kernel) ⟨Nat.le_of_ble_eq_true rfl, Nat.le_of_ble_eq_true rfl⟩) ⟨fun a U g mk q => q, fun U hU hW => ⟨rfl, trivial⟩⟩ rfl rfl hl.1 rfl (lv_room (Nat.le_of_ble_eq_true rfl)) dX6_spoil_8 ⟨Nat.le_of_ble_eq_true rfl, Nat.le_of_ble_eq_true rfl⟩) hP hS (fun u8 H locs hw8 hP hS => ?_)
  refine lv_iload_n hx hb dX6_spoil_11 rfl (lv_at hl 1 rfl) ?_
  refine lv_iload_n hx hb dX6_spoil_12 rfl (lv_at hl 2 rfl) ?_
  refine iw_pi (va_runS (As := [.int (nI x), .int (nI y)]) (rest := []) ⟨hx, hb, hml, hown, hts⟩ (kX6_placeOf l (x) (y)) (va_cwS 2 hts gX6_spoil_X6_placeOf rfl rfl rfl (by decide +kernel) ⟨Nat.le_of_ble_eq_true rfl, Nat.le_of_ble_eq_true rfl⟩) ⟨fun a U g mk q => q, fun U hU hW => ⟨rfl, trivial⟩⟩ rfl rfl hl.1 rfl (lv_room (Nat.le_of_ble_eq_true rfl)) dX6_spoil_13 ⟨Nat.le_of_ble_eq_true rfl, Nat.le_of_ble_eq_true rfl⟩) hP hS (fun r8 u8 H locs hw8 hP hS => ?_)
  refine lv_asI hw8 ?_
  refine lv_istore (lv' := [(4, .int (nI (8 * y + x))), (0, .ref (ad o)), (1, .int (nI x)), (2, .int (nI y)), (3, .int (nI v))]) hx hb dX6_spoil_16 hl (by decide) rfl (fun ls hl => ?_)
  refine lv_aload_n hx hb dX6_spoil_18 rfl (lv_at hl 1 rfl) ?_
  refine iw_get hx hb hts iu_X6_spoil_6 hown hK hP (by omega) (h0) rfl 1 (by decide) (hts _ il_X6_spoil_19) (fun _ h9 => h9) rfl dX6_spoil_19 ?_
  refine lv_iload hx hb dX6_spoil_22 (lv_at hl 0 rfl) ?_
  refine iw_i (va_runV (As := [.int (nI (8 * y + x))]) (rest := []) ⟨hx, hb, hml, hown, hts⟩ (kX4_howIs l G N ad _ (by omega) (by omega) (by omega) (e1) (e2) (e3) (8 * y + x) (by omega) _) (cwV 1 hts gX6_spoil_X4_howIs rfl rfl rfl (by decide +kernel) ⟨Nat.le_of_ble_eq_true rfl, Nat.le_of_ble_eq_true rfl⟩) (iPV hK hP hD (by omega) (e1) rfl [.int (nI (8 * y + x))]) rfl rfl hl.1 rfl (lv_room (Nat.le_of_ble_eq_true rfl)) dX6_spoil_24 ⟨Nat.le_of_ble_eq_true rfl, Nat.le_of_ble_eq_true rfl⟩) hD hS hA (fun r8 u8 H locs hw8 hP hD hS => ?_)
  obtain ⟨hr8, hu8⟩ := hw8
  refine lv_asI hr8 ?_
  rw [hu8] at hP hD
  refine lv_istore (lv' := [(5, .int (nI (sHw S (8 * y + x)))), (4, .int (nI (8 * y + x))), (0, .ref (ad o)), (1, .int (nI x)), (2, .int (nI y)), (3, .int (nI v))]) hx hb dX6_spoil_27 hl (by decide) rfl (fun ls hl => ?_)
  refine lv_aload_n hx hb dX6_spoil_29 rfl (lv_at hl 2 rfl) ?_
  refine iw_get hx hb hts iu_X6_spoil_6 hown hK hP (by omega) (h0) rfl 1 (by decide) (hts _ il_X6_spoil_19) (fun _ h9 => h9) rfl dX6_spoil_30 ?_
  refine lv_iload hx hb dX6_spoil_33 (lv_at hl 1 rfl) ?_
  refine lv_iload_n hx hb dX6_spoil_35 rfl (lv_at hl 5 rfl) ?_
  refine iw_v (va_runV (As := [.int (nI (8 * y + x)), .int (nI v)]) (rest := []) ⟨hx, hb, hml, hown, hts⟩ (kX4_setHow l G N ad _ (by omega) (by omega) (by omega) (e1) (e2) (e3) (8 * y + x) v (by omega) _) (cwV 2 hts gX6_spoil_X4_setHow rfl rfl rfl (by decide +kernel) ⟨Nat.le_of_ble_eq_true rfl, Nat.le_of_ble_eq_true rfl⟩) (iPV hK hP hD (by omega) (e1) rfl [.int (nI (8 * y + x)), .int (nI v)]) rfl rfl hl.1 rfl (lv_room (Nat.le_of_ble_eq_true rfl)) dX6_spoil_36 ⟨Nat.le_of_ble_eq_true rfl, Nat.le_of_ble_eq_true rfl⟩) hD hS hA (fun u8 H locs hw8 hP hD hS => ?_)
  rw [hw8] at hP hD
  refine lv_iload hx hb dX6_spoil_39 (lv_at hl 0 rfl) ?_
  exact W.iret (v := (nI (sHw S (8 * y + x)))) hx hb hr (fun t ht hW => ⟨⟨_, _, rfl, ⟨rfl, up_hw hcam (fun i hi => by by_cases e : i = 8 * y + x; subst e; rw [va_us]; exact hv3; rw [va_un _ _ e]; exact ok4 i hi), same_up (same_rf) _ (by omega) (by omega)⟩, iB_of ht hP⟩, hS.F ht⟩) hS.2.2 dX6_spoil_41
abbrev rmX6_map : Room := { frames := 2, cells := 0, slots := 0, locals := 42 }
set_option maxRecDepth 20000 in
theorem iu_X6_map_6 : ∀ w ∈ u_ws RX6 TX6 9, w ∈ wsX6_map := by decide +kernel
set_option maxRecDepth 20000 in
theorem il_X6_map_19 : (Cond.fieldLink RX6 19 "BayerGate" "sensor" "LBayerGate$Sensor;") ∈ wsX6_map := by decide +kernel
set_option maxHeartbeats 4000000 in
set_option maxRecDepth 100000 in
theorem kX6_map (l : Launch) (G : iG) (N : Nat) (ad : Nat → Nat) (C : Nat → va_E) (o : Nat) (S : St) (hcam : Cam G N ad C o S) (x y : Nat) (hx8 : x < 8) (hy8 : y < 8) (b1 : Bool) (sz : Nat) : Met l yX6_map wsX6_map rmX6_map (iPre G N ad C sz [.ref (ad o), .int (nI x), .int (nI y), .int (if b1 then nI 1 else nI 0)]) (va_Qi (fun (r : Int32) (u : Nat → va_E) => r = nI (ctN (va_up (sMp S) (8 * y + x) b1) 64) ∧ Cam G N ad u o (mkS (sSh S) (sFac S) (sGq S) (sHw S) (va_up (sMp S) (8 * y + x) b1) (sDr S) (sFn S) (sFl S) (sFr S) (sFi S)) ∧ same C u o) (iB G N ad) (iA N ad sz)) 0 0 (iA N ad sz) := by
  refine Met.ofW (cc := cX6_map) (maxL := 4) (ret := (some .int)) (by decide) rfl ?_
  intro p e s m args below meth c s₁ B hml hv
  obtain ⟨rfl, hsz, hP, hK, hD0⟩ := hv
  have hx := B.exec
  have hb := B.bytes
  have hr := B.returns
  have hts := atoms_spec (ws := wsX6_map) B.pre
  have hown : s.vm.findClass RX6 = some m.cls := findClass_of_methodNamed B.named
  have hlocks := B.notSynchronized
  subst hsz
  have hD := wl_self hD0 s.heap.size
  have hA : ∀ q : Nat, s.heap.size ≤ q → iA N ad s.heap.size q := fun q h => Or.inr h
  have hS : va_S (iA N ad s.heap.size) s.heap s.heap [] := va_S.rf
  have hP : va_P G.1 vwB (wl N ad C) s.heap := hP
  have hl := lv_entry ([.ref (ad o), .int (nI x), .int (nI y), .int (if b1 then nI 1 else nI 0)]) (n := 4) (Nat.le_of_ble_eq_true rfl)
  rw [lg_entry_eq]
  generalize (lg_sl ([.ref (ad o), .int (nI x), .int (nI y), .int (if b1 then nI 1 else nI 0)]) ++ List.replicate (4 - (lg_sl ([.ref (ad o), .int (nI x), .int (nI y), .int (if b1 then nI 1 else nI 0)])).length) Slot.unset).toArray = ls at hl ⊢
  have hl : lv_has ls 4 [(0, .ref (ad o)), (1, .int (nI x)), (2, .int (nI y)), (3, .int (if b1 then nI 1 else nI 0))] := hl
  obtain ⟨hN, ⟨ok1, ok2, ok3, ok4, ok5, ok6, ok7, ok8, ok9⟩, h0, ⟨s1, s2, s3⟩, ⟨e1, e2, e3⟩, ⟨F7, h7, hF7⟩, ⟨F8, h8, hF8⟩, ⟨TF, tr1, tr2, tr3, tr4, tr5⟩, ⟨TD, dv1, dv2, dv3⟩, ⟨TC, cv1, cv2, cv3⟩, hfr, hfi⟩ := id hcam
  refine lv_iload_n hx hb dX6_map_0 rfl (lv_at hl 1 rfl) ?_
  refine lv_iload_n hx hb dX6_map_1 rfl (lv_at hl 2 rfl) ?_
  refine iw_pv (va_runS (As := [.int (nI x), .int (nI y)]) (rest := []) ⟨hx, hb, hml, hown, hts⟩ (kX6_needPlace l (x) (y) (by omega) (by omega)) (va_cwS 2 hts gX6_map_X6_needPlace rfl rfl rfl (by decide +kernel) ⟨Nat.le_of_ble_eq_true rfl, Nat.le_of_ble_eq_true rfl⟩) ⟨fun a U g mk q => q, fun U hU hW => ⟨rfl, trivial⟩⟩ rfl rfl hl.1 rfl (lv_room (Nat.le_of_ble_eq_true rfl)) dX6_map_2 ⟨Nat.le_of_ble_eq_true rfl, Nat.le_of_ble_eq_true rfl⟩) hP hS (fun u8 H locs hw8 hP hS => ?_)
  refine lv_aload_n hx hb dX6_map_5 rfl (lv_at hl 0 rfl) ?_
  refine iw_get hx hb hts iu_X6_map_6 hown hK hP (by omega) (h0) rfl 1 (by decide) (hts _ il_X6_map_19) (fun _ h9 => h9) rfl dX6_map_6 ?_
  refine lv_iload_n hx hb dX6_map_9 rfl (lv_at hl 1 rfl) ?_
  refine lv_iload_n hx hb dX6_map_10 rfl (lv_at hl 2 rfl) ?_
  refine iw_pi (va_runS (As := [.int (nI x), .int (nI y)]) (rest := [.ref (ad (o + 4))]) ⟨hx, hb, hml, hown, hts⟩ (kX6_placeOf l (x) (y)) (va_cwS 2 hts gX6_map_X6_placeOf rfl rfl rfl (by decide +kernel) ⟨Nat.le_of_ble_eq_true rfl, Nat.le_of_ble_eq_true rfl⟩) ⟨fun a U g mk q => q, fun U hU hW => ⟨rfl, trivial⟩⟩ rfl rfl hl.1 rfl (lv_room (Nat.le_of_ble_eq_true rfl)) dX6_map_11 ⟨Nat.le_of_ble_eq_true rfl, Nat.le_of_ble_eq_true rfl⟩) hP hS (fun r8 u8 H locs hw8 hP hS => ?_)
  refine lv_asI hw8 ?_
  refine lv_iload_n hx hb dX6_map_14 rfl (lv_at hl 3 rfl) ?_
  refine iw_v (va_runV (As := [.int (nI (8 * y + x)), .int (if b1 then nI 1 else nI 0)]) (rest := []) ⟨hx, hb, hml, hown, hts⟩ (kX4_setMapped l G N ad _ (by omega) (by omega) (by omega) (e1) (e2) (e3) (8 * y + x) b1 (by omega) _) (cwV 2 hts gX6_map_X4_setMapped rfl rfl rfl (by decide +kernel) ⟨Nat.le_of_ble_eq_true rfl, Nat.le_of_ble_eq_true rfl⟩) (iPV hK hP hD (by omega) (e1) rfl [.int (nI (8 * y + x)), .int (if b1 then nI 1 else nI 0)]) rfl rfl hl.1 rfl (lv_room (Nat.le_of_ble_eq_true rfl)) dX6_map_15 ⟨Nat.le_of_ble_eq_true rfl, Nat.le_of_ble_eq_true rfl⟩) hD hS hA (fun u8 H locs hw8 hP hD hS => ?_)
  rw [hw8] at hP hD
  refine lv_aload_n hx hb dX6_map_18 rfl (lv_at hl 0 rfl) ?_
  refine iw_get hx hb hts iu_X6_map_6 hown hK hP (by omega) ((va_un _ _ (by omega)).trans (h0)) rfl 1 (by decide) (hts _ il_X6_map_19) (fun _ h9 => h9) rfl dX6_map_19 ?_
  refine iw_i (va_runV (As := []) (rest := []) ⟨hx, hb, hml, hown, hts⟩ (kX4_countMapped l G N ad _ (by omega) (by omega) (by omega) ((va_un _ _ (by omega)).trans (e1)) ((va_un _ _ (by omega)).trans (e2)) (va_us _ _ _) _) (cwV 0 hts gX6_map_X4_countMapped rfl rfl rfl (by decide +kernel) ⟨Nat.le_of_ble_eq_true rfl, Nat.le_of_ble_eq_true rfl⟩) (iPV hK hP hD (by omega) ((va_un _ _ (by omega)).trans (e1)) rfl []) rfl rfl hl.1 rfl (lv_room (Nat.le_of_ble_eq_true rfl)) dX6_map_22 ⟨Nat.le_of_ble_eq_true rfl, Nat.le_of_ble_eq_true rfl⟩) hD hS hA (fun r8 u8 H locs hw8 hP hD hS => ?_)
  obtain ⟨hr8, hu8⟩ := hw8
  refine lv_asI hr8 ?_
  rw [hu8] at hP hD
  exact W.iret (v := (nI (ctN (va_up (sMp S) (8 * y + x) b1) 64))) hx hb hr (fun t ht hW => ⟨⟨_, _, rfl, ⟨rfl, up_mp hcam _, same_up (same_rf) _ (by omega) (by omega)⟩, iB_of ht hP⟩, hS.F ht⟩) hS.2.2 dX6_map_25
