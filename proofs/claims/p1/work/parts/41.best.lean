set_option maxRecDepth 20000 in
theorem ggX9_bestTake_X9_taken : GoodIn wsX9_bestTake wsX9_taken := goodIn_r _ [13, 14, 15, 16, 17, 18, 19, 20, 21, 22, 23, 24, 25, 26, 27, 28, 29, 30, 31, 32, 4, 33, 34, 35, 36, 37, 38, 39, 40, 41, 42, 43, 44, 45, 46, 47, 48, 49, 50, 51, 52, 53, 54, 55, 56, 57, 58, 59, 60, 61, 84, 85, 86, 87, 88, 89, 90, 91, 92, 93, 94, 95, 96, 97, 98, 99] (by decide +kernel) (by decide +kernel)
set_option maxRecDepth 20000 in
theorem gX9_bestTake_X9_taken : GoodIn wsX9_bestTake (wsV RX9 85 RX9 yX9_taken wsX9_taken) := goodIn_app (goodIn_of _ (by decide +kernel)) ggX9_bestTake_X9_taken
set_option maxRecDepth 20000 in
theorem ggX9_bestTake_X7_meter : GoodIn wsX9_bestTake wsX7_meter := goodIn_r _ [65, 66, 67, 68, 69, 30, 70, 46, 71, 32, 4, 33, 92, 93, 94, 95, 96] (by decide +kernel) (by decide +kernel)
set_option maxRecDepth 20000 in
theorem gX9_bestTake_X7_meter : GoodIn wsX9_bestTake (wsV RX9 188 RX7 yX7_meter wsX7_meter) := goodIn_app (goodIn_of _ (by decide +kernel)) ggX9_bestTake_X7_meter
theorem va_mabsD {p : Program} {l : Launch} {e : Env} {R : Room} {s : State} {m : MethodId} {args : Array Value} {below : List Frame} {meth : Method} {c : Code} {H : Heap} {locs : List Loc} {cells slots : Nat} {Q : State → Prop} {pc : Nat} {ls : Array Slot} {rest : List Value} {cc : ByteArray} (hexec : p.tables.exec = Jvm.exec) (hb : c.code = cc) (hml : c.maxLocals = ls.size) {own : String} {index : Nat} (hown : s.vm.findClass own = some m.cls) (hlink : (Cond.methodLink own index Jvm.Free.Fl.Abs.absDN).before args s = true) (hstat : (Cond.static Jvm.Free.Fl.Abs.absDN).before args s = true) (hini : (Cond.initialized "java/lang/Math").before args s = true) (hcode : (Cond.code Jvm.Free.Fl.Abs.absDN Jvm.Free.Fl.Abs.absDCode 2 (some .double)).before args s = true)
    (hframes : 1 ≤ R.frames) (hlocals : (rest.map fun v => v.category).sum + 13 ≤ R.locals) (hc : cells ≤ R.cells) (hs : slots ≤ R.slots) {x : UInt64} (hx9 : x &&& 0x7fffffffffffffff ≤ 0x7ff0000000000000) (hdg : decode cc pc = .ok (.invokestatic index, 3))
    (kk : W p l e R s m args below meth c H locs cells slots Q (F0 m (pc + 3) ls (.double (x &&& 0x7fffffffffffffff) :: rest))) : W p l e R s m args below meth c H locs cells slots Q (F0 m pc ls (.double x :: rest)) := by
  intro T hT X
  obtain ⟨v, vm1, B, hW, X', ⟨hv, hB⟩, st⟩ := callS X hexec (own := own) (index := index) hown hlink hstat hini hcode (by decide) (Jvm.Free.Fl.Abs.absD_pays (W := (rest.map fun v => v.category).sum) x hcode hframes (by omega)) (g := F0 m pc ls (.double x :: rest)) rfl (by rw [hml]) (argsL := [.double x]) (rest := rest) (fun sig h => by
    have h2 : parseMethodDescriptor "(D)D" = some { parameters := [.double], returnType := some .double } := by decide +kernel
    have h3 := Option.some.inj ((show parseMethodDescriptor "(D)D" = some sig from h).symm.trans h2)
    rw [h3]
    rfl) rfl (by show 2 * 0 + _ ≤ _; omega) (by rw [hb]; exact hdg) (fun vm1 h => ⟨hc, hs, rfl, hx9⟩)
  subst hv
  subst hB
  obtain ⟨t, a1, b1⟩ := kk (T.setVm vm1) hT X'
  exact ⟨t, st t a1, b1⟩
def absG (v : Nat) : UInt64 := offF v &&& 0x7fffffffffffffff
theorem absG_ok : ∀ v, v < 256 → offF v &&& 0x7fffffffffffffff ≤ 0x7ff0000000000000 := by decide +kernel
theorem absG_eq : ∀ v, v < 256 → ¬ Op.cmpValue (FP.dcmp (absG v) (absG v)) .l < 0 := by decide +kernel
abbrev rmX9_bestTake_v : Room := { frames := 6, cells := 168, slots := 4032, locals := 129 }
set_option maxRecDepth 20000 in
theorem il_X9_bestTake_204 : (Cond.methodLink RX9 204 Jvm.Free.Fl.Abs.absDN) ∈ wsX9_bestTake := by decide +kernel
set_option maxRecDepth 20000 in
theorem il_X9_bestTake_staabsD : (Cond.static Jvm.Free.Fl.Abs.absDN) ∈ wsX9_bestTake := by decide +kernel
set_option maxRecDepth 20000 in
theorem il_X9_bestTake_iniMath : (Cond.initialized "java/lang/Math") ∈ wsX9_bestTake := by decide +kernel
set_option maxRecDepth 20000 in
theorem il_X9_bestTake_codabsD : (Cond.code Jvm.Free.Fl.Abs.absDN Jvm.Free.Fl.Abs.absDCode 2 (some .double)) ∈ wsX9_bestTake := by decide +kernel
set_option maxHeartbeats 4000000 in
set_option maxRecDepth 100000 in
theorem sX9_best_0 {p : Program} {l : Launch} {e : Env} {s : State} {m : MethodId} {args : Array Value} {below : List Frame} {meth : Method} {c : Code} {Q : State → Prop} {A : Nat → Prop} {cells slots : Nat} (hx : p.tables.exec = Jvm.exec) (hb : c.code = cX9_bestTake) (hml : c.maxLocals = 9) (hts : ∀ w ∈ wsX9_bestTake, w.before args s = true) (hown : s.vm.findClass RX9 = some m.cls) {G : iG} (hK : KB G s) (hV : VX s) {dz : Nat} (hZ : ZD dz A s s.heap) (hA : ∀ q, s.heap.size ≤ q → A q) {N : Nat} {ad : Nat → Nat} {C : Nat → va_E} {mo : Nat} {th : Int32} (hmod : Mod G N ad C mo dz th) {v : Nat} (hv : v < 256) {H : Heap} {locs : List Loc} (hcc : cells + 3 ≤ 168) (hcs : slots + 72 ≤ 4032) (hP : va_P G.1 vwB (wl N ad C) H) (hD : va_D A (wl N ad C)) (hS : va_S A s.heap H locs) {ls : Array Slot} (hl : lv_has ls 9 [(0, .ref (ad mo)), (1, .int (nI v)), (2, .int (nI 0)), (3, .double FP.dconst0), (5, .int (nI 1)), (6, .int (nI 1))]) (kx : ∀ (H : Heap) (locs : List Loc) (ls : Array Slot), va_P G.1 vwB (wl N ad C) H → va_D A (wl N ad C) → va_S A s.heap H locs → lv_has ls 9 [(0, .ref (ad mo)), (1, .int (nI v)), (2, .int (nI 17)), (3, .double (absG v)), (5, .int (nI 1)), (6, .int (nI 2))] → W p l e rmX9_bestTake_v s m args below meth c H locs (cells + 3) (slots + 72) Q (F0 m 39 ls [])) : W p l e rmX9_bestTake_v s m args below meth c H locs cells slots Q (F0 m 46 ls []) := by
  obtain ⟨hN, gm0, gm1, gm2, gm3, gm4, gm5, gm6⟩ := id hmod
  refine lv_aload_n hx hb dX9_bestTake_46 rfl (lv_at hl 0 rfl) ?_
  refine lv_iload hx hb dX9_bestTake_47 (lv_at hl 5 rfl) ?_
  refine lv_iload hx hb dX9_bestTake_49 (lv_at hl 4 rfl) ?_
  refine lv_iconst (v := nI 0) hx hb dX9_bestTake_51 (by decide) ?_
  have hmq1 : Mod G (N) ad (C) mo dz (th) := ⟨by omega, gm0, gm1, gm2, gm3, gm4, gm5, gm6⟩
  refine iwg_r (k := N + 1) (va_runV (As := [.int (nI 1), .int (nI 1), .int (nI 0)]) (rest := []) ⟨hx, hb, hml, hown, hts⟩ (kX9_taken_0 l G (N) ad _ mo dz (th) hmq1 (1) (1) (by omega) (by omega) _) (cwV 3 hts gX9_bestTake_X9_taken rfl rfl rfl (by decide +kernel) ⟨Nat.le_of_ble_eq_true rfl, Nat.le_of_ble_eq_true rfl⟩) (iPVZ hK hV hZ hS hA hP hD (by omega) (gm0) rfl [.int (nI 1), .int (nI 1), .int (nI 0)]) rfl rfl hl.1 rfl (lv_room (Nat.le_of_ble_eq_true rfl)) dX9_bestTake_52 ⟨by omega, by omega⟩) hD hS hA (fun ad1 C1 H locs hw8 hP hD hS => ?_)
  dsimp only at hw8
  obtain ⟨e1, c1, q1_m, q1_r, q1_f⟩ := hw8
  have k1_mo_1 : C1 (mo + 1) = ia G 192 (fun _ => nI 0) := (c1 _ (by omega)).trans (gm1)
  have k1_mo_2 : C1 (mo + 2) = ia G 3 (fun _ => nI 4) := (c1 _ (by omega)).trans (gm2)
  have k1_mo_3 : C1 (mo + 3) = ia G 64 (fun _ => nI 0) := (c1 _ (by omega)).trans (gm3)
  have k1_mo_4 : C1 (mo + 4) = za G 64 (fun _ => nI 0) := (c1 _ (by omega)).trans (gm4)
  have k1_mo_5 : C1 (mo + 5) = ob 10 [.int (nI 0), .ref dz, .int (nI 0)] := (c1 _ (by omega)).trans (gm5)
  have k1_mo_6 : C1 (mo + 6) = ob 10 [.int (nI 0), .ref dz, .int (nI 0)] := (c1 _ (by omega)).trans (gm6)
  have ea1 : ∀ j, j < N → ad1 j = ad j := fun j h => e1 j (by omega)
  have ca1 : ∀ j, j < N → C1 j = C j := fun j h => (c1 j (by omega)).trans (rfl)
  have hl : lv_has ls 9 [(0, .ref (ad1 mo)), (1, .int (nI v)), (2, .int (nI 0)), (3, .double FP.dconst0), (5, .int (nI 1)), (6, .int (nI 1))] := by rw [e1 mo (by omega)]; exact hl
  refine iw_d (va_runV (As := []) (rest := []) ⟨hx, hb, hml, hown, hts⟩ (kX7_meter l G _ ad1 _ dz (N + 1) (N) R0 _ _ _ _ (by omega) (by omega) (q1_f) (q1_r) R0_le _) (cwV 0 hts gX9_bestTake_X7_meter rfl rfl rfl (by decide +kernel) ⟨Nat.le_of_ble_eq_true rfl, Nat.le_of_ble_eq_true rfl⟩) (iPVZ hK hV hZ hS hA hP hD (by omega) (q1_f) rfl []) rfl rfl hl.1 rfl (lv_room (Nat.le_of_ble_eq_true rfl)) dX9_bestTake_55 ⟨by omega, by omega⟩) hD hS hA (fun r8 u8 H locs hw8 hP hD hS => ?_)
  obtain ⟨hr8, hu8⟩ := hw8
  refine lv_asD hr8 ?_
  rw [hu8] at hP hD
  refine lv_asD (y := 4624950526704877568) mt0 ?_
  have hP := wl_cut (N := N) (by omega) ea1 (fun j h => ca1 j h) hP
  have hD := wl_cutD (N := N) (C := C) (by omega) ea1 hD
  have hl : lv_has ls 9 [(0, .ref (ad mo)), (1, .int (nI v)), (2, .int (nI 0)), (3, .double FP.dconst0), (5, .int (nI 1)), (6, .int (nI 1))] := by rw [← ea1 mo (by omega)]; exact hl
  refine lv_iload_n hx hb dX9_bestTake_58 rfl (lv_at hl 1 rfl) ?_
  refine lv_i2d hx hb dX9_bestTake_59 ?_
  refine lv_dsub hx hb dX9_bestTake_60 (isN64_ok (off_n v hv)) ?_
  refine lv_asD (y := offF v) rfl ?_
  refine va_mabsD hx hb (hml.trans hl.1.symm) hown (hts _ il_X9_bestTake_204) (hts _ il_X9_bestTake_staabsD) (hts _ il_X9_bestTake_iniMath) (hts _ il_X9_bestTake_codabsD) (Nat.le_of_ble_eq_true rfl) (Nat.le_of_ble_eq_true rfl) (show cells + 3 ≤ 168 from hcc) (show slots + 72 ≤ 4032 from hcs) (absG_ok v hv) dX9_bestTake_61 ?_
  refine lv_asD (y := absG v) rfl ?_
  refine lv_dstore (lv' := [(7, .double (absG v)), (0, .ref (ad mo)), (1, .int (nI v)), (2, .int (nI 0)), (3, .double FP.dconst0), (5, .int (nI 1)), (6, .int (nI 1))]) hx hb dX9_bestTake_64 hl (by decide) rfl (fun ls hl => ?_)
  refine lv_iload_n hx hb dX9_bestTake_66 rfl (lv_at hl 3 rfl) ?_
  refine lv_if_le (tgt := 80) hx hb dX9_bestTake_67 (by decide) (fun _ => ?_) (fun c9 => absurd (by decide) c9)
  refine lv_bipush (v := nI 16) hx hb dX9_bestTake_80 (by decide) ?_
  refine lv_iload hx hb dX9_bestTake_82 (lv_at hl 6 rfl) ?_
  refine lv_imul hx hb dX9_bestTake_84 ?_
  refine lv_asI (y := nI 16) (pk_mul _ _) ?_
  refine lv_iload hx hb dX9_bestTake_85 (lv_at hl 5 rfl) ?_
  refine lv_iadd hx hb dX9_bestTake_87 ?_
  refine lv_asI (y := nI 17) (nI_add _ _) ?_
  refine lv_istore_n (lv' := [(2, .int (nI 17)), (7, .double (absG v)), (0, .ref (ad mo)), (1, .int (nI v)), (3, .double FP.dconst0), (5, .int (nI 1)), (6, .int (nI 1))]) hx hb dX9_bestTake_88 rfl hl (by decide) rfl (fun ls hl => ?_)
  refine lv_dload hx hb dX9_bestTake_89 (lv_at hl 1 rfl) ?_
  refine lv_dstore_n (lv' := [(3, .double (absG v)), (2, .int (nI 17)), (7, .double (absG v)), (0, .ref (ad mo)), (1, .int (nI v)), (5, .int (nI 1)), (6, .int (nI 1))]) hx hb dX9_bestTake_91 rfl hl (by decide) rfl (fun ls hl => ?_)
  refine lv_iload hx hb dX9_bestTake_92 (lv_at hl 6 rfl) ?_
  refine lv_iconst (v := nI 2) hx hb dX9_bestTake_94 (by decide) ?_
  refine lv_imul hx hb dX9_bestTake_95 ?_
  refine lv_asI (y := nI 2) (pk_mul _ _) ?_
  refine lv_istore (lv' := [(6, .int (nI 2)), (3, .double (absG v)), (2, .int (nI 17)), (7, .double (absG v)), (0, .ref (ad mo)), (1, .int (nI v)), (5, .int (nI 1))]) hx hb dX9_bestTake_96 hl (by decide) rfl (fun ls hl => ?_)
  refine lv_goto (tgt := 39) hx hb dX9_bestTake_98 (by decide) ?_
  exact kx _ _ _ hP hD hS (lv_sub hl [4, 5, 2, 1, 6, 0] rfl)
set_option maxHeartbeats 4000000 in
set_option maxRecDepth 100000 in
theorem sX9_best_1 {p : Program} {l : Launch} {e : Env} {s : State} {m : MethodId} {args : Array Value} {below : List Frame} {meth : Method} {c : Code} {Q : State → Prop} {A : Nat → Prop} {cells slots : Nat} (hx : p.tables.exec = Jvm.exec) (hb : c.code = cX9_bestTake) (hml : c.maxLocals = 9) (hts : ∀ w ∈ wsX9_bestTake, w.before args s = true) (hown : s.vm.findClass RX9 = some m.cls) {G : iG} (hK : KB G s) (hV : VX s) {dz : Nat} (hZ : ZD dz A s s.heap) (hA : ∀ q, s.heap.size ≤ q → A q) {N : Nat} {ad : Nat → Nat} {C : Nat → va_E} {mo : Nat} {th : Int32} (hmod : Mod G N ad C mo dz th) {v : Nat} (hv : v < 256) {t1 g1 : Nat} (ht : 0 < t1 ∧ t1 < 65) (hg : 0 < g1 ∧ g1 < 9) {H : Heap} {locs : List Loc} (hcc : cells + 3 ≤ 168) (hcs : slots + 72 ≤ 4032) (hP : va_P G.1 vwB (wl N ad C) H) (hD : va_D A (wl N ad C)) (hS : va_S A s.heap H locs) {ls : Array Slot} (hl : lv_has ls 9 [(0, .ref (ad mo)), (1, .int (nI v)), (2, .int (nI 17)), (3, .double (absG v)), (5, .int (nI g1)), (6, .int (nI t1))]) (kx : ∀ (H : Heap) (locs : List Loc) (ls : Array Slot), va_P G.1 vwB (wl N ad C) H → va_D A (wl N ad C) → va_S A s.heap H locs → lv_has ls 9 [(0, .ref (ad mo)), (1, .int (nI v)), (2, .int (nI 17)), (3, .double (absG v)), (5, .int (nI g1)), (6, .int (nI (t1 * 2)))] → W p l e rmX9_bestTake_v s m args below meth c H locs (cells + 3) (slots + 72) Q (F0 m 39 ls [])) : W p l e rmX9_bestTake_v s m args below meth c H locs cells slots Q (F0 m 46 ls []) := by
  obtain ⟨hN, gm0, gm1, gm2, gm3, gm4, gm5, gm6⟩ := id hmod
  refine lv_aload_n hx hb dX9_bestTake_46 rfl (lv_at hl 0 rfl) ?_
  refine lv_iload hx hb dX9_bestTake_47 (lv_at hl 5 rfl) ?_
  refine lv_iload hx hb dX9_bestTake_49 (lv_at hl 4 rfl) ?_
  refine lv_iconst (v := nI 0) hx hb dX9_bestTake_51 (by decide) ?_
  have hmq1 : Mod G (N) ad (C) mo dz (th) := ⟨by omega, gm0, gm1, gm2, gm3, gm4, gm5, gm6⟩
  refine iwg_r (k := N + 1) (va_runV (As := [.int (nI t1), .int (nI g1), .int (nI 0)]) (rest := []) ⟨hx, hb, hml, hown, hts⟩ (kX9_taken_0 l G (N) ad _ mo dz (th) hmq1 (t1) (g1) (by omega) (by omega) _) (cwV 3 hts gX9_bestTake_X9_taken rfl rfl rfl (by decide +kernel) ⟨Nat.le_of_ble_eq_true rfl, Nat.le_of_ble_eq_true rfl⟩) (iPVZ hK hV hZ hS hA hP hD (by omega) (gm0) rfl [.int (nI t1), .int (nI g1), .int (nI 0)]) rfl rfl hl.1 rfl (lv_room (Nat.le_of_ble_eq_true rfl)) dX9_bestTake_52 ⟨by omega, by omega⟩) hD hS hA (fun ad1 C1 H locs hw8 hP hD hS => ?_)
  dsimp only at hw8
  obtain ⟨e1, c1, q1_m, q1_r, q1_f⟩ := hw8
  have k1_mo_1 : C1 (mo + 1) = ia G 192 (fun _ => nI 0) := (c1 _ (by omega)).trans (gm1)
  have k1_mo_2 : C1 (mo + 2) = ia G 3 (fun _ => nI 4) := (c1 _ (by omega)).trans (gm2)
  have k1_mo_3 : C1 (mo + 3) = ia G 64 (fun _ => nI 0) := (c1 _ (by omega)).trans (gm3)
  have k1_mo_4 : C1 (mo + 4) = za G 64 (fun _ => nI 0) := (c1 _ (by omega)).trans (gm4)
  have k1_mo_5 : C1 (mo + 5) = ob 10 [.int (nI 0), .ref dz, .int (nI 0)] := (c1 _ (by omega)).trans (gm5)
  have k1_mo_6 : C1 (mo + 6) = ob 10 [.int (nI 0), .ref dz, .int (nI 0)] := (c1 _ (by omega)).trans (gm6)
  have ea1 : ∀ j, j < N → ad1 j = ad j := fun j h => e1 j (by omega)
  have ca1 : ∀ j, j < N → C1 j = C j := fun j h => (c1 j (by omega)).trans (rfl)
  have hl : lv_has ls 9 [(0, .ref (ad1 mo)), (1, .int (nI v)), (2, .int (nI 17)), (3, .double (absG v)), (5, .int (nI g1)), (6, .int (nI t1))] := by rw [e1 mo (by omega)]; exact hl
  refine iw_d (va_runV (As := []) (rest := []) ⟨hx, hb, hml, hown, hts⟩ (kX7_meter l G _ ad1 _ dz (N + 1) (N) R0 _ _ _ _ (by omega) (by omega) (q1_f) (q1_r) R0_le _) (cwV 0 hts gX9_bestTake_X7_meter rfl rfl rfl (by decide +kernel) ⟨Nat.le_of_ble_eq_true rfl, Nat.le_of_ble_eq_true rfl⟩) (iPVZ hK hV hZ hS hA hP hD (by omega) (q1_f) rfl []) rfl rfl hl.1 rfl (lv_room (Nat.le_of_ble_eq_true rfl)) dX9_bestTake_55 ⟨by omega, by omega⟩) hD hS hA (fun r8 u8 H locs hw8 hP hD hS => ?_)
  obtain ⟨hr8, hu8⟩ := hw8
  refine lv_asD hr8 ?_
  rw [hu8] at hP hD
  refine lv_asD (y := 4624950526704877568) mt0 ?_
  have hP := wl_cut (N := N) (by omega) ea1 (fun j h => ca1 j h) hP
  have hD := wl_cutD (N := N) (C := C) (by omega) ea1 hD
  have hl : lv_has ls 9 [(0, .ref (ad mo)), (1, .int (nI v)), (2, .int (nI 17)), (3, .double (absG v)), (5, .int (nI g1)), (6, .int (nI t1))] := by rw [← ea1 mo (by omega)]; exact hl
  refine lv_iload_n hx hb dX9_bestTake_58 rfl (lv_at hl 1 rfl) ?_
  refine lv_i2d hx hb dX9_bestTake_59 ?_
  refine lv_dsub hx hb dX9_bestTake_60 (isN64_ok (off_n v hv)) ?_
  refine lv_asD (y := offF v) rfl ?_
  refine va_mabsD hx hb (hml.trans hl.1.symm) hown (hts _ il_X9_bestTake_204) (hts _ il_X9_bestTake_staabsD) (hts _ il_X9_bestTake_iniMath) (hts _ il_X9_bestTake_codabsD) (Nat.le_of_ble_eq_true rfl) (Nat.le_of_ble_eq_true rfl) (show cells + 3 ≤ 168 from hcc) (show slots + 72 ≤ 4032 from hcs) (absG_ok v hv) dX9_bestTake_61 ?_
  refine lv_asD (y := absG v) rfl ?_
  refine lv_dstore (lv' := [(7, .double (absG v)), (0, .ref (ad mo)), (1, .int (nI v)), (2, .int (nI 17)), (3, .double (absG v)), (5, .int (nI g1)), (6, .int (nI t1))]) hx hb dX9_bestTake_64 hl (by decide) rfl (fun ls hl => ?_)
  refine lv_iload_n hx hb dX9_bestTake_66 rfl (lv_at hl 3 rfl) ?_
  refine lv_if_le (tgt := 80) hx hb dX9_bestTake_67 (by decide) (fun c9 => absurd c9 (by decide)) (fun _ => ?_)
  refine lv_dload hx hb dX9_bestTake_70 (lv_at hl 0 rfl) ?_
  refine lv_dload_n hx hb dX9_bestTake_72 rfl (lv_at hl 4 rfl) ?_
  refine lv_dcmp hx hb dX9_bestTake_73 ?_
  refine lv_if_lt (tgt := 80) hx hb dX9_bestTake_74 (by decide) (fun c9 => absurd c9 (absG_eq v hv)) (fun _ => ?_)
  refine lv_goto (tgt := 92) hx hb dX9_bestTake_77 (by decide) ?_
  refine lv_iload hx hb dX9_bestTake_92 (lv_at hl 6 rfl) ?_
  refine lv_iconst (v := nI 2) hx hb dX9_bestTake_94 (by decide) ?_
  refine lv_imul hx hb dX9_bestTake_95 ?_
  refine lv_asI (y := nI (t1 * 2)) (pk_mul _ _) ?_
  refine lv_istore (lv' := [(6, .int (nI (t1 * 2))), (7, .double (absG v)), (0, .ref (ad mo)), (1, .int (nI v)), (2, .int (nI 17)), (3, .double (absG v)), (5, .int (nI g1))]) hx hb dX9_bestTake_96 hl (by decide) rfl (fun ls hl => ?_)
  refine lv_goto (tgt := 39) hx hb dX9_bestTake_98 (by decide) ?_
  exact kx _ _ _ hP hD hS (lv_sub hl [2, 3, 4, 5, 6, 0] rfl)
