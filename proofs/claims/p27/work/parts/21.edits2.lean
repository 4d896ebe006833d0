set_option maxRecDepth 20000 in
theorem ggX2_scaleColour_X2_indexOf : GoodIn wsX2_scaleColour wsX2_indexOf := goodIn_r _ [5] (by decide +kernel) (by decide +kernel)
set_option maxRecDepth 20000 in
theorem gX2_scaleColour_X2_indexOf : GoodIn wsX2_scaleColour (va_wsS RX2 49 yX2_indexOf wsX2_indexOf) := goodIn_app (goodIn_of _ (by decide +kernel)) ggX2_scaleColour_X2_indexOf
set_option maxRecDepth 20000 in
theorem ggX2_turnOver_X6_placeOf : GoodIn wsX2_turnOver wsX6_placeOf := goodIn_r _ [4] (by decide +kernel) (by decide +kernel)
set_option maxRecDepth 20000 in
theorem gX2_turnOver_X6_placeOf_n54 : GoodIn wsX2_turnOver (wsX6_placeOf) := ggX2_turnOver_X6_placeOf
set_option maxRecDepth 20000 in
theorem ggX2_turnOver_X2_indexOf : GoodIn wsX2_turnOver wsX2_indexOf := goodIn_r _ [8] (by decide +kernel) (by decide +kernel)
set_option maxRecDepth 20000 in
theorem gX2_turnOver_X2_indexOf : GoodIn wsX2_turnOver (va_wsS RX2 49 yX2_indexOf wsX2_indexOf) := goodIn_app (goodIn_of _ (by decide +kernel)) ggX2_turnOver_X2_indexOf
set_option maxRecDepth 20000 in
theorem ggX2_applyEdit_X2_darken : GoodIn wsX2_applyEdit wsX2_darken := goodIn_r _ [6, 7, 28, 29] (by decide +kernel) (by decide +kernel)
set_option maxRecDepth 20000 in
theorem gX2_applyEdit_X2_darken : GoodIn wsX2_applyEdit (wsV RX2 72 RX2 yX2_darken wsX2_darken) := goodIn_app (goodIn_of _ (by decide +kernel)) ggX2_applyEdit_X2_darken
set_option maxRecDepth 20000 in
theorem ggX2_applyEdit_X2_scaleColour : GoodIn wsX2_applyEdit wsX2_scaleColour := goodIn_r _ [11, 7, 12, 13, 5, 14, 28, 29] (by decide +kernel) (by decide +kernel)
set_option maxRecDepth 20000 in
theorem gX2_applyEdit_X2_scaleColour : GoodIn wsX2_applyEdit (wsV RX2 77 RX2 yX2_scaleColour wsX2_scaleColour) := goodIn_app (goodIn_of _ (by decide +kernel)) ggX2_applyEdit_X2_scaleColour
set_option maxRecDepth 20000 in
theorem ggX2_applyEdit_X2_changeTone : GoodIn wsX2_applyEdit wsX2_changeTone := goodIn_r _ [18, 7, 19, 20, 28, 29] (by decide +kernel) (by decide +kernel)
set_option maxRecDepth 20000 in
theorem gX2_applyEdit_X2_changeTone : GoodIn wsX2_applyEdit (wsV RX2 81 RX2 yX2_changeTone wsX2_changeTone) := goodIn_app (goodIn_of _ (by decide +kernel)) ggX2_applyEdit_X2_changeTone
set_option maxRecDepth 20000 in
theorem ggX2_applyEdit_X2_turnOver : GoodIn wsX2_applyEdit wsX2_turnOver := goodIn_r _ [24, 7, 25, 26, 27, 12, 13, 5, 14, 28, 29] (by decide +kernel) (by decide +kernel)
set_option maxRecDepth 20000 in
theorem gX2_applyEdit_X2_turnOver : GoodIn wsX2_applyEdit (wsV RX2 84 RX2 yX2_turnOver wsX2_turnOver) := goodIn_app (goodIn_of _ (by decide +kernel)) ggX2_applyEdit_X2_turnOver
set_option maxRecDepth 20000 in
theorem ggX2_sumTones_X2_indexOf : GoodIn wsX2_sumTones wsX2_indexOf := goodIn_r _ [5] (by decide +kernel) (by decide +kernel)
set_option maxRecDepth 20000 in
theorem gX2_sumTones_X2_indexOf : GoodIn wsX2_sumTones (va_wsS RX2 49 yX2_indexOf wsX2_indexOf) := goodIn_app (goodIn_of _ (by decide +kernel)) ggX2_sumTones_X2_indexOf
set_option maxRecDepth 20000 in
theorem ggX2_sumTones_X2_bounded : GoodIn wsX2_sumTones wsX2_bounded := goodIn_r _ [8, 9] (by decide +kernel) (by decide +kernel)
set_option maxRecDepth 20000 in
theorem gX2_sumTones_X2_bounded : GoodIn wsX2_sumTones (va_wsS RX2 45 yX2_bounded wsX2_bounded) := goodIn_app (goodIn_of _ (by decide +kernel)) ggX2_sumTones_X2_bounded
abbrev rmX2_scaleColour : Room := { frames := 1, cells := 0, slots := 0, locals := 21 }
set_option maxRecDepth 20000 in
theorem iu_X2_scaleColour_2 : ∀ w ∈ u_ws RX2 TX2 2, w ∈ wsX2_scaleColour := by decide +kernel
set_option maxRecDepth 20000 in
theorem il_X2_scaleColour_9 : (Cond.fieldLink RX2 9 "BayerGate$Picture" "numbers" "[F") ∈ wsX2_scaleColour := by decide +kernel
set_option maxHeartbeats 4000000 in
set_option maxRecDepth 100000 in
theorem lX2_scaleColour {p : Program} {l : Launch} {e : Env} {s : State} {m : MethodId} {args : Array Value} {below : List Frame} {meth : Method} {c : Code} {Q : State → Prop} {A : Nat → Prop} {H0 : Heap} {cells slots : Nat} (hx : p.tables.exec = Jvm.exec) (hb : c.code = cX2_scaleColour) (hml : c.maxLocals = 4) (hr : meth.sig.returnType = none) (hts : ∀ w ∈ wsX2_scaleColour, w.before args s = true) (hown : s.vm.findClass RX2 = some m.cls) {G : iG} (hK : KB G s) (hA : ∀ q, H0.size ≤ q → A q) {N : Nat} {ad : Nat → Nat} {C : Nat → va_E}  (hcc : cells ≤ rmX2_scaleColour.cells) (hcs : slots ≤ rmX2_scaleColour.slots) {pb pn pm : Nat} {nu : Nat → UInt32} {md : Nat → Nat} (lpb : pb < N) (lpn : pn < N) (lpm : pm < N) (hpb : C pb = ob 2 [.ref (ad pn), .ref (ad pm)]) (hpn : C pn = fa G 192 nu) (hpm : C pm = ia G 64 (fun i => nI (md i))) (hn9 : ∀ i, i < 192 → vf_n32 (nu i)) {k : Nat} {t : UInt32} (hk3 : k < 3) (ht9 : finz32 t) (kx : ∀ (H : Heap) (locs : List Loc) (ls : Array Slot), va_P G.1 vwB (wl N ad (va_up C pn (fa G 192 (flI (scF k t nu) nu (3 * 64))))) H → va_D A (wl N ad (va_up C pn (fa G 192 (flI (scF k t nu) nu (3 * 64))))) → va_S A H0 H locs → lv_has ls 4 [(0, .ref (ad pb))] → W p l e rmX2_scaleColour s m args below meth c H locs cells slots Q (F0 m 36 ls [])) : ∀ (d : Nat) (z : Nat) (H : Heap) (locs : List Loc) (ls : Array Slot), 64 - z < d → z ≤ 64 → va_P G.1 vwB (wl N ad (va_up C pn (fa G 192 (flI (scF k t nu) nu (3 * z))))) H → va_D A (wl N ad (va_up C pn (fa G 192 (flI (scF k t nu) nu (3 * z))))) → va_S A H0 H locs → lv_has ls 4 [(3, .int (nI z)), (0, .ref (ad pb)), (1, .int (nI k)), (2, .float t)] → W p l e rmX2_scaleColour s m args below meth c H locs cells slots Q (F0 m 2 ls []) := by
  intro d
  induction d with
  | zero => intro z H locs ls hd; exact absurd hd (Nat.not_lt_zero _)
  | succ d ih =>
    intro z H locs ls hd h2 hP hD hS hl
    have n_pb_pn : pb ≠ pn := fun h => by rw [h, hpn] at hpb; simp at hpb
    have n_pb_pm : pb ≠ pm := fun h => by rw [h, hpm] at hpb; simp at hpb
    have n_pn_pm : pn ≠ pm := fun h => by rw [h, hpm] at hpn; simp at hpn
    refine lv_iload_n hx hb dX2_scaleColour_2 rfl (lv_at hl 0 rfl) ?_
    refine lv_bipush (v := nI 64) hx hb dX2_scaleColour_3 (by decide) ?_
    refine lv_icmp_ge (tgt := 36) hx hb dX2_scaleColour_5 (by decide) (fun c5 => ?_) (fun c5 => ?_)
    · have h5 : z = 64 := by have := (nI_leI (by omega) (by omega)).mp c5; omega
      subst h5
      exact kx H locs ls hP hD hS (lv_sub hl [1] rfl)
    · have h4 : z < 64 := by have := mt (nI_leI (by omega) (by omega)).mpr c5; omega
      refine lv_aload_n hx hb dX2_scaleColour_8 rfl (lv_at hl 1 rfl) ?_
      refine iw_get hx hb hts iu_X2_scaleColour_2 hown hK hP lpb ((va_un _ _ n_pb_pn).trans (hpb)) rfl 0 (by decide) (hts _ il_X2_scaleColour_9) (fun _ h9 => h9) rfl dX2_scaleColour_9 ?_
      refine lv_iload_n hx hb dX2_scaleColour_12 rfl (lv_at hl 0 rfl) ?_
      refine lv_iload_n hx hb dX2_scaleColour_13 rfl (lv_at hl 2 rfl) ?_
      refine iw_pi (va_runS (As := [.int (nI z), .int (nI k)]) (rest := [.ref (ad pn)]) ⟨hx, hb, hml, hown, hts⟩ (kX2_indexOf l z k) (va_cwS 2 hts gX2_scaleColour_X2_indexOf rfl rfl rfl (by decide +kernel) ⟨Nat.le_of_ble_eq_true rfl, Nat.le_of_ble_eq_true rfl⟩) ⟨fun a U g mk q => q, fun U hU hW => ⟨rfl, trivial⟩⟩ rfl rfl hl.1 rfl (lv_room (Nat.le_of_ble_eq_true rfl)) dX2_scaleColour_14 ⟨hcc, hcs⟩) hP hS (fun r8 u8 H locs hw8 hP hS => ?_)
      refine lv_asI hw8 ?_
      refine lv_aload_n hx hb dX2_scaleColour_17 rfl (lv_at hl 1 rfl) ?_
      refine iw_get hx hb hts iu_X2_scaleColour_2 hown hK hP lpb ((va_un _ _ n_pb_pn).trans (hpb)) rfl 0 (by decide) (hts _ il_X2_scaleColour_9) (fun _ h9 => h9) rfl dX2_scaleColour_18 ?_
      refine lv_iload_n hx hb dX2_scaleColour_21 rfl (lv_at hl 0 rfl) ?_
      refine lv_iload_n hx hb dX2_scaleColour_22 rfl (lv_at hl 2 rfl) ?_
      refine iw_pi (va_runS (As := [.int (nI z), .int (nI k)]) (rest := [.ref (ad pn), .int (nI (3 * z + k)), .ref (ad pn)]) ⟨hx, hb, hml, hown, hts⟩ (kX2_indexOf l z k) (va_cwS 2 hts gX2_scaleColour_X2_indexOf rfl rfl rfl (by decide +kernel) ⟨Nat.le_of_ble_eq_true rfl, Nat.le_of_ble_eq_true rfl⟩) ⟨fun a U g mk q => q, fun U hU hW => ⟨rfl, trivial⟩⟩ rfl rfl hl.1 rfl (lv_room (Nat.le_of_ble_eq_true rfl)) dX2_scaleColour_23 ⟨hcc, hcs⟩) hP hS (fun r8 u8 H locs hw8 hP hS => ?_)
      refine lv_asI hw8 ?_
      refine iw_fald (v := (flI (scF k t nu) nu (3 * z)) (3 * z + k)) hx hb hK hP lpn (va_us _ _ _) (vp_in_nI (show 3 * z + k < 192 by omega) (by omega)) (congrArg (flI (scF k t nu) nu (3 * z)) (nI_clamp (by omega))) dX2_scaleColour_26 ?_
      refine lv_asF (y := nu (3 * z + k)) (by unfold flI; rw [if_neg (by omega)]) ?_
      refine lv_fload_n hx hb dX2_scaleColour_27 rfl (lv_at hl 3 rfl) ?_
      refine lv_fmul hx hb dX2_scaleColour_28 (fmul_nz (hn9 _ (by omega)) ht9) ?_
      refine iw_fast hx hb hK hP hD hS lpn (va_us _ _ _) (vp_in_nI (show 3 * z + k < 192 by omega) (by omega)) (nI_clamp (by omega)) dX2_scaleColour_29 (fun H locs hP hD hS => ?_)
      rw [va_uu _ _ _ _] at hP hD
      refine lv_iinc (v := nI (z + 1)) (lv' := [(3, .int (nI (z + 1))), (0, .ref (ad pb)), (1, .int (nI k)), (2, .float t)]) hx hb dX2_scaleColour_30 hl (k := 0) rfl (iinc_nat _ 1) (by decide) rfl (fun ls hl => ?_)
      refine lv_goto (tgt := 2) hx hb dX2_scaleColour_33 (by decide) ?_
      rw [scF_up k hk3] at hP hD
      exact ih (z + 1) H locs ls (by omega) (by omega) hP hD hS (lv_sub hl [0, 1, 2, 3] rfl)
set_option maxHeartbeats 4000000 in
set_option maxRecDepth 100000 in
theorem kX2_scaleColour (l : Launch) (G : iG) (N : Nat) (ad : Nat → Nat) (C : Nat → va_E) {pb pn pm : Nat} {nu : Nat → UInt32} {md : Nat → Nat} (lpb : pb < N) (lpn : pn < N) (lpm : pm < N) (hpb : C pb = ob 2 [.ref (ad pn), .ref (ad pm)]) (hpn : C pn = fa G 192 nu) (hpm : C pm = ia G 64 (fun i => nI (md i))) (hn9 : ∀ i, i < 192 → vf_n32 (nu i)) {k : Nat} {t : UInt32} (hk3 : k < 3) (ht9 : finz32 t) (sz : Nat) : Met l yX2_scaleColour wsX2_scaleColour rmX2_scaleColour (iPre G N ad C sz [.ref (ad pb), .int (nI k), .float t]) (va_Qv (fun (u : Nat → va_E) => u = va_up C pn (fa G 192 (scF k t nu))) (iB G N ad) (iA N ad sz)) 0 0 (iA N ad sz) := by
  refine Met.ofW (cc := cX2_scaleColour) (maxL := 4) (ret := none) (by decide) rfl ?_
  intro p e s m args below meth c s₁ B hml hv
  obtain ⟨rfl, hsz, hP, hK, hD0⟩ := hv
  have hx := B.exec
  have hb := B.bytes
  have hr := B.returns
  have hts := atoms_spec (ws := wsX2_scaleColour) B.pre
  have hown : s.vm.findClass RX2 = some m.cls := findClass_of_methodNamed B.named
  have hlocks := B.notSynchronized
  subst hsz
  have hD := wl_self hD0 s.heap.size
  have hA : ∀ q : Nat, s.heap.size ≤ q → iA N ad s.heap.size q := fun q h => Or.inr h
  have hS : va_S (iA N ad s.heap.size) s.heap s.heap [] := va_S.rf
  have hP : va_P G.1 vwB (wl N ad C) s.heap := hP
  have hl := lv_entry ([.ref (ad pb), .int (nI k), .float t]) (n := 4) (Nat.le_of_ble_eq_true rfl)
  rw [lg_entry_eq]
  generalize (lg_sl ([.ref (ad pb), .int (nI k), .float t]) ++ List.replicate (4 - (lg_sl ([.ref (ad pb), .int (nI k), .float t])).length) Slot.unset).toArray = ls at hl ⊢
  have hl : lv_has ls 4 [(0, .ref (ad pb)), (1, .int (nI k)), (2, .float t)] := hl
  have n_pb_pn : pb ≠ pn := fun h => by rw [h, hpn] at hpb; simp at hpb
  have n_pb_pm : pb ≠ pm := fun h => by rw [h, hpm] at hpb; simp at hpb
  have n_pn_pm : pn ≠ pm := fun h => by rw [h, hpm] at hpn; simp at hpn
  refine lv_iconst (v := nI 0) hx hb dX2_scaleColour_0 (by decide) ?_
  refine lv_istore_n (lv' := [(3, .int (nI 0)), (0, .ref (ad pb)), (1, .int (nI k)), (2, .float t)]) hx hb dX2_scaleColour_1 rfl hl (by decide) rfl (fun ls hl => ?_)
  have hP := wl_selfE hP hpn
  have hD := wl_D hD (va_up C pn (fa G 192 nu))
  refine lX2_scaleColour hx hb hml hr hts hown hK hA (Nat.le_refl _) (Nat.le_refl _) lpb lpn lpm hpb hpn hpm hn9 hk3 ht9 (fun H locs ls hP hD hS hl => ?_) 65 0 _ _ ls (by omega) (by omega) (by rw [flI_0]; exact hP) (by rw [flI_0]; exact hD) hS (lv_sub hl [0, 1, 2, 3] rfl)
  have hP := wl_fa (g := scF k t nu) hP (fun k hk => by simp [flI, show k < 192 from hk])
  have hD := wl_D hD (va_up C pn (fa G 192 (scF k t nu)))
  exact W.vret hx hb hr (fun t ht hW => ⟨⟨_, rfl, rfl, iB_of ht hP⟩, hS.F ht⟩) hS.2.2 dX2_scaleColour_36
abbrev rmX2_turnOver : Room := { frames := 1, cells := 0, slots := 0, locals := 21 }
set_option maxRecDepth 20000 in
theorem il_X2_turnOver_iniX6 : (Cond.initialized RX6) ∈ wsX2_turnOver := by decide +kernel
set_option maxRecDepth 20000 in
theorem il_X2_turnOver_st_X6_placeOf : (Cond.static yX6_placeOf) ∈ wsX2_turnOver := by decide +kernel
set_option maxRecDepth 20000 in
theorem iu_X2_turnOver_2 : ∀ w ∈ u_ws RX2 TX2 2, w ∈ wsX2_turnOver := by decide +kernel
set_option maxRecDepth 20000 in
theorem il_X2_turnOver_9 : (Cond.fieldLink RX2 9 "BayerGate$Picture" "numbers" "[F") ∈ wsX2_turnOver := by decide +kernel
set_option maxHeartbeats 4000000 in
set_option maxRecDepth 100000 in
theorem lX2_turnOver_k {p : Program} {l : Launch} {e : Env} {s : State} {m : MethodId} {args : Array Value} {below : List Frame} {meth : Method} {c : Code} {Q : State → Prop} {A : Nat → Prop} {H0 : Heap} {cells slots : Nat} (hx : p.tables.exec = Jvm.exec) (hb : c.code = cX2_turnOver) (hml : c.maxLocals = 7) (hr : meth.sig.returnType = none) (hts : ∀ w ∈ wsX2_turnOver, w.before args s = true) (hown : s.vm.findClass RX2 = some m.cls) {G : iG} (hK : KB G s) (hA : ∀ q, H0.size ≤ q → A q) {N : Nat} {ad : Nat → Nat} {C : Nat → va_E}  (hcc : cells ≤ rmX2_turnOver.cells) (hcs : slots ≤ rmX2_turnOver.slots) {pb pn pm : Nat} {nu : Nat → UInt32} {md : Nat → Nat} (lpb : pb < N) (lpn : pn < N) (lpm : pm < N) (hpb : C pb = ob 2 [.ref (ad pn), .ref (ad pm)]) (hpn : C pn = fa G 192 nu) (hpm : C pm = ia G 64 (fun i => nI (md i))) {x y : Nat} (hx4 : x < 4) (hy8 : y < 8) (kx : ∀ (H : Heap) (locs : List Loc) (ls : Array Slot), va_P G.1 vwB (wl N ad (va_up C pn (fa G 192 (toN nu (12 * y + 3 * x + 3))))) H → va_D A (wl N ad (va_up C pn (fa G 192 (toN nu (12 * y + 3 * x + 3))))) → va_S A H0 H locs → lv_has ls 7 [(2, .int (nI x)), (1, .int (nI y)), (0, .ref (ad pb))] → W p l e rmX2_turnOver s m args below meth c H locs cells slots Q (F0 m 85 ls [])) : ∀ (d : Nat) (k : Nat) (H : Heap) (locs : List Loc) (ls : Array Slot), 3 - k < d → k ≤ 3 → va_P G.1 vwB (wl N ad (va_up C pn (fa G 192 (toN nu (12 * y + 3 * x + k))))) H → va_D A (wl N ad (va_up C pn (fa G 192 (toN nu (12 * y + 3 * x + k))))) → va_S A H0 H locs → lv_has ls 7 [(3, .int (nI k)), (2, .int (nI x)), (1, .int (nI y)), (0, .ref (ad pb))] → W p l e rmX2_turnOver s m args below meth c H locs cells slots Q (F0 m 17 ls []) := by
  intro d
  induction d with
  | zero => intro k H locs ls hd; exact absurd hd (Nat.not_lt_zero _)
  | succ d ih =>
    intro k H locs ls hd h2 hP hD hS hl
    have n_pb_pn : pb ≠ pn := fun h => by rw [h, hpn] at hpb; simp at hpb
    have n_pb_pm : pb ≠ pm := fun h => by rw [h, hpm] at hpb; simp at hpb
    have n_pn_pm : pn ≠ pm := fun h => by rw [h, hpm] at hpn; simp at hpn
    refine lv_iload_n hx hb dX2_turnOver_17 rfl (lv_at hl 0 rfl) ?_
    refine lv_iconst (v := nI 3) hx hb dX2_turnOver_18 (by decide) ?_
    refine lv_icmp_ge (tgt := 85) hx hb dX2_turnOver_19 (by decide) (fun c19 => ?_) (fun c19 => ?_)
    · have h5 : k = 3 := by have := (nI_leI (by omega) (by omega)).mp c19; omega
      subst h5
      exact kx H locs ls hP hD hS (lv_sub hl [1, 2, 3] rfl)
    · have h4 : k < 3 := by have := mt (nI_leI (by omega) (by omega)).mpr c19; omega
      refine lv_iload_n hx hb dX2_turnOver_22 rfl (lv_at hl 1 rfl) ?_
      refine lv_iload_n hx hb dX2_turnOver_23 rfl (lv_at hl 2 rfl) ?_
      refine iw_pi (va_runSN (As := [.int (nI x), .int (nI y)]) (rest := []) ⟨hx, hb, hml, hown, hts⟩ (kX6_placeOf l (x) y) ⟨va_cnB (host := RX6) 2 hts gX2_turnOver_X6_placeOf_n54 rfl rfl rfl (nw_RX2_54 hK.2) (hts _ il_X2_turnOver_iniX6) (by decide +kernel) ⟨Nat.le_of_ble_eq_true rfl, Nat.le_of_ble_eq_true rfl⟩, (hts _ il_X2_turnOver_st_X6_placeOf), trivial⟩ ⟨fun a U g mk q => q, fun U hU hW => ⟨rfl, trivial⟩⟩ rfl rfl hl.1 rfl (lv_room (Nat.le_of_ble_eq_true rfl)) dX2_turnOver_24 ⟨hcc, hcs⟩) hP hS (fun r8 u8 H locs hw8 hP hS => ?_)
      refine lv_asI hw8 ?_
      refine lv_iload_n hx hb dX2_turnOver_27 rfl (lv_at hl 0 rfl) ?_
      refine iw_pi (va_runS (As := [.int (nI (8 * y + x)), .int (nI k)]) (rest := []) ⟨hx, hb, hml, hown, hts⟩ (kX2_indexOf l (8 * y + x) k) (va_cwS 2 hts gX2_turnOver_X2_indexOf rfl rfl rfl (by decide +kernel) ⟨Nat.le_of_ble_eq_true rfl, Nat.le_of_ble_eq_true rfl⟩) ⟨fun a U g mk q => q, fun U hU hW => ⟨rfl, trivial⟩⟩ rfl rfl hl.1 rfl (lv_room (Nat.le_of_ble_eq_true rfl)) dX2_turnOver_28 ⟨hcc, hcs⟩) hP hS (fun r8 u8 H locs hw8 hP hS => ?_)
      refine lv_asI hw8 ?_
      refine lv_istore (lv' := [(4, .int (nI (3 * (8 * y + x) + k))), (3, .int (nI k)), (2, .int (nI x)), (1, .int (nI y)), (0, .ref (ad pb))]) hx hb dX2_turnOver_31 hl (by decide) rfl (fun ls hl => ?_)
      refine lv_bipush (v := nI 7) hx hb dX2_turnOver_33 (by decide) ?_
      refine lv_iload_n hx hb dX2_turnOver_35 rfl (lv_at hl 2 rfl) ?_
      refine lv_isub hx hb dX2_turnOver_36 ?_
      refine lv_asI (y := nI (7 - x)) (pk_sub (by omega)) ?_
      refine lv_iload_n hx hb dX2_turnOver_37 rfl (lv_at hl 3 rfl) ?_
      refine iw_pi (va_runSN (As := [.int (nI (7 - x)), .int (nI y)]) (rest := []) ⟨hx, hb, hml, hown, hts⟩ (kX6_placeOf l (7 - x) y) ⟨va_cnB (host := RX6) 2 hts gX2_turnOver_X6_placeOf_n54 rfl rfl rfl (nw_RX2_54 hK.2) (hts _ il_X2_turnOver_iniX6) (by decide +kernel) ⟨Nat.le_of_ble_eq_true rfl, Nat.le_of_ble_eq_true rfl⟩, (hts _ il_X2_turnOver_st_X6_placeOf), trivial⟩ ⟨fun a U g mk q => q, fun U hU hW => ⟨rfl, trivial⟩⟩ rfl rfl hl.1 rfl (lv_room (Nat.le_of_ble_eq_true rfl)) dX2_turnOver_38 ⟨hcc, hcs⟩) hP hS (fun r8 u8 H locs hw8 hP hS => ?_)
      refine lv_asI hw8 ?_
      refine lv_iload_n hx hb dX2_turnOver_41 rfl (lv_at hl 1 rfl) ?_
      refine iw_pi (va_runS (As := [.int (nI (8 * y + (7 - x))), .int (nI k)]) (rest := []) ⟨hx, hb, hml, hown, hts⟩ (kX2_indexOf l (8 * y + (7 - x)) k) (va_cwS 2 hts gX2_turnOver_X2_indexOf rfl rfl rfl (by decide +kernel) ⟨Nat.le_of_ble_eq_true rfl, Nat.le_of_ble_eq_true rfl⟩) ⟨fun a U g mk q => q, fun U hU hW => ⟨rfl, trivial⟩⟩ rfl rfl hl.1 rfl (lv_room (Nat.le_of_ble_eq_true rfl)) dX2_turnOver_42 ⟨hcc, hcs⟩) hP hS (fun r8 u8 H locs hw8 hP hS => ?_)
      refine lv_asI hw8 ?_
      refine lv_istore (lv' := [(5, .int (nI (3 * (8 * y + (7 - x)) + k))), (4, .int (nI (3 * (8 * y + x) + k))), (3, .int (nI k)), (2, .int (nI x)), (1, .int (nI y)), (0, .ref (ad pb))]) hx hb dX2_turnOver_45 hl (by decide) rfl (fun ls hl => ?_)
      refine lv_aload_n hx hb dX2_turnOver_47 rfl (lv_at hl 5 rfl) ?_
      refine iw_get hx hb hts iu_X2_turnOver_2 hown hK hP lpb ((va_un _ _ n_pb_pn).trans (hpb)) rfl 0 (by decide) (hts _ il_X2_turnOver_9) (fun _ h9 => h9) rfl dX2_turnOver_48 ?_
      refine lv_iload hx hb dX2_turnOver_51 (lv_at hl 1 rfl) ?_
      refine iw_fald (v := (toN nu (12 * y + 3 * x + k)) (3 * (8 * y + x) + k)) hx hb hK hP lpn (va_us _ _ _) (vp_in_nI (show 3 * (8 * y + x) + k < 192 by omega) (by omega)) (congrArg (toN nu (12 * y + 3 * x + k)) (nI_clamp (by omega))) dX2_turnOver_53 ?_
      refine lv_asF (y := nu (3 * (8 * y + x) + k)) (toN_L nu hx4 h4) ?_
      refine lv_fstore (lv' := [(6, .float (nu (3 * (8 * y + x) + k))), (5, .int (nI (3 * (8 * y + (7 - x)) + k))), (4, .int (nI (3 * (8 * y + x) + k))), (3, .int (nI k)), (2, .int (nI x)), (1, .int (nI y)), (0, .ref (ad pb))]) hx hb dX2_turnOver_54 hl (by decide) rfl (fun ls hl => ?_)
      refine lv_aload_n hx hb dX2_turnOver_56 rfl (lv_at hl 6 rfl) ?_
      refine iw_get hx hb hts iu_X2_turnOver_2 hown hK hP lpb ((va_un _ _ n_pb_pn).trans (hpb)) rfl 0 (by decide) (hts _ il_X2_turnOver_9) (fun _ h9 => h9) rfl dX2_turnOver_57 ?_
      refine lv_iload hx hb dX2_turnOver_60 (lv_at hl 2 rfl) ?_
      refine lv_aload_n hx hb dX2_turnOver_62 rfl (lv_at hl 6 rfl) ?_
      refine iw_get hx hb hts iu_X2_turnOver_2 hown hK hP lpb ((va_un _ _ n_pb_pn).trans (hpb)) rfl 0 (by decide) (hts _ il_X2_turnOver_9) (fun _ h9 => h9) rfl dX2_turnOver_63 ?_
      refine lv_iload hx hb dX2_turnOver_66 (lv_at hl 1 rfl) ?_
      refine iw_fald (v := (toN nu (12 * y + 3 * x + k)) (3 * (8 * y + (7 - x)) + k)) hx hb hK hP lpn (va_us _ _ _) (vp_in_nI (show 3 * (8 * y + (7 - x)) + k < 192 by omega) (by omega)) (congrArg (toN nu (12 * y + 3 * x + k)) (nI_clamp (by omega))) dX2_turnOver_68 ?_
      refine lv_asF (y := nu (3 * (8 * y + (7 - x)) + k)) (toN_R nu hx4 h4) ?_
      refine iw_fast hx hb hK hP hD hS lpn (va_us _ _ _) (vp_in_nI (show 3 * (8 * y + x) + k < 192 by omega) (by omega)) (nI_clamp (by omega)) dX2_turnOver_69 (fun H locs hP hD hS => ?_)
      rw [va_uu _ _ _ _] at hP hD
      refine lv_aload_n hx hb dX2_turnOver_70 rfl (lv_at hl 6 rfl) ?_
      refine iw_get hx hb hts iu_X2_turnOver_2 hown hK hP lpb ((va_un _ _ n_pb_pn).trans (hpb)) rfl 0 (by decide) (hts _ il_X2_turnOver_9) (fun _ h9 => h9) rfl dX2_turnOver_71 ?_
      refine lv_iload hx hb dX2_turnOver_74 (lv_at hl 1 rfl) ?_
      refine lv_fload hx hb dX2_turnOver_76 (lv_at hl 0 rfl) ?_
      refine iw_fast hx hb hK hP hD hS lpn (va_us _ _ _) (vp_in_nI (show 3 * (8 * y + (7 - x)) + k < 192 by omega) (by omega)) (nI_clamp (by omega)) dX2_turnOver_78 (fun H locs hP hD hS => ?_)
      rw [va_uu _ _ _ _] at hP hD
      refine lv_iinc (v := nI (k + 1)) (lv' := [(3, .int (nI (k + 1))), (6, .float (nu (3 * (8 * y + x) + k))), (5, .int (nI (3 * (8 * y + (7 - x)) + k))), (4, .int (nI (3 * (8 * y + x) + k))), (2, .int (nI x)), (1, .int (nI y)), (0, .ref (ad pb))]) hx hb dX2_turnOver_79 hl (k := 3) rfl (iinc_nat _ 1) (by decide) rfl (fun ls hl => ?_)
      refine lv_goto (tgt := 17) hx hb dX2_turnOver_82 (by decide) ?_
      rw [toN_up nu hx4 h4] at hP hD
      exact ih (k + 1) H locs ls (by omega) (by omega) hP hD hS (lv_sub hl [0, 4, 5, 6] rfl)
set_option maxHeartbeats 4000000 in
set_option maxRecDepth 100000 in
theorem lX2_turnOver_x {p : Program} {l : Launch} {e : Env} {s : State} {m : MethodId} {args : Array Value} {below : List Frame} {meth : Method} {c : Code} {Q : State → Prop} {A : Nat → Prop} {H0 : Heap} {cells slots : Nat} (hx : p.tables.exec = Jvm.exec) (hb : c.code = cX2_turnOver) (hml : c.maxLocals = 7) (hr : meth.sig.returnType = none) (hts : ∀ w ∈ wsX2_turnOver, w.before args s = true) (hown : s.vm.findClass RX2 = some m.cls) {G : iG} (hK : KB G s) (hA : ∀ q, H0.size ≤ q → A q) {N : Nat} {ad : Nat → Nat} {C : Nat → va_E}  (hcc : cells ≤ rmX2_turnOver.cells) (hcs : slots ≤ rmX2_turnOver.slots) {pb pn pm : Nat} {nu : Nat → UInt32} {md : Nat → Nat} (lpb : pb < N) (lpn : pn < N) (lpm : pm < N) (hpb : C pb = ob 2 [.ref (ad pn), .ref (ad pm)]) (hpn : C pn = fa G 192 nu) (hpm : C pm = ia G 64 (fun i => nI (md i))) {y : Nat} (hy8 : y < 8) (kx : ∀ (H : Heap) (locs : List Loc) (ls : Array Slot), va_P G.1 vwB (wl N ad (va_up C pn (fa G 192 (toN nu (12 * y + 3 * 4))))) H → va_D A (wl N ad (va_up C pn (fa G 192 (toN nu (12 * y + 3 * 4))))) → va_S A H0 H locs → lv_has ls 7 [(1, .int (nI y)), (0, .ref (ad pb))] → W p l e rmX2_turnOver s m args below meth c H locs cells slots Q (F0 m 91 ls [])) : ∀ (d : Nat) (x : Nat) (H : Heap) (locs : List Loc) (ls : Array Slot), 4 - x < d → x ≤ 4 → va_P G.1 vwB (wl N ad (va_up C pn (fa G 192 (toN nu (12 * y + 3 * x))))) H → va_D A (wl N ad (va_up C pn (fa G 192 (toN nu (12 * y + 3 * x))))) → va_S A H0 H locs → lv_has ls 7 [(2, .int (nI x)), (1, .int (nI y)), (0, .ref (ad pb))] → W p l e rmX2_turnOver s m args below meth c H locs cells slots Q (F0 m 10 ls []) := by
  intro d
  induction d with
  | zero => intro x H locs ls hd; exact absurd hd (Nat.not_lt_zero _)
  | succ d ih =>
    intro x H locs ls hd h2 hP hD hS hl
    refine lv_iload_n hx hb dX2_turnOver_10 rfl (lv_at hl 0 rfl) ?_
    refine lv_iconst (v := nI 4) hx hb dX2_turnOver_11 (by decide) ?_
    refine lv_icmp_ge (tgt := 91) hx hb dX2_turnOver_12 (by decide) (fun c12 => ?_) (fun c12 => ?_)
    · have h5 : x = 4 := by have := (nI_leI (by omega) (by omega)).mp c12; omega
      subst h5
      exact kx H locs ls hP hD hS (lv_sub hl [1, 2] rfl)
    · have h4 : x < 4 := by have := mt (nI_leI (by omega) (by omega)).mpr c12; omega
      refine lv_iconst (v := nI 0) hx hb dX2_turnOver_15 (by decide) ?_
      refine lv_istore_n (lv' := [(3, .int (nI 0)), (2, .int (nI x)), (1, .int (nI y)), (0, .ref (ad pb))]) hx hb dX2_turnOver_16 rfl hl (by decide) rfl (fun ls hl => ?_)
      refine lX2_turnOver_k hx hb hml hr hts hown hK hA hcc hcs lpb lpn lpm hpb hpn hpm h4 hy8 (fun H locs ls hP hD hS hl => ?_) 4 0 H locs ls (by omega) (by omega) hP hD hS (lv_sub hl [0, 1, 2, 3] rfl)
      refine lv_iinc (v := nI (x + 1)) (lv' := [(2, .int (nI (x + 1))), (1, .int (nI y)), (0, .ref (ad pb))]) hx hb dX2_turnOver_85 hl (k := 0) rfl (iinc_nat _ 1) (by decide) rfl (fun ls hl => ?_)
      refine lv_goto (tgt := 10) hx hb dX2_turnOver_88 (by decide) ?_
      exact ih (x + 1) H locs ls (by omega) (by omega) hP hD hS (lv_sub hl [0, 1, 2] rfl)
set_option maxHeartbeats 4000000 in
set_option maxRecDepth 100000 in
theorem lX2_turnOver_y {p : Program} {l : Launch} {e : Env} {s : State} {m : MethodId} {args : Array Value} {below : List Frame} {meth : Method} {c : Code} {Q : State → Prop} {A : Nat → Prop} {H0 : Heap} {cells slots : Nat} (hx : p.tables.exec = Jvm.exec) (hb : c.code = cX2_turnOver) (hml : c.maxLocals = 7) (hr : meth.sig.returnType = none) (hts : ∀ w ∈ wsX2_turnOver, w.before args s = true) (hown : s.vm.findClass RX2 = some m.cls) {G : iG} (hK : KB G s) (hA : ∀ q, H0.size ≤ q → A q) {N : Nat} {ad : Nat → Nat} {C : Nat → va_E}  (hcc : cells ≤ rmX2_turnOver.cells) (hcs : slots ≤ rmX2_turnOver.slots) {pb pn pm : Nat} {nu : Nat → UInt32} {md : Nat → Nat} (lpb : pb < N) (lpn : pn < N) (lpm : pm < N) (hpb : C pb = ob 2 [.ref (ad pn), .ref (ad pm)]) (hpn : C pn = fa G 192 nu) (hpm : C pm = ia G 64 (fun i => nI (md i))) (kx : ∀ (H : Heap) (locs : List Loc) (ls : Array Slot), va_P G.1 vwB (wl N ad (va_up C pn (fa G 192 (toN nu (12 * 8))))) H → va_D A (wl N ad (va_up C pn (fa G 192 (toN nu (12 * 8))))) → va_S A H0 H locs → lv_has ls 7 [(0, .ref (ad pb))] → W p l e rmX2_turnOver s m args below meth c H locs cells slots Q (F0 m 97 ls [])) : ∀ (d : Nat) (y : Nat) (H : Heap) (locs : List Loc) (ls : Array Slot), 8 - y < d → y ≤ 8 → va_P G.1 vwB (wl N ad (va_up C pn (fa G 192 (toN nu (12 * y))))) H → va_D A (wl N ad (va_up C pn (fa G 192 (toN nu (12 * y))))) → va_S A H0 H locs → lv_has ls 7 [(1, .int (nI y)), (0, .ref (ad pb))] → W p l e rmX2_turnOver s m args below meth c H locs cells slots Q (F0 m 2 ls []) := by
  intro d
  induction d with
  | zero => intro y H locs ls hd; exact absurd hd (Nat.not_lt_zero _)
  | succ d ih =>
    intro y H locs ls hd h2 hP hD hS hl
    refine lv_iload_n hx hb dX2_turnOver_2 rfl (lv_at hl 0 rfl) ?_
    refine lv_bipush (v := nI 8) hx hb dX2_turnOver_3 (by decide) ?_
    refine lv_icmp_ge (tgt := 97) hx hb dX2_turnOver_5 (by decide) (fun c5 => ?_) (fun c5 => ?_)
    · have h5 : y = 8 := by have := (nI_leI (by omega) (by omega)).mp c5; omega
      subst h5
      exact kx H locs ls hP hD hS (lv_sub hl [1] rfl)
    · have h4 : y < 8 := by have := mt (nI_leI (by omega) (by omega)).mpr c5; omega
      refine lv_iconst (v := nI 0) hx hb dX2_turnOver_8 (by decide) ?_
      refine lv_istore_n (lv' := [(2, .int (nI 0)), (1, .int (nI y)), (0, .ref (ad pb))]) hx hb dX2_turnOver_9 rfl hl (by decide) rfl (fun ls hl => ?_)
      refine lX2_turnOver_x hx hb hml hr hts hown hK hA hcc hcs lpb lpn lpm hpb hpn hpm h4 (fun H locs ls hP hD hS hl => ?_) 5 0 H locs ls (by omega) (by omega) hP hD hS (lv_sub hl [0, 1, 2] rfl)
      refine lv_iinc (v := nI (y + 1)) (lv' := [(1, .int (nI (y + 1))), (0, .ref (ad pb))]) hx hb dX2_turnOver_91 hl (k := 0) rfl (iinc_nat _ 1) (by decide) rfl (fun ls hl => ?_)
      refine lv_goto (tgt := 2) hx hb dX2_turnOver_94 (by decide) ?_
      exact ih (y + 1) H locs ls (by omega) (by omega) hP hD hS (lv_sub hl [0, 1] rfl)
set_option maxHeartbeats 4000000 in
set_option maxRecDepth 100000 in
theorem kX2_turnOver (l : Launch) (G : iG) (N : Nat) (ad : Nat → Nat) (C : Nat → va_E) {pb pn pm : Nat} {nu : Nat → UInt32} {md : Nat → Nat} (lpb : pb < N) (lpn : pn < N) (lpm : pm < N) (hpb : C pb = ob 2 [.ref (ad pn), .ref (ad pm)]) (hpn : C pn = fa G 192 nu) (hpm : C pm = ia G 64 (fun i => nI (md i))) (sz : Nat) : Met l yX2_turnOver wsX2_turnOver rmX2_turnOver (iPre G N ad C sz [.ref (ad pb)]) (va_Qv (fun (u : Nat → va_E) => u = va_up C pn (fa G 192 (fpF nu))) (iB G N ad) (iA N ad sz)) 0 0 (iA N ad sz) := by
  refine Met.ofW (cc := cX2_turnOver) (maxL := 7) (ret := none) (by decide) rfl ?_
  intro p e s m args below meth c s₁ B hml hv
  obtain ⟨rfl, hsz, hP, hK, hD0⟩ := hv
  have hx := B.exec
  have hb := B.bytes
  have hr := B.returns
  have hts := atoms_spec (ws := wsX2_turnOver) B.pre
  have hown : s.vm.findClass RX2 = some m.cls := findClass_of_methodNamed B.named
  have hlocks := B.notSynchronized
  subst hsz
  have hD := wl_self hD0 s.heap.size
  have hA : ∀ q : Nat, s.heap.size ≤ q → iA N ad s.heap.size q := fun q h => Or.inr h
  have hS : va_S (iA N ad s.heap.size) s.heap s.heap [] := va_S.rf
  have hP : va_P G.1 vwB (wl N ad C) s.heap := hP
  have hl := lv_entry ([.ref (ad pb)]) (n := 7) (Nat.le_of_ble_eq_true rfl)
  rw [lg_entry_eq]
  generalize (lg_sl ([.ref (ad pb)]) ++ List.replicate (7 - (lg_sl ([.ref (ad pb)])).length) Slot.unset).toArray = ls at hl ⊢
  have hl : lv_has ls 7 [(0, .ref (ad pb))] := hl
  have n_pb_pn : pb ≠ pn := fun h => by rw [h, hpn] at hpb; simp at hpb
  have n_pb_pm : pb ≠ pm := fun h => by rw [h, hpm] at hpb; simp at hpb
  have n_pn_pm : pn ≠ pm := fun h => by rw [h, hpm] at hpn; simp at hpn
  refine lv_iconst (v := nI 0) hx hb dX2_turnOver_0 (by decide) ?_
  refine lv_istore_n (lv' := [(1, .int (nI 0)), (0, .ref (ad pb))]) hx hb dX2_turnOver_1 rfl hl (by decide) rfl (fun ls hl => ?_)
  have hP := wl_selfE hP hpn
  have hD := wl_D hD (va_up C pn (fa G 192 nu))
  refine lX2_turnOver_y hx hb hml hr hts hown hK hA (Nat.le_refl _) (Nat.le_refl _) lpb lpn lpm hpb hpn hpm (fun H locs ls hP hD hS hl => ?_) 9 0 _ _ ls (by omega) (by omega) (by rw [show 12 * 0 = 0 from rfl, toN_0]; exact hP) (by rw [show 12 * 0 = 0 from rfl, toN_0]; exact hD) hS (lv_sub hl [0, 1] rfl)
  have hP := wl_fa (g := fpF nu) hP (fun k hk => toN_all nu hk)
  have hD := wl_D hD (va_up C pn (fa G 192 (fpF nu)))
  exact W.vret hx hb hr (fun t ht hW => ⟨⟨_, rfl, rfl, iB_of ht hP⟩, hS.F ht⟩) hS.2.2 dX2_turnOver_97
abbrev rmX2_applyEdit : Room := { frames := 2, cells := 0, slots := 0, locals := 47 }
set_option maxRecDepth 20000 in
theorem il_X2_applyEdit_76 : (Cond.constantFloat RX2 76 (1082130432)) ∈ wsX2_applyEdit := by decide +kernel
set_option maxHeartbeats 4000000 in
set_option maxRecDepth 100000 in
theorem kX2_applyEdit (l : Launch) (G : iG) (N : Nat) (ad : Nat → Nat) (C : Nat → va_E) {pb pn pm : Nat} {nu : Nat → UInt32} {md : Nat → Nat} (lpb : pb < N) (lpn : pn < N) (lpm : pm < N) (hpb : C pb = ob 2 [.ref (ad pn), .ref (ad pm)]) (hpn : C pn = fa G 192 nu) (hpm : C pm = ia G 64 (fun i => nI (md i))) (hn9 : ∀ i, i < 192 → vf_n32 (nu i)) (k n : Nat) (hok : okE k n) (sz : Nat) : Met l yX2_applyEdit wsX2_applyEdit rmX2_applyEdit (iPre G N ad C sz [.ref (ad pb), .int (nI k), .int (nI n)]) (va_Qv (fun (u : Nat → va_E) => u = va_up C pn (fa G 192 (apF k n nu))) (iB G N ad) (iA N ad sz)) 0 0 (iA N ad sz) := by
  refine Met.ofW (cc := cX2_applyEdit) (maxL := 3) (ret := none) (by decide) rfl ?_
  intro p e s m args below meth c s₁ B hml hv
  obtain ⟨rfl, hsz, hP, hK, hD0⟩ := hv
  have hx := B.exec
  have hb := B.bytes
  have hr := B.returns
  have hts := atoms_spec (ws := wsX2_applyEdit) B.pre
  have hown : s.vm.findClass RX2 = some m.cls := findClass_of_methodNamed B.named
  have hlocks := B.notSynchronized
  subst hsz
  have hD := wl_self hD0 s.heap.size
  have hA : ∀ q : Nat, s.heap.size ≤ q → iA N ad s.heap.size q := fun q h => Or.inr h
  have hS : va_S (iA N ad s.heap.size) s.heap s.heap [] := va_S.rf
  have hP : va_P G.1 vwB (wl N ad C) s.heap := hP
  have hl := lv_entry ([.ref (ad pb), .int (nI k), .int (nI n)]) (n := 3) (Nat.le_of_ble_eq_true rfl)
  rw [lg_entry_eq]
  generalize (lg_sl ([.ref (ad pb), .int (nI k), .int (nI n)]) ++ List.replicate (3 - (lg_sl ([.ref (ad pb), .int (nI k), .int (nI n)])).length) Slot.unset).toArray = ls at hl ⊢
  have hl : lv_has ls 3 [(0, .ref (ad pb)), (1, .int (nI k)), (2, .int (nI n))] := hl
  have n_pb_pn : pb ≠ pn := fun h => by rw [h, hpn] at hpb; simp at hpb
  have n_pb_pm : pb ≠ pm := fun h => by rw [h, hpm] at hpb; simp at hpb
  have n_pn_pm : pn ≠ pm := fun h => by rw [h, hpm] at hpn; simp at hpn
  refine lv_iload_n hx hb dX2_applyEdit_0 rfl (lv_at hl 1 rfl) ?_
  rcases (show k = 0 ∨ k = 1 ∨ k = 2 ∨ k = 3 ∨ k = 4 ∨ k = 5 by have := hok.1; omega) with rfl | rfl | rfl | rfl | rfl | rfl
  · refine lv_tableIn (off := 35) (tgt := 36) hx hb dX2_applyEdit_1 (by decide) (by decide) (by decide) (by decide) ?_
    refine lv_aload_n hx hb dX2_applyEdit_36 rfl (lv_at hl 0 rfl) ?_
    refine lv_iload_n hx hb dX2_applyEdit_37 rfl (lv_at hl 2 rfl) ?_
    refine iw_v (va_runV (As := [.int (nI n)]) (rest := []) ⟨hx, hb, hml, hown, hts⟩ (kX2_darken l G N ad C lpb lpn lpm hpb hpn hpm hn9 (b := n) hok.2.1 _) (cwV 1 hts gX2_applyEdit_X2_darken rfl rfl rfl (by decide +kernel) ⟨Nat.le_of_ble_eq_true rfl, Nat.le_of_ble_eq_true rfl⟩) (iPV hK hP hD lpb (hpb) rfl [.int (nI n)]) rfl rfl hl.1 rfl (lv_room (Nat.le_of_ble_eq_true rfl)) dX2_applyEdit_38 ⟨Nat.le_of_ble_eq_true rfl, Nat.le_of_ble_eq_true rfl⟩) hD hS hA (fun u8 H locs hw8 hP hD hS => ?_)
    rw [hw8] at hP hD
    refine lv_goto (tgt := 85) hx hb dX2_applyEdit_41 (by decide) ?_
    exact W.vret hx hb hr (fun t ht hW => ⟨⟨_, rfl, rfl, iB_of ht hP⟩, hS.F ht⟩) hS.2.2 dX2_applyEdit_85
  · refine lv_tableIn (off := 43) (tgt := 44) hx hb dX2_applyEdit_1 (by decide) (by decide) (by decide) (by decide) ?_
    refine lv_aload_n hx hb dX2_applyEdit_44 rfl (lv_at hl 0 rfl) ?_
    refine lv_iconst (v := nI 0) hx hb dX2_applyEdit_45 (by decide) ?_
    refine lv_iload_n hx hb dX2_applyEdit_46 rfl (lv_at hl 2 rfl) ?_
    refine lv_i2f hx hb dX2_applyEdit_47 ?_
    refine lv_ldcf hx hb hown (hts _ il_X2_applyEdit_76) dX2_applyEdit_48 ?_
    refine lv_fdiv hx hb dX2_applyEdit_50 (fin32_n (finz32_fin (quF_ok n (hok.2.2.1 (Or.inl rfl)).2 (hok.2.2.1 (Or.inl rfl)).1))) ?_
    refine iw_v (va_runV (As := [.int (nI 0), .float (quF n)]) (rest := []) ⟨hx, hb, hml, hown, hts⟩ (kX2_scaleColour l G N ad C lpb lpn lpm hpb hpn hpm hn9 (k := 0) (t := quF n) (by omega) (quF_ok n (hok.2.2.1 (Or.inl rfl)).2 (hok.2.2.1 (Or.inl rfl)).1) _) (cwV 2 hts gX2_applyEdit_X2_scaleColour rfl rfl rfl (by decide +kernel) ⟨Nat.le_of_ble_eq_true rfl, Nat.le_of_ble_eq_true rfl⟩) (iPV hK hP hD lpb (hpb) rfl [.int (nI 0), .float (quF n)]) rfl rfl hl.1 rfl (lv_room (Nat.le_of_ble_eq_true rfl)) dX2_applyEdit_51 ⟨Nat.le_of_ble_eq_true rfl, Nat.le_of_ble_eq_true rfl⟩) hD hS hA (fun u8 H locs hw8 hP hD hS => ?_)
    rw [hw8] at hP hD
    refine lv_goto (tgt := 85) hx hb dX2_applyEdit_54 (by decide) ?_
    exact W.vret hx hb hr (fun t ht hW => ⟨⟨_, rfl, rfl, iB_of ht hP⟩, hS.F ht⟩) hS.2.2 dX2_applyEdit_85
  · refine lv_tableIn (off := 56) (tgt := 57) hx hb dX2_applyEdit_1 (by decide) (by decide) (by decide) (by decide) ?_
    refine lv_aload_n hx hb dX2_applyEdit_57 rfl (lv_at hl 0 rfl) ?_
    refine lv_iconst (v := nI 2) hx hb dX2_applyEdit_58 (by decide) ?_
    refine lv_iload_n hx hb dX2_applyEdit_59 rfl (lv_at hl 2 rfl) ?_
    refine lv_i2f hx hb dX2_applyEdit_60 ?_
    refine lv_ldcf hx hb hown (hts _ il_X2_applyEdit_76) dX2_applyEdit_61 ?_
    refine lv_fdiv hx hb dX2_applyEdit_63 (fin32_n (finz32_fin (quF_ok n (hok.2.2.1 (Or.inr rfl)).2 (hok.2.2.1 (Or.inr rfl)).1))) ?_
    refine iw_v (va_runV (As := [.int (nI 2), .float (quF n)]) (rest := []) ⟨hx, hb, hml, hown, hts⟩ (kX2_scaleColour l G N ad C lpb lpn lpm hpb hpn hpm hn9 (k := 2) (t := quF n) (by omega) (quF_ok n (hok.2.2.1 (Or.inr rfl)).2 (hok.2.2.1 (Or.inr rfl)).1) _) (cwV 2 hts gX2_applyEdit_X2_scaleColour rfl rfl rfl (by decide +kernel) ⟨Nat.le_of_ble_eq_true rfl, Nat.le_of_ble_eq_true rfl⟩) (iPV hK hP hD lpb (hpb) rfl [.int (nI 2), .float (quF n)]) rfl rfl hl.1 rfl (lv_room (Nat.le_of_ble_eq_true rfl)) dX2_applyEdit_64 ⟨Nat.le_of_ble_eq_true rfl, Nat.le_of_ble_eq_true rfl⟩) hD hS hA (fun u8 H locs hw8 hP hD hS => ?_)
    rw [hw8] at hP hD
    refine lv_goto (tgt := 85) hx hb dX2_applyEdit_67 (by decide) ?_
    exact W.vret hx hb hr (fun t ht hW => ⟨⟨_, rfl, rfl, iB_of ht hP⟩, hS.F ht⟩) hS.2.2 dX2_applyEdit_85
  · refine lv_tableIn (off := 69) (tgt := 70) hx hb dX2_applyEdit_1 (by decide) (by decide) (by decide) (by decide) ?_
    refine lv_aload_n hx hb dX2_applyEdit_70 rfl (lv_at hl 0 rfl) ?_
    refine lv_iload_n hx hb dX2_applyEdit_71 rfl (lv_at hl 2 rfl) ?_
    refine iw_v (va_runV (As := [.int (nI n)]) (rest := []) ⟨hx, hb, hml, hown, hts⟩ (kX2_changeTone l G N ad C lpb lpn lpm hpb hpn hpm hn9 (n := n) (hok.2.2.2 rfl) _) (cwV 1 hts gX2_applyEdit_X2_changeTone rfl rfl rfl (by decide +kernel) ⟨Nat.le_of_ble_eq_true rfl, Nat.le_of_ble_eq_true rfl⟩) (iPV hK hP hD lpb (hpb) rfl [.int (nI n)]) rfl rfl hl.1 rfl (lv_room (Nat.le_of_ble_eq_true rfl)) dX2_applyEdit_72 ⟨Nat.le_of_ble_eq_true rfl, Nat.le_of_ble_eq_true rfl⟩) hD hS hA (fun u8 H locs hw8 hP hD hS => ?_)
    rw [hw8] at hP hD
    refine lv_goto (tgt := 85) hx hb dX2_applyEdit_75 (by decide) ?_
    exact W.vret hx hb hr (fun t ht hW => ⟨⟨_, rfl, rfl, iB_of ht hP⟩, hS.F ht⟩) hS.2.2 dX2_applyEdit_85
  · refine lv_tableIn (off := 77) (tgt := 78) hx hb dX2_applyEdit_1 (by decide) (by decide) (by decide) (by decide) ?_
    refine lv_aload_n hx hb dX2_applyEdit_78 rfl (lv_at hl 0 rfl) ?_
    refine iw_v (va_runV (As := []) (rest := []) ⟨hx, hb, hml, hown, hts⟩ (kX2_turnOver l G N ad C lpb lpn lpm hpb hpn hpm _) (cwV 0 hts gX2_applyEdit_X2_turnOver rfl rfl rfl (by decide +kernel) ⟨Nat.le_of_ble_eq_true rfl, Nat.le_of_ble_eq_true rfl⟩) (iPV hK hP hD lpb (hpb) rfl []) rfl rfl hl.1 rfl (lv_room (Nat.le_of_ble_eq_true rfl)) dX2_applyEdit_79 ⟨Nat.le_of_ble_eq_true rfl, Nat.le_of_ble_eq_true rfl⟩) hD hS hA (fun u8 H locs hw8 hP hD hS => ?_)
    rw [hw8] at hP hD
    refine lv_goto (tgt := 85) hx hb dX2_applyEdit_82 (by decide) ?_
    exact W.vret hx hb hr (fun t ht hW => ⟨⟨_, rfl, rfl, iB_of ht hP⟩, hS.F ht⟩) hS.2.2 dX2_applyEdit_85
  · refine lv_tableOut (tgt := 85) hx hb dX2_applyEdit_1 (by decide) (by decide) ?_
    exact W.vret hx hb hr (fun t ht hW => ⟨⟨_, rfl, (va_self C hpn).symm, iB_of ht hP⟩, hS.F ht⟩) hS.2.2 dX2_applyEdit_85
abbrev rmX2_sumUp : Room := { frames := 0, cells := 0, slots := 0, locals := 0 }
set_option maxRecDepth 20000 in
theorem iu_X2_sumUp_2 : ∀ w ∈ u_ws RX2 TX2 2, w ∈ wsX2_sumUp := by decide +kernel
set_option maxRecDepth 20000 in
theorem il_X2_sumUp_9 : (Cond.fieldLink RX2 9 "BayerGate$Picture" "numbers" "[F") ∈ wsX2_sumUp := by decide +kernel
set_option maxHeartbeats 4000000 in
set_option maxRecDepth 100000 in
theorem lX2_sumUp {p : Program} {l : Launch} {e : Env} {s : State} {m : MethodId} {args : Array Value} {below : List Frame} {meth : Method} {c : Code} {Q : State → Prop} {A : Nat → Prop} {H0 : Heap} {cells slots : Nat} (hx : p.tables.exec = Jvm.exec) (hb : c.code = cX2_sumUp) (hml : c.maxLocals = 3) (hr : meth.sig.returnType = (some .int)) (hts : ∀ w ∈ wsX2_sumUp, w.before args s = true) (hown : s.vm.findClass RX2 = some m.cls) {G : iG} (hK : KB G s) (hA : ∀ q, H0.size ≤ q → A q) {N : Nat} {ad : Nat → Nat} {C : Nat → va_E}  (hcc : cells ≤ rmX2_sumUp.cells) (hcs : slots ≤ rmX2_sumUp.slots) {pb pn pm : Nat} {nu : Nat → UInt32} {md : Nat → Nat} (lpb : pb < N) (lpn : pn < N) (lpm : pm < N) (hpb : C pb = ob 2 [.ref (ad pn), .ref (ad pm)]) (hpn : C pn = fa G 192 nu) (hpm : C pm = ia G 64 (fun i => nI (md i))) (kx : ∀ (H : Heap) (locs : List Loc) (ls : Array Slot), va_P G.1 vwB (wl N ad (C)) H → va_D A (wl N ad (C)) → va_S A H0 H locs → lv_has ls 3 [(1, .int (suI nu 192))] → W p l e rmX2_sumUp s m args below meth c H locs cells slots Q (F0 m 33 ls [])) : ∀ (d : Nat) (k : Nat) (H : Heap) (locs : List Loc) (ls : Array Slot), 192 - k < d → k ≤ 192 → va_P G.1 vwB (wl N ad C) H → va_D A (wl N ad C) → va_S A H0 H locs → lv_has ls 3 [(1, .int (suI nu k)), (2, .int (nI k)), (0, .ref (ad pb))] → W p l e rmX2_sumUp s m args below meth c H locs cells slots Q (F0 m 5 ls []) := by
  intro d
  induction d with
  | zero => intro k H locs ls hd; exact absurd hd (Nat.not_lt_zero _)
  | succ d ih =>
    intro k H locs ls hd h2 hP hD hS hl
    refine lv_iload_n hx hb dX2_sumUp_5 rfl (lv_at hl 1 rfl) ?_
    refine lv_aload_n hx hb dX2_sumUp_6 rfl (lv_at hl 2 rfl) ?_
    refine iw_get hx hb hts iu_X2_sumUp_2 hown hK hP lpb (hpb) rfl 0 (by decide) (hts _ il_X2_sumUp_9) (fun _ h9 => h9) rfl dX2_sumUp_7 ?_
    refine iw_alenF (v := nI 192) hx hb hK hP lpn (hpn) rfl dX2_sumUp_10 ?_
    refine lv_icmp_ge (tgt := 33) hx hb dX2_sumUp_11 (by decide) (fun c11 => ?_) (fun c11 => ?_)
    · have h5 : k = 192 := by have := (nI_leI (by omega) (by omega)).mp c11; omega
      subst h5
      exact kx H locs ls hP hD hS (lv_sub hl [0] rfl)
    · have h4 : k < 192 := by have := mt (nI_leI (by omega) (by omega)).mpr c11; omega
      refine lv_iload_n hx hb dX2_sumUp_14 rfl (lv_at hl 0 rfl) ?_
      refine lv_bipush (v := nI 31) hx hb dX2_sumUp_15 (by decide) ?_
      refine lv_imul hx hb dX2_sumUp_17 ?_
      refine lv_aload_n hx hb dX2_sumUp_18 rfl (lv_at hl 2 rfl) ?_
      refine iw_get hx hb hts iu_X2_sumUp_2 hown hK hP lpb (hpb) rfl 0 (by decide) (hts _ il_X2_sumUp_9) (fun _ h9 => h9) rfl dX2_sumUp_19 ?_
      refine lv_iload_n hx hb dX2_sumUp_22 rfl (lv_at hl 1 rfl) ?_
      refine iw_fald (v := nu k) hx hb hK hP lpn (hpn) (vp_in_nI (show k < 192 by omega) (by omega)) (congrArg nu (nI_clamp (by omega))) dX2_sumUp_23 ?_
      refine lv_f2i hx hb dX2_sumUp_24 ?_
      refine lv_iadd hx hb dX2_sumUp_25 ?_
      refine lv_istore_n (lv' := [(1, .int (((suI nu k) * (nI 31)) + (FP.f2i (nu k)))), (2, .int (nI k)), (0, .ref (ad pb))]) hx hb dX2_sumUp_26 rfl hl (by decide) rfl (fun ls hl => ?_)
      refine lv_iinc (v := nI (k + 1)) (lv' := [(2, .int (nI (k + 1))), (1, .int (((suI nu k) * (nI 31)) + (FP.f2i (nu k)))), (0, .ref (ad pb))]) hx hb dX2_sumUp_27 hl (k := 1) rfl (iinc_nat _ 1) (by decide) rfl (fun ls hl => ?_)
      refine lv_goto (tgt := 5) hx hb dX2_sumUp_30 (by decide) ?_
      exact ih (k + 1) H locs ls (by omega) (by omega) hP hD hS (lv_sub hl [1, 0, 2] rfl)
set_option maxHeartbeats 4000000 in
set_option maxRecDepth 100000 in
theorem kX2_sumUp (l : Launch) (G : iG) (N : Nat) (ad : Nat → Nat) (C : Nat → va_E) {pb pn pm : Nat} {nu : Nat → UInt32} {md : Nat → Nat} (lpb : pb < N) (lpn : pn < N) (lpm : pm < N) (hpb : C pb = ob 2 [.ref (ad pn), .ref (ad pm)]) (hpn : C pn = fa G 192 nu) (hpm : C pm = ia G 64 (fun i => nI (md i))) (sz : Nat) : Met l yX2_sumUp wsX2_sumUp rmX2_sumUp (iPre G N ad C sz [.ref (ad pb)]) (va_Qi (fun (r : Int32) (u : Nat → va_E) => r = suI nu 192 ∧ u = C) (iB G N ad) (iA N ad sz)) 0 0 (iA N ad sz) := by
  refine Met.ofW (cc := cX2_sumUp) (maxL := 3) (ret := (some .int)) (by decide) rfl ?_
  intro p e s m args below meth c s₁ B hml hv
  obtain ⟨rfl, hsz, hP, hK, hD0⟩ := hv
  have hx := B.exec
  have hb := B.bytes
  have hr := B.returns
  have hts := atoms_spec (ws := wsX2_sumUp) B.pre
  have hown : s.vm.findClass RX2 = some m.cls := findClass_of_methodNamed B.named
  have hlocks := B.notSynchronized
  subst hsz
  have hD := wl_self hD0 s.heap.size
  have hA : ∀ q : Nat, s.heap.size ≤ q → iA N ad s.heap.size q := fun q h => Or.inr h
  have hS : va_S (iA N ad s.heap.size) s.heap s.heap [] := va_S.rf
  have hP : va_P G.1 vwB (wl N ad C) s.heap := hP
  have hl := lv_entry ([.ref (ad pb)]) (n := 3) (Nat.le_of_ble_eq_true rfl)
  rw [lg_entry_eq]
  generalize (lg_sl ([.ref (ad pb)]) ++ List.replicate (3 - (lg_sl ([.ref (ad pb)])).length) Slot.unset).toArray = ls at hl ⊢
  have hl : lv_has ls 3 [(0, .ref (ad pb))] := hl
  refine lv_bipush (v := nI 7) hx hb dX2_sumUp_0 (by decide) ?_
  refine lv_istore_n (lv' := [(1, .int (nI 7)), (0, .ref (ad pb))]) hx hb dX2_sumUp_2 rfl hl (by decide) rfl (fun ls hl => ?_)
  refine lv_iconst (v := nI 0) hx hb dX2_sumUp_3 (by decide) ?_
  refine lv_istore_n (lv' := [(2, .int (nI 0)), (1, .int (nI 7)), (0, .ref (ad pb))]) hx hb dX2_sumUp_4 rfl hl (by decide) rfl (fun ls hl => ?_)
  refine lX2_sumUp hx hb hml hr hts hown hK hA (Nat.le_refl _) (Nat.le_refl _) lpb lpn lpm hpb hpn hpm (fun H locs ls hP hD hS hl => ?_) 193 0 _ _ ls (by omega) (by omega) hP hD hS (lv_sub hl [1, 0, 2] rfl)
  refine lv_iload_n hx hb dX2_sumUp_33 rfl (lv_at hl 0 rfl) ?_
  exact W.iret (v := (suI nu 192)) hx hb hr (fun t ht hW => ⟨⟨_, _, rfl, ⟨rfl, rfl⟩, iB_of ht hP⟩, hS.F ht⟩) hS.2.2 dX2_sumUp_34
abbrev rmX2_sumTones : Room := { frames := 1, cells := 0, slots := 0, locals := 21 }
set_option maxRecDepth 20000 in
theorem iu_X2_sumTones_2 : ∀ w ∈ u_ws RX2 TX2 2, w ∈ wsX2_sumTones := by decide +kernel
set_option maxRecDepth 20000 in
theorem il_X2_sumTones_9 : (Cond.fieldLink RX2 9 "BayerGate$Picture" "numbers" "[F") ∈ wsX2_sumTones := by decide +kernel
set_option maxHeartbeats 4000000 in
set_option maxRecDepth 100000 in
theorem lX2_sumTones {p : Program} {l : Launch} {e : Env} {s : State} {m : MethodId} {args : Array Value} {below : List Frame} {meth : Method} {c : Code} {Q : State → Prop} {A : Nat → Prop} {H0 : Heap} {cells slots : Nat} (hx : p.tables.exec = Jvm.exec) (hb : c.code = cX2_sumTones) (hml : c.maxLocals = 5) (hr : meth.sig.returnType = (some .int)) (hts : ∀ w ∈ wsX2_sumTones, w.before args s = true) (hown : s.vm.findClass RX2 = some m.cls) {G : iG} (hK : KB G s) (hA : ∀ q, H0.size ≤ q → A q) {N : Nat} {ad : Nat → Nat} {C : Nat → va_E}  (hcc : cells ≤ rmX2_sumTones.cells) (hcs : slots ≤ rmX2_sumTones.slots) {pb pn pm : Nat} {nu : Nat → UInt32} {md : Nat → Nat} (lpb : pb < N) (lpn : pn < N) (lpm : pm < N) (hpb : C pb = ob 2 [.ref (ad pn), .ref (ad pm)]) (hpn : C pn = fa G 192 nu) (hpm : C pm = ia G 64 (fun i => nI (md i))) (hn9 : ∀ i, i < 192 → vf_n32 (nu i)) {k : Nat} {t : UInt32} (hk3 : k < 3) (ht9 : finz32 t) (kx : ∀ (H : Heap) (locs : List Loc) (ls : Array Slot), va_P G.1 vwB (wl N ad (C)) H → va_D A (wl N ad (C)) → va_S A H0 H locs → lv_has ls 5 [(3, .int (stI nu k t 64))] → W p l e rmX2_sumTones s m args below meth c H locs cells slots Q (F0 m 38 ls [])) : ∀ (d : Nat) (z : Nat) (H : Heap) (locs : List Loc) (ls : Array Slot), 64 - z < d → z ≤ 64 → va_P G.1 vwB (wl N ad C) H → va_D A (wl N ad C) → va_S A H0 H locs → lv_has ls 5 [(3, .int (stI nu k t z)), (4, .int (nI z)), (0, .ref (ad pb)), (1, .int (nI k)), (2, .float t)] → W p l e rmX2_sumTones s m args below meth c H locs cells slots Q (F0 m 5 ls []) := by
  intro d
  induction d with
  | zero => intro z H locs ls hd; exact absurd hd (Nat.not_lt_zero _)
  | succ d ih =>
    intro z H locs ls hd h2 hP hD hS hl
    refine lv_iload hx hb dX2_sumTones_5 (lv_at hl 1 rfl) ?_
    refine lv_bipush (v := nI 64) hx hb dX2_sumTones_7 (by decide) ?_
    refine lv_icmp_ge (tgt := 38) hx hb dX2_sumTones_9 (by decide) (fun c9 => ?_) (fun c9 => ?_)
    · have h5 : z = 64 := by have := (nI_leI (by omega) (by omega)).mp c9; omega
      subst h5
      exact kx H locs ls hP hD hS (lv_sub hl [0] rfl)
    · have h4 : z < 64 := by have := mt (nI_leI (by omega) (by omega)).mpr c9; omega
      refine lv_iload_n hx hb dX2_sumTones_12 rfl (lv_at hl 0 rfl) ?_
      refine lv_aload_n hx hb dX2_sumTones_13 rfl (lv_at hl 2 rfl) ?_
      refine iw_get hx hb hts iu_X2_sumTones_2 hown hK hP lpb (hpb) rfl 0 (by decide) (hts _ il_X2_sumTones_9) (fun _ h9 => h9) rfl dX2_sumTones_14 ?_
      refine lv_iload hx hb dX2_sumTones_17 (lv_at hl 1 rfl) ?_
      refine lv_iload_n hx hb dX2_sumTones_19 rfl (lv_at hl 3 rfl) ?_
      refine iw_pi (va_runS (As := [.int (nI z), .int (nI k)]) (rest := [.ref (ad pn), .int (stI nu k t z)]) ⟨hx, hb, hml, hown, hts⟩ (kX2_indexOf l z k) (va_cwS 2 hts gX2_sumTones_X2_indexOf rfl rfl rfl (by decide +kernel) ⟨Nat.le_of_ble_eq_true rfl, Nat.le_of_ble_eq_true rfl⟩) ⟨fun a U g mk q => q, fun U hU hW => ⟨rfl, trivial⟩⟩ rfl rfl hl.1 rfl (lv_room (Nat.le_of_ble_eq_true rfl)) dX2_sumTones_20 ⟨hcc, hcs⟩) hP hS (fun r8 u8 H locs hw8 hP hS => ?_)
      refine lv_asI hw8 ?_
      refine iw_fald (v := nu (3 * z + k)) hx hb hK hP lpn (hpn) (vp_in_nI (show 3 * z + k < 192 by omega) (by omega)) (congrArg nu (nI_clamp (by omega))) dX2_sumTones_23 ?_
      refine lv_fload_n hx hb dX2_sumTones_24 rfl (lv_at hl 4 rfl) ?_
      refine lv_fmul hx hb dX2_sumTones_25 (fmul_nz (hn9 _ (by omega)) ht9) ?_
      refine iw_pf (va_runS (As := [.float (FP.fmul (nu (3 * z + k)) t)]) (rest := [.int (stI nu k t z)]) ⟨hx, hb, hml, hown, hts⟩ (kX2_bounded l (FP.fmul (nu (3 * z + k)) t)) (va_cwS 1 hts gX2_sumTones_X2_bounded rfl rfl rfl (by decide +kernel) ⟨Nat.le_of_ble_eq_true rfl, Nat.le_of_ble_eq_true rfl⟩) ⟨fun a U g mk q => q, fun U hU hW => ⟨rfl, trivial⟩⟩ rfl rfl hl.1 rfl (lv_room (Nat.le_of_ble_eq_true rfl)) dX2_sumTones_26 ⟨hcc, hcs⟩) hP hS (fun r8 u8 H locs hw8 hP hS => ?_)
      refine lv_asF hw8 ?_
      refine lv_f2i hx hb dX2_sumTones_29 ?_
      refine lv_iadd hx hb dX2_sumTones_30 ?_
      refine lv_istore_n (lv' := [(3, .int ((stI nu k t z) + (FP.f2i (bdF (FP.fmul (nu (3 * z + k)) t))))), (4, .int (nI z)), (0, .ref (ad pb)), (1, .int (nI k)), (2, .float t)]) hx hb dX2_sumTones_31 rfl hl (by decide) rfl (fun ls hl => ?_)
      refine lv_iinc (v := nI (z + 1)) (lv' := [(4, .int (nI (z + 1))), (3, .int ((stI nu k t z) + (FP.f2i (bdF (FP.fmul (nu (3 * z + k)) t))))), (0, .ref (ad pb)), (1, .int (nI k)), (2, .float t)]) hx hb dX2_sumTones_32 hl (k := 1) rfl (iinc_nat _ 1) (by decide) rfl (fun ls hl => ?_)
      refine lv_goto (tgt := 5) hx hb dX2_sumTones_35 (by decide) ?_
      exact ih (z + 1) H locs ls (by omega) (by omega) hP hD hS (lv_sub hl [1, 0, 2, 3, 4] rfl)
set_option maxHeartbeats 4000000 in
set_option maxRecDepth 100000 in
theorem kX2_sumTones (l : Launch) (G : iG) (N : Nat) (ad : Nat → Nat) (C : Nat → va_E) {pb pn pm : Nat} {nu : Nat → UInt32} {md : Nat → Nat} (lpb : pb < N) (lpn : pn < N) (lpm : pm < N) (hpb : C pb = ob 2 [.ref (ad pn), .ref (ad pm)]) (hpn : C pn = fa G 192 nu) (hpm : C pm = ia G 64 (fun i => nI (md i))) (hn9 : ∀ i, i < 192 → vf_n32 (nu i)) {k : Nat} {t : UInt32} (hk3 : k < 3) (ht9 : finz32 t) (sz : Nat) : Met l yX2_sumTones wsX2_sumTones rmX2_sumTones (iPre G N ad C sz [.ref (ad pb), .int (nI k), .float t]) (va_Qi (fun (r : Int32) (u : Nat → va_E) => r = stI nu k t 64 ∧ u = C) (iB G N ad) (iA N ad sz)) 0 0 (iA N ad sz) := by
  refine Met.ofW (cc := cX2_sumTones) (maxL := 5) (ret := (some .int)) (by decide) rfl ?_
  intro p e s m args below meth c s₁ B hml hv
  obtain ⟨rfl, hsz, hP, hK, hD0⟩ := hv
  have hx := B.exec
  have hb := B.bytes
  have hr := B.returns
  have hts := atoms_spec (ws := wsX2_sumTones) B.pre
  have hown : s.vm.findClass RX2 = some m.cls := findClass_of_methodNamed B.named
  have hlocks := B.notSynchronized
  subst hsz
  have hD := wl_self hD0 s.heap.size
  have hA : ∀ q : Nat, s.heap.size ≤ q → iA N ad s.heap.size q := fun q h => Or.inr h
  have hS : va_S (iA N ad s.heap.size) s.heap s.heap [] := va_S.rf
  have hP : va_P G.1 vwB (wl N ad C) s.heap := hP
  have hl := lv_entry ([.ref (ad pb), .int (nI k), .float t]) (n := 5) (Nat.le_of_ble_eq_true rfl)
  rw [lg_entry_eq]
  generalize (lg_sl ([.ref (ad pb), .int (nI k), .float t]) ++ List.replicate (5 - (lg_sl ([.ref (ad pb), .int (nI k), .float t])).length) Slot.unset).toArray = ls at hl ⊢
  have hl : lv_has ls 5 [(0, .ref (ad pb)), (1, .int (nI k)), (2, .float t)] := hl
  refine lv_iconst (v := nI 0) hx hb dX2_sumTones_0 (by decide) ?_
  refine lv_istore_n (lv' := [(3, .int (nI 0)), (0, .ref (ad pb)), (1, .int (nI k)), (2, .float t)]) hx hb dX2_sumTones_1 rfl hl (by decide) rfl (fun ls hl => ?_)
  refine lv_iconst (v := nI 0) hx hb dX2_sumTones_2 (by decide) ?_
  refine lv_istore (lv' := [(4, .int (nI 0)), (3, .int (nI 0)), (0, .ref (ad pb)), (1, .int (nI k)), (2, .float t)]) hx hb dX2_sumTones_3 hl (by decide) rfl (fun ls hl => ?_)
  refine lX2_sumTones hx hb hml hr hts hown hK hA (Nat.le_refl _) (Nat.le_refl _) lpb lpn lpm hpb hpn hpm hn9 hk3 ht9 (fun H locs ls hP hD hS hl => ?_) 65 0 _ _ ls (by omega) (by omega) hP hD hS (lv_sub hl [1, 0, 2, 3, 4] rfl)
  refine lv_iload_n hx hb dX2_sumTones_38 rfl (lv_at hl 0 rfl) ?_
  exact W.iret (v := (stI nu k t 64)) hx hb hr (fun t ht hW => ⟨⟨_, _, rfl, ⟨rfl, rfl⟩, iB_of ht hP⟩, hS.F ht⟩) hS.2.2 dX2_sumTones_39
