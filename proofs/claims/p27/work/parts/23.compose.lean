set_option maxRecDepth 20000 in
theorem ggX5_keep_X0_copyFrom : GoodIn wsX5_keep wsX0_copyFrom := goodIn_r _ [8, 9, 10, 11, 15, 16, 17] (by decide +kernel) (by decide +kernel)
set_option maxRecDepth 20000 in
theorem gX5_keep_X0_copyFrom : GoodIn wsX5_keep (wsV RX5 23 RX0 yX0_copyFrom wsX0_copyFrom) := goodIn_app (goodIn_of _ (by decide +kernel)) ggX5_keep_X0_copyFrom
set_option maxRecDepth 20000 in
theorem ggX2_compose_X0_count : GoodIn wsX2_compose wsX0_count := goodIn_r _ [39, 6, 63, 64, 65] (by decide +kernel) (by decide +kernel)
set_option maxRecDepth 20000 in
theorem gX2_compose_X0_count : GoodIn wsX2_compose (wsV RX2 32 RX0 yX0_count wsX0_count) := goodIn_app (goodIn_of _ (by decide +kernel)) ggX2_compose_X0_count
set_option maxRecDepth 20000 in
theorem ggX2_compose_X2_applyEdit : GoodIn wsX2_compose wsX2_applyEdit := goodIn_r _ [43, 44, 45, 46, 47, 11, 48, 26, 49, 50, 51, 52, 33, 34, 35, 53, 54, 55, 56, 57, 58, 59, 60, 61, 62, 14, 15, 16, 66, 67] (by decide +kernel) (by decide +kernel)
set_option maxRecDepth 20000 in
theorem gX2_compose_X2_applyEdit : GoodIn wsX2_compose (wsV RX2 41 RX2 yX2_applyEdit wsX2_applyEdit) := goodIn_app (goodIn_of _ (by decide +kernel)) ggX2_compose_X2_applyEdit
set_option maxRecDepth 20000 in
theorem ggX2_compose_X0_hasMend : GoodIn wsX2_compose wsX0_hasMend := goodIn_r _ [5, 6, 7, 63, 64, 65] (by decide +kernel) (by decide +kernel)
set_option maxRecDepth 20000 in
theorem gX2_compose_X0_hasMend : GoodIn wsX2_compose (wsV RX2 19 RX0 yX0_hasMend wsX0_hasMend) := goodIn_app (goodIn_of _ (by decide +kernel)) ggX2_compose_X0_hasMend
set_option maxRecDepth 20000 in
theorem ggX2_compose_X2_mendAll : GoodIn wsX2_compose wsX2_mendAll := goodIn_r _ [12, 13, 14, 15, 16, 17, 18, 11, 19, 20, 21, 66, 67] (by decide +kernel) (by decide +kernel)
set_option maxRecDepth 20000 in
theorem gX2_compose_X2_mendAll : GoodIn wsX2_compose (wsV RX2 25 RX2 yX2_mendAll wsX2_mendAll) := goodIn_app (goodIn_of _ (by decide +kernel)) ggX2_compose_X2_mendAll
set_option maxRecDepth 20000 in
theorem ggX2_compose_X2_makeWhole : GoodIn wsX2_compose wsX2_makeWhole := goodIn_r _ [25, 13, 26, 14, 15, 16, 27, 28, 29, 30, 31, 11, 32, 20, 21, 33, 34, 35, 66, 67] (by decide +kernel) (by decide +kernel)
set_option maxRecDepth 20000 in
theorem gX2_compose_X2_makeWhole : GoodIn wsX2_compose (wsV RX2 29 RX2 yX2_makeWhole wsX2_makeWhole) := goodIn_app (goodIn_of _ (by decide +kernel)) ggX2_compose_X2_makeWhole
def mostN (k : Nat) : Nat := if k = 0 then 64 else if k = 1 ∨ k = 2 then 16 else if k = 3 then 2 else 0
abbrev rmX6_mostNumber : Room := { frames := 0, cells := 0, slots := 0, locals := 0 }
set_option maxHeartbeats 4000000 in
set_option maxRecDepth 100000 in
theorem kX6_mostNumber (l : Launch) (k : Nat) (hk6 : k < 6) : Met l yX6_mostNumber wsX6_mostNumber rmX6_mostNumber (va_Pc [.int (nI k)] (fun _ => True)) (va_Qi (fun (r : Int32) (_ : Unit) => r = nI (mostN k)) (fun _ _ => True) (fun _ => False)) 0 0 (fun _ => False) := by
  refine Met.ofW (cc := cX6_mostNumber) (maxL := 1) (ret := (some .int)) (by decide) rfl ?_
  intro p e s m args below meth c s₁ B hml hv
  obtain ⟨rfl, -⟩ := hv
  have hx := B.exec
  have hb := B.bytes
  have hr := B.returns
  have hts := atoms_spec (ws := wsX6_mostNumber) B.pre
  have hown : s.vm.findClass RX6 = some m.cls := findClass_of_methodNamed B.named
  have hlocks := B.notSynchronized
  have hS : va_S (fun _ => False) s.heap s.heap [] := va_S.rf
  have hP : va_P (fun _ => 0, fun _ _ => 0) [] [] s.heap := fun k q h => by simp at h
  have hl := lv_entry ([.int (nI k)]) (n := 1) (Nat.le_of_ble_eq_true rfl)
  rw [lg_entry_eq]
  generalize (lg_sl ([.int (nI k)]) ++ List.replicate (1 - (lg_sl ([.int (nI k)])).length) Slot.unset).toArray = ls at hl ⊢
  have hl : lv_has ls 1 [(0, .int (nI k))] := hl
  refine lv_iload_n hx hb dX6_mostNumber_0 rfl (lv_at hl 0 rfl) ?_
  rcases (show k = 0 ∨ k = 1 ∨ k = 2 ∨ k = 3 ∨ k = 4 ∨ k = 5 by omega) with rfl | rfl | rfl | rfl | rfl | rfl
  · refine lv_tableIn (off := 31) (tgt := 32) hx hb dX6_mostNumber_1 (by decide) (by decide) (by decide) (by decide) ?_
    refine lv_bipush (v := nI 64) hx hb dX6_mostNumber_32 (by decide) ?_
    exact W.iret (v := (nI 64)) hx hb hr (fun t ht hW => ⟨⟨_, (), rfl, rfl, trivial⟩, hS.F ht⟩) hS.2.2 dX6_mostNumber_34
  · refine lv_tableIn (off := 34) (tgt := 35) hx hb dX6_mostNumber_1 (by decide) (by decide) (by decide) (by decide) ?_
    refine lv_bipush (v := nI 16) hx hb dX6_mostNumber_35 (by decide) ?_
    exact W.iret (v := (nI 16)) hx hb hr (fun t ht hW => ⟨⟨_, (), rfl, rfl, trivial⟩, hS.F ht⟩) hS.2.2 dX6_mostNumber_37
  · refine lv_tableIn (off := 34) (tgt := 35) hx hb dX6_mostNumber_1 (by decide) (by decide) (by decide) (by decide) ?_
    refine lv_bipush (v := nI 16) hx hb dX6_mostNumber_35 (by decide) ?_
    exact W.iret (v := (nI 16)) hx hb hr (fun t ht hW => ⟨⟨_, (), rfl, rfl, trivial⟩, hS.F ht⟩) hS.2.2 dX6_mostNumber_37
  · refine lv_tableIn (off := 37) (tgt := 38) hx hb dX6_mostNumber_1 (by decide) (by decide) (by decide) (by decide) ?_
    refine lv_iconst (v := nI 2) hx hb dX6_mostNumber_38 (by decide) ?_
    exact W.iret (v := (nI 2)) hx hb hr (fun t ht hW => ⟨⟨_, (), rfl, rfl, trivial⟩, hS.F ht⟩) hS.2.2 dX6_mostNumber_39
  · refine lv_tableOut (tgt := 40) hx hb dX6_mostNumber_1 (by decide) (by decide) ?_
    refine lv_iconst (v := nI 0) hx hb dX6_mostNumber_40 (by decide) ?_
    exact W.iret (v := (nI 0)) hx hb hr (fun t ht hW => ⟨⟨_, (), rfl, rfl, trivial⟩, hS.F ht⟩) hS.2.2 dX6_mostNumber_41
  · refine lv_tableOut (tgt := 40) hx hb dX6_mostNumber_1 (by decide) (by decide) ?_
    refine lv_iconst (v := nI 0) hx hb dX6_mostNumber_40 (by decide) ?_
    exact W.iret (v := (nI 0)) hx hb hr (fun t ht hW => ⟨⟨_, (), rfl, rfl, trivial⟩, hS.F ht⟩) hS.2.2 dX6_mostNumber_41
abbrev rmX0_copyFrom : Room := { frames := 0, cells := 0, slots := 0, locals := 0 }
set_option maxRecDepth 20000 in
theorem iu_X0_copyFrom_0 : ∀ w ∈ u_ws RX0 TX0 3, w ∈ wsX0_copyFrom := by decide +kernel
set_option maxRecDepth 20000 in
theorem il_X0_copyFrom_9 : (Cond.fieldLink RX0 9 "BayerGate$EditRow" "kinds" "[I") ∈ wsX0_copyFrom := by decide +kernel
set_option maxRecDepth 20000 in
theorem il_X0_copyFrom_15 : (Cond.fieldLink RX0 15 "BayerGate$EditRow" "numbers" "[I") ∈ wsX0_copyFrom := by decide +kernel
set_option maxHeartbeats 4000000 in
set_option maxRecDepth 100000 in
theorem lX0_copyFrom {p : Program} {l : Launch} {e : Env} {s : State} {m : MethodId} {args : Array Value} {below : List Frame} {meth : Method} {c : Code} {Q : State → Prop} {A : Nat → Prop} {H0 : Heap} {cells slots : Nat} (hx : p.tables.exec = Jvm.exec) (hb : c.code = cX0_copyFrom) (hml : c.maxLocals = 3) (hr : meth.sig.returnType = none) (hts : ∀ w ∈ wsX0_copyFrom, w.before args s = true) (hown : s.vm.findClass RX0 = some m.cls) {G : iG} (hK : KB G s) (hA : ∀ q, H0.size ≤ q → A q) {N : Nat} {ad : Nat → Nat} {C : Nat → va_E}  (hcc : cells ≤ rmX0_copyFrom.cells) (hcs : slots ≤ rmX0_copyFrom.slots) {eb ek en : Nat} {eK eN : Nat → Nat} {el : Nat} (leb : eb < N) (lek : ek < N) (len : en < N) (heb : C eb = ob 0 [.ref (ad ek), .ref (ad en), .int (nI el)]) (hek : C ek = ia G 6 (fun i => nI (eK i))) (hen : C en = ia G 6 (fun i => nI (eN i))) {gb gk gn : Nat} {gK gN : Nat → Nat} {gl : Nat} (lgb : gb < N) (lgk : gk < N) (lgn : gn < N) (hgb : C gb = ob 0 [.ref (ad gk), .ref (ad gn), .int (nI gl)]) (hgk : C gk = ia G 6 (fun i => nI (gK i))) (hgn : C gn = ia G 6 (fun i => nI (gN i))) (d1 : ek ≠ en) (d2 : ek ≠ gk) (d3 : ek ≠ gn) (d4 : en ≠ gk) (d5 : en ≠ gn) (d6 : eb ≠ gb) (kx : ∀ (H : Heap) (locs : List Loc) (ls : Array Slot), va_P G.1 vwB (wl N ad (va_up (va_up C ek (ia G 6 (fun i => nI (flI gK eK (6) i)))) en (ia G 6 (fun i => nI (flI gN eN (6) i))))) H → va_D A (wl N ad (va_up (va_up C ek (ia G 6 (fun i => nI (flI gK eK (6) i)))) en (ia G 6 (fun i => nI (flI gN eN (6) i))))) → va_S A H0 H locs → lv_has ls 3 [(0, .ref (ad eb)), (1, .ref (ad gb))] → W p l e rmX0_copyFrom s m args below meth c H locs cells slots Q (F0 m 38 ls [])) : ∀ (d : Nat) (k : Nat) (H : Heap) (locs : List Loc) (ls : Array Slot), 6 - k < d → k ≤ 6 → va_P G.1 vwB (wl N ad (va_up (va_up C ek (ia G 6 (fun i => nI (flI gK eK (k) i)))) en (ia G 6 (fun i => nI (flI gN eN (k) i))))) H → va_D A (wl N ad (va_up (va_up C ek (ia G 6 (fun i => nI (flI gK eK (k) i)))) en (ia G 6 (fun i => nI (flI gN eN (k) i))))) → va_S A H0 H locs → lv_has ls 3 [(2, .int (nI k)), (0, .ref (ad eb)), (1, .ref (ad gb))] → W p l e rmX0_copyFrom s m args below meth c H locs cells slots Q (F0 m 2 ls []) := by
  intro d
  induction d with
  | zero => intro k H locs ls hd; exact absurd hd (Nat.not_lt_zero _)
  | succ d ih =>
    intro k H locs ls hd h2 hP hD hS hl
    have n_eb_ek : eb ≠ ek := fun h => by rw [h, hek] at heb; simp at heb
    have n_eb_en : eb ≠ en := fun h => by rw [h, hen] at heb; simp at heb
    have n_eb_gk : eb ≠ gk := fun h => by rw [h, hgk] at heb; simp at heb
    have n_eb_gn : eb ≠ gn := fun h => by rw [h, hgn] at heb; simp at heb
    have n_gb_ek : gb ≠ ek := fun h => by rw [h, hek] at hgb; simp at hgb
    have n_gb_en : gb ≠ en := fun h => by rw [h, hen] at hgb; simp at hgb
    refine lv_iload_n hx hb dX0_copyFrom_2 rfl (lv_at hl 0 rfl) ?_
    refine lv_bipush (v := nI 6) hx hb dX0_copyFrom_3 (by decide) ?_
    refine lv_icmp_ge (tgt := 38) hx hb dX0_copyFrom_5 (by decide) (fun c5 => ?_) (fun c5 => ?_)
    · have h5 : k = 6 := by have := (nI_leI (by omega) (by omega)).mp c5; omega
      subst h5
      exact kx H locs ls hP hD hS (lv_sub hl [1, 2] rfl)
    · have h4 : k < 6 := by have := mt (nI_leI (by omega) (by omega)).mpr c5; omega
      refine lv_aload_n hx hb dX0_copyFrom_8 rfl (lv_at hl 1 rfl) ?_
      refine iw_get hx hb hts iu_X0_copyFrom_0 hown hK hP leb ((va_un _ _ n_eb_en).trans ((va_un _ _ n_eb_ek).trans (heb))) rfl 0 (by decide) (hts _ il_X0_copyFrom_9) (fun _ h9 => h9) rfl dX0_copyFrom_9 ?_
      refine lv_iload_n hx hb dX0_copyFrom_12 rfl (lv_at hl 0 rfl) ?_
      refine lv_aload_n hx hb dX0_copyFrom_13 rfl (lv_at hl 2 rfl) ?_
      refine iw_get hx hb hts iu_X0_copyFrom_0 hown hK hP lgb ((va_un _ _ n_gb_en).trans ((va_un _ _ n_gb_ek).trans (hgb))) rfl 0 (by decide) (hts _ il_X0_copyFrom_9) (fun _ h9 => h9) rfl dX0_copyFrom_14 ?_
      refine lv_iload_n hx hb dX0_copyFrom_17 rfl (lv_at hl 0 rfl) ?_
      refine iw_iald (v := nI (gK k)) hx hb hK hP lgk ((va_un _ _ (Ne.symm d4)).trans ((va_un _ _ (Ne.symm d2)).trans (hgk))) (vp_in_nI (show k < 6 by omega) (by omega)) (congrArg (fun i => nI (gK i)) (nI_clamp (by omega))) dX0_copyFrom_18 ?_
      refine iw_iast hx hb hK hP hD hS lek ((va_un _ _ d1).trans (va_us _ _ _)) (vp_in_nI (show k < 6 by omega) (by omega)) (nI_clamp (by omega)) dX0_copyFrom_19 (fun H locs hP hD hS => ?_)
      rw [va_u3 _ _ _ _ (d1)] at hP hD
      refine lv_aload_n hx hb dX0_copyFrom_20 rfl (lv_at hl 1 rfl) ?_
      refine iw_get hx hb hts iu_X0_copyFrom_0 hown hK hP leb ((va_un _ _ n_eb_en).trans ((va_un _ _ n_eb_ek).trans (heb))) rfl 1 (by decide) (hts _ il_X0_copyFrom_15) (fun _ h9 => h9) rfl dX0_copyFrom_21 ?_
      refine lv_iload_n hx hb dX0_copyFrom_24 rfl (lv_at hl 0 rfl) ?_
      refine lv_aload_n hx hb dX0_copyFrom_25 rfl (lv_at hl 2 rfl) ?_
      refine iw_get hx hb hts iu_X0_copyFrom_0 hown hK hP lgb ((va_un _ _ n_gb_en).trans ((va_un _ _ n_gb_ek).trans (hgb))) rfl 1 (by decide) (hts _ il_X0_copyFrom_15) (fun _ h9 => h9) rfl dX0_copyFrom_26 ?_
      refine lv_iload_n hx hb dX0_copyFrom_29 rfl (lv_at hl 0 rfl) ?_
      refine iw_iald (v := nI (gN k)) hx hb hK hP lgn ((va_un _ _ (Ne.symm d5)).trans ((va_un _ _ (Ne.symm d3)).trans (hgn))) (vp_in_nI (show k < 6 by omega) (by omega)) (congrArg (fun i => nI (gN i)) (nI_clamp (by omega))) dX0_copyFrom_30 ?_
      refine iw_iast hx hb hK hP hD hS len (va_us _ _ _) (vp_in_nI (show k < 6 by omega) (by omega)) (nI_clamp (by omega)) dX0_copyFrom_31 (fun H locs hP hD hS => ?_)
      rw [va_uu _ _ _ _] at hP hD
      refine lv_iinc (v := nI (k + 1)) (lv' := [(2, .int (nI (k + 1))), (0, .ref (ad eb)), (1, .ref (ad gb))]) hx hb dX0_copyFrom_32 hl (k := 0) rfl (iinc_nat _ 1) (by decide) rfl (fun ls hl => ?_)
      refine lv_goto (tgt := 2) hx hb dX0_copyFrom_35 (by decide) ?_
      rw [flI_n, flI_n] at hP hD
      exact ih (k + 1) H locs ls (by omega) (by omega) hP hD hS (lv_sub hl [0, 1, 2] rfl)
set_option maxRecDepth 20000 in
theorem il_X0_copyFrom_18 : (Cond.fieldLink RX0 18 "BayerGate$EditRow" "length" "I") ∈ wsX0_copyFrom := by decide +kernel
set_option maxHeartbeats 4000000 in
set_option maxRecDepth 100000 in
theorem kX0_copyFrom (l : Launch) (G : iG) (N : Nat) (ad : Nat → Nat) (C : Nat → va_E) {eb ek en : Nat} {eK eN : Nat → Nat} {el : Nat} (leb : eb < N) (lek : ek < N) (len : en < N) (heb : C eb = ob 0 [.ref (ad ek), .ref (ad en), .int (nI el)]) (hek : C ek = ia G 6 (fun i => nI (eK i))) (hen : C en = ia G 6 (fun i => nI (eN i))) {gb gk gn : Nat} {gK gN : Nat → Nat} {gl : Nat} (lgb : gb < N) (lgk : gk < N) (lgn : gn < N) (hgb : C gb = ob 0 [.ref (ad gk), .ref (ad gn), .int (nI gl)]) (hgk : C gk = ia G 6 (fun i => nI (gK i))) (hgn : C gn = ia G 6 (fun i => nI (gN i))) (d1 : ek ≠ en) (d2 : ek ≠ gk) (d3 : ek ≠ gn) (d4 : en ≠ gk) (d5 : en ≠ gn) (d6 : eb ≠ gb) (sz : Nat) : Met l yX0_copyFrom wsX0_copyFrom rmX0_copyFrom (iPre G N ad C sz [.ref (ad eb), .ref (ad gb)]) (va_Qv (fun (u : Nat → va_E) => u = va_up (va_up (va_up C ek (ia G 6 (fun i => nI (gK i)))) en (ia G 6 (fun i => nI (gN i)))) eb (ob 0 [.ref (ad ek), .ref (ad en), .int (nI gl)])) (iB G N ad) (iA N ad sz)) 0 0 (iA N ad sz) := by
  refine Met.ofW (cc := cX0_copyFrom) (maxL := 3) (ret := none) (by decide) rfl ?_
  intro p e s m args below meth c s₁ B hml hv
  obtain ⟨rfl, hsz, hP, hK, hD0⟩ := hv
  have hx := B.exec
  have hb := B.bytes
  have hr := B.returns
  have hts := atoms_spec (ws := wsX0_copyFrom) B.pre
  have hown : s.vm.findClass RX0 = some m.cls := findClass_of_methodNamed B.named
  have hlocks := B.notSynchronized
  subst hsz
  have hD := wl_self hD0 s.heap.size
  have hA : ∀ q : Nat, s.heap.size ≤ q → iA N ad s.heap.size q := fun q h => Or.inr h
  have hS : va_S (iA N ad s.heap.size) s.heap s.heap [] := va_S.rf
  have hP : va_P G.1 vwB (wl N ad C) s.heap := hP
  have hl := lv_entry ([.ref (ad eb), .ref (ad gb)]) (n := 3) (Nat.le_of_ble_eq_true rfl)
  rw [lg_entry_eq]
  generalize (lg_sl ([.ref (ad eb), .ref (ad gb)]) ++ List.replicate (3 - (lg_sl ([.ref (ad eb), .ref (ad gb)])).length) Slot.unset).toArray = ls at hl ⊢
  have hl : lv_has ls 3 [(0, .ref (ad eb)), (1, .ref (ad gb))] := hl
  have n_eb_ek : eb ≠ ek := fun h => by rw [h, hek] at heb; simp at heb
  have n_eb_en : eb ≠ en := fun h => by rw [h, hen] at heb; simp at heb
  have n_eb_gk : eb ≠ gk := fun h => by rw [h, hgk] at heb; simp at heb
  have n_eb_gn : eb ≠ gn := fun h => by rw [h, hgn] at heb; simp at heb
  have n_gb_ek : gb ≠ ek := fun h => by rw [h, hek] at hgb; simp at hgb
  have n_gb_en : gb ≠ en := fun h => by rw [h, hen] at hgb; simp at hgb
  refine lv_iconst (v := nI 0) hx hb dX0_copyFrom_0 (by decide) ?_
  refine lv_istore_n (lv' := [(2, .int (nI 0)), (0, .ref (ad eb)), (1, .ref (ad gb))]) hx hb dX0_copyFrom_1 rfl hl (by decide) rfl (fun ls hl => ?_)
  have hP := wl_selfE hP hek
  have hP := wl_selfE hP ((va_un _ _ (Ne.symm d1)).trans hen)
  have hD := wl_D hD (va_up (va_up C ek (ia G 6 (fun i => nI (eK i)))) en (ia G 6 (fun i => nI (eN i))))
  refine lX0_copyFrom hx hb hml hr hts hown hK hA (Nat.le_refl _) (Nat.le_refl _) leb lek len heb hek hen lgb lgk lgn hgb hgk hgn d1 d2 d3 d4 d5 d6 (fun H locs ls hP hD hS hl => ?_) 7 0 _ _ ls (by omega) (by omega) (by rw [flI_0, flI_0]; exact hP) (by rw [flI_0, flI_0]; exact hD) hS (lv_sub hl [0, 1, 2] rfl)
  have hP := wl_ia (g := fun i => nI (gN i)) hP (fun k hk => by simp [flI, show k < 6 from hk])
  have hP := by rw [va_uc _ _ _ d1] at hP; exact wl_ia (g := fun i => nI (gK i)) hP (fun k hk => by simp [flI, show k < 6 from hk])
  rw [va_uc _ _ _ (Ne.symm d1)] at hP
  have hD := wl_D hD (va_up (va_up C ek (ia G 6 (fun i => nI (gK i)))) en (ia G 6 (fun i => nI (gN i))))
  refine lv_aload_n hx hb dX0_copyFrom_38 rfl (lv_at hl 0 rfl) ?_
  refine lv_aload_n hx hb dX0_copyFrom_39 rfl (lv_at hl 1 rfl) ?_
  refine iw_get hx hb hts iu_X0_copyFrom_0 hown hK hP lgb ((va_un _ _ n_gb_en).trans ((va_un _ _ n_gb_ek).trans (hgb))) rfl 2 (by decide) (hts _ il_X0_copyFrom_18) (fun _ h9 => h9) rfl dX0_copyFrom_40 ?_
  refine iw_put (ty := .int) hx hb hts iu_X0_copyFrom_0 tyX0 tyX0_ok nmX0 hown hK hP hD hS leb ((va_un _ _ n_eb_en).trans ((va_un _ _ n_eb_ek).trans (heb))) rfl 2 (by decide) (hts _ il_X0_copyFrom_18) (fun _ h9 => h9) rfl (by decide +kernel) rfl rfl (Nat.le_of_ble_eq_true rfl) rfl dX0_copyFrom_43 (fun H locs hP hD hS => ?_)
  exact W.vret hx hb hr (fun t ht hW => ⟨⟨_, rfl, rfl, iB_of ht hP⟩, hS.F ht⟩) hS.2.2 dX0_copyFrom_46
abbrev rmX5_keep : Room := { frames := 1, cells := 0, slots := 0, locals := 22 }
set_option maxRecDepth 20000 in
theorem il_X5_keep_16 : (Cond.fieldLink RX5 16 "BayerGate$StoredFile" "frame" "I") ∈ wsX5_keep := by decide +kernel
set_option maxRecDepth 20000 in
theorem iu_X5_keep_5 : ∀ w ∈ u_ws RX5 TX5 3, w ∈ wsX5_keep := by decide +kernel
set_option maxRecDepth 20000 in
theorem il_X5_keep_20 : (Cond.fieldLink RX5 20 "BayerGate$StoredFile" "version" "I") ∈ wsX5_keep := by decide +kernel
set_option maxRecDepth 20000 in
theorem il_X5_keep_10 : (Cond.fieldLink RX5 10 "BayerGate$StoredFile" "edits" "LBayerGate$EditRow;") ∈ wsX5_keep := by decide +kernel
set_option maxHeartbeats 4000000 in
set_option maxRecDepth 100000 in
theorem kX5_keep (l : Launch) (G : iG) (N : Nat) (ad : Nat → Nat) (C : Nat → va_E) {eb ek en : Nat} {eK eN : Nat → Nat} {el : Nat} (leb : eb < N) (lek : ek < N) (len : en < N) (heb : C eb = ob 0 [.ref (ad ek), .ref (ad en), .int (nI el)]) (hek : C ek = ia G 6 (fun i => nI (eK i))) (hen : C en = ia G 6 (fun i => nI (eN i))) {gb gk gn : Nat} {gK gN : Nat → Nat} {gl : Nat} (lgb : gb < N) (lgk : gk < N) (lgn : gn < N) (hgb : C gb = ob 0 [.ref (ad gk), .ref (ad gn), .int (nI gl)]) (hgk : C gk = ia G 6 (fun i => nI (gK i))) (hgn : C gn = ia G 6 (fun i => nI (gN i))) (d1 : ek ≠ en) (d2 : ek ≠ gk) (d3 : ek ≠ gn) (d4 : en ≠ gk) (d5 : en ≠ gn) (d6 : eb ≠ gb) {ib : Nat} {f0 v0 : Int32} (lib : ib < N) (hib : C ib = ob 5 [.ref (ad eb), .int f0, .int v0]) (f1 v1 : Nat) (sz : Nat) : Met l yX5_keep wsX5_keep rmX5_keep (iPre G N ad C sz [.ref (ad ib), .int (nI f1), .int (nI v1), .ref (ad gb)]) (va_Qv (fun (u : Nat → va_E) => u = va_up (va_up (va_up (va_up C ib (ob 5 [.ref (ad eb), .int (nI f1), .int (nI v1)])) ek (ia G 6 (fun i => nI (gK i)))) en (ia G 6 (fun i => nI (gN i)))) eb (ob 0 [.ref (ad ek), .ref (ad en), .int (nI gl)])) (iB G N ad) (iA N ad sz)) 0 0 (iA N ad sz) := by
  refine Met.ofW (cc := cX5_keep) (maxL := 4) (ret := none) (by decide) rfl ?_
  intro p e s m args below meth c s₁ B hml hv
  obtain ⟨rfl, hsz, hP, hK, hD0⟩ := hv
  have hx := B.exec
  have hb := B.bytes
  have hr := B.returns
  have hts := atoms_spec (ws := wsX5_keep) B.pre
  have hown : s.vm.findClass RX5 = some m.cls := findClass_of_methodNamed B.named
  have hlocks := B.notSynchronized
  subst hsz
  have hD := wl_self hD0 s.heap.size
  have hA : ∀ q : Nat, s.heap.size ≤ q → iA N ad s.heap.size q := fun q h => Or.inr h
  have hS : va_S (iA N ad s.heap.size) s.heap s.heap [] := va_S.rf
  have hP : va_P G.1 vwB (wl N ad C) s.heap := hP
  have hl := lv_entry ([.ref (ad ib), .int (nI f1), .int (nI v1), .ref (ad gb)]) (n := 4) (Nat.le_of_ble_eq_true rfl)
  rw [lg_entry_eq]
  generalize (lg_sl ([.ref (ad ib), .int (nI f1), .int (nI v1), .ref (ad gb)]) ++ List.replicate (4 - (lg_sl ([.ref (ad ib), .int (nI f1), .int (nI v1), .ref (ad gb)])).length) Slot.unset).toArray = ls at hl ⊢
  have hl : lv_has ls 4 [(0, .ref (ad ib)), (1, .int (nI f1)), (2, .int (nI v1)), (3, .ref (ad gb))] := hl
  have n_eb_ek : eb ≠ ek := fun h => by rw [h, hek] at heb; simp at heb
  have n_eb_en : eb ≠ en := fun h => by rw [h, hen] at heb; simp at heb
  have n_eb_gk : eb ≠ gk := fun h => by rw [h, hgk] at heb; simp at heb
  have n_eb_gn : eb ≠ gn := fun h => by rw [h, hgn] at heb; simp at heb
  have n_gb_ek : gb ≠ ek := fun h => by rw [h, hek] at hgb; simp at hgb
  have n_gb_en : gb ≠ en := fun h => by rw [h, hen] at hgb; simp at hgb
  have n_ib_eb : ib ≠ eb := fun h => by rw [h, heb] at hib; simp at hib
  have n_ib_ek : ib ≠ ek := fun h => by rw [h, hek] at hib; simp at hib
  have n_ib_en : ib ≠ en := fun h => by rw [h, hen] at hib; simp at hib
  have n_ib_gb : ib ≠ gb := fun h => by rw [h, hgb] at hib; simp at hib
  have n_ib_gk : ib ≠ gk := fun h => by rw [h, hgk] at hib; simp at hib
  have n_ib_gn : ib ≠ gn := fun h => by rw [h, hgn] at hib; simp at hib
  refine lv_aload_n hx hb dX5_keep_0 rfl (lv_at hl 0 rfl) ?_
  refine lv_iload_n hx hb dX5_keep_1 rfl (lv_at hl 1 rfl) ?_
  refine iw_put (ty := .int) hx hb hts iu_X5_keep_5 tyX5 tyX5_ok nmX5 hown hK hP hD hS lib (hib) rfl 1 (by decide) (hts _ il_X5_keep_16) (fun _ h9 => h9) rfl (by decide +kernel) rfl rfl (Nat.le_of_ble_eq_true rfl) rfl dX5_keep_2 (fun H locs hP hD hS => ?_)
  refine lv_aload_n hx hb dX5_keep_5 rfl (lv_at hl 0 rfl) ?_
  refine lv_iload_n hx hb dX5_keep_6 rfl (lv_at hl 2 rfl) ?_
  refine iw_put (ty := .int) hx hb hts iu_X5_keep_5 tyX5 tyX5_ok nmX5 hown hK hP hD hS lib (va_us _ _ _) rfl 2 (by decide) (hts _ il_X5_keep_20) (fun _ h9 => h9) rfl (by decide +kernel) rfl rfl (Nat.le_of_ble_eq_true rfl) rfl dX5_keep_7 (fun H locs hP hD hS => ?_)
  rw [va_uu _ _ _ _] at hP hD
  refine lv_aload_n hx hb dX5_keep_10 rfl (lv_at hl 0 rfl) ?_
  refine iw_get hx hb hts iu_X5_keep_5 hown hK hP lib (va_us _ _ _) rfl 0 (by decide) (hts _ il_X5_keep_10) (fun _ h9 => h9) rfl dX5_keep_11 ?_
  refine lv_aload_n hx hb dX5_keep_14 rfl (lv_at hl 3 rfl) ?_
  refine iw_v (va_runV (As := [.ref (ad gb)]) (rest := []) ⟨hx, hb, hml, hown, hts⟩ (kX0_copyFrom l G N ad _ leb lek len ((va_un _ _ (Ne.symm n_ib_eb)).trans (heb)) ((va_un _ _ (Ne.symm n_ib_ek)).trans (hek)) ((va_un _ _ (Ne.symm n_ib_en)).trans (hen)) lgb lgk lgn ((va_un _ _ (Ne.symm n_ib_gb)).trans (hgb)) ((va_un _ _ (Ne.symm n_ib_gk)).trans (hgk)) ((va_un _ _ (Ne.symm n_ib_gn)).trans (hgn)) d1 d2 d3 d4 d5 d6 _) (cwV 1 hts gX5_keep_X0_copyFrom rfl rfl rfl (by decide +kernel) ⟨Nat.le_of_ble_eq_true rfl, Nat.le_of_ble_eq_true rfl⟩) (iPV hK hP hD leb ((va_un _ _ (Ne.symm n_ib_eb)).trans (heb)) rfl [.ref (ad gb)]) rfl rfl hl.1 rfl (lv_room (Nat.le_of_ble_eq_true rfl)) dX5_keep_15 ⟨Nat.le_of_ble_eq_true rfl, Nat.le_of_ble_eq_true rfl⟩) hD hS hA (fun u8 H locs hw8 hP hD hS => ?_)
  rw [hw8] at hP hD
  exact W.vret hx hb hr (fun t ht hW => ⟨⟨_, rfl, rfl, iB_of ht hP⟩, hS.F ht⟩) hS.2.2 dX5_keep_18
abbrev rmX2_compose : Room := { frames := 3, cells := 0, slots := 0, locals := 77 }
set_option maxRecDepth 20000 in
theorem iu_X2_compose_0 : ∀ w ∈ u_ws RX0 TX0 3, w ∈ wsX2_compose := by decide +kernel
set_option maxHeartbeats 4000000 in
set_option maxRecDepth 100000 in
theorem lX2_compose {p : Program} {l : Launch} {e : Env} {s : State} {m : MethodId} {args : Array Value} {below : List Frame} {meth : Method} {c : Code} {Q : State → Prop} {A : Nat → Prop} {H0 : Heap} {cells slots : Nat} (hx : p.tables.exec = Jvm.exec) (hb : c.code = cX2_compose) (hml : c.maxLocals = 5) (hr : meth.sig.returnType = none) (hts : ∀ w ∈ wsX2_compose, w.before args s = true) (hown : s.vm.findClass RX2 = some m.cls) {G : iG} (hK : KB G s) (hA : ∀ q, H0.size ≤ q → A q) {N : Nat} {ad : Nat → Nat} {C : Nat → va_E}  (hcc : cells ≤ rmX2_compose.cells) (hcs : slots ≤ rmX2_compose.slots) {pb pn pm : Nat} {nu : Nat → UInt32} {md : Nat → Nat} (lpb : pb < N) (lpn : pn < N) (lpm : pm < N) (hpb : C pb = ob 2 [.ref (ad pn), .ref (ad pm)]) (hpn : C pn = fa G 192 nu) (hpm : C pm = ia G 64 (fun i => nI (md i))) {ri mi : Nat} {rw : Nat → Nat} {mp : Nat → Bool} (lri : ri < N) (lmi : mi < N) (hri : C ri = ia G 64 (fun i => nI (rw i))) (hmi : C mi = za G 64 (bI mp)) (hr9 : ∀ i, i < 64 → rw i ≤ 255) {eb ek en : Nat} {eK eN : Nat → Nat} {el : Nat} (leb : eb < N) (lek : ek < N) (len : en < N) (heb : C eb = ob 0 [.ref (ad ek), .ref (ad en), .int (nI el)]) (hek : C ek = ia G 6 (fun i => nI (eK i))) (hen : C en = ia G 6 (fun i => nI (eN i))) (dpr : pm ≠ ri) (dpi : pm ≠ mi) (hel : el ≤ 6) (hok : ∀ i, i < el → okE (eK i) (eN i)) (hen_ek : ek ≠ en) (kx : ∀ (H : Heap) (locs : List Loc) (ls : Array Slot), va_P G.1 vwB (wl N ad (va_up (va_up C pm (ia G 64 (fun i => nI ((mmN rw mp (hasM (fun i => nI (eK i)) el)) i)))) pn (fa G 192 (cmF eK eN (whF (mmN rw mp (hasM (fun i => nI (eK i)) el))) el)))) H → va_D A (wl N ad (va_up (va_up C pm (ia G 64 (fun i => nI ((mmN rw mp (hasM (fun i => nI (eK i)) el)) i)))) pn (fa G 192 (cmF eK eN (whF (mmN rw mp (hasM (fun i => nI (eK i)) el))) el)))) → va_S A H0 H locs → lv_has ls 5 [(0, .ref (ad pb))] → W p l e rmX2_compose s m args below meth c H locs cells slots Q (F0 m 50 ls [])) : ∀ (d : Nat) (k : Nat) (H : Heap) (locs : List Loc) (ls : Array Slot), el - k < d → k ≤ el → va_P G.1 vwB (wl N ad (va_up (va_up C pm (ia G 64 (fun i => nI ((mmN rw mp (hasM (fun i => nI (eK i)) el)) i)))) pn (fa G 192 (cmF eK eN (whF (mmN rw mp (hasM (fun i => nI (eK i)) el))) k)))) H → va_D A (wl N ad (va_up (va_up C pm (ia G 64 (fun i => nI ((mmN rw mp (hasM (fun i => nI (eK i)) el)) i)))) pn (fa G 192 (cmF eK eN (whF (mmN rw mp (hasM (fun i => nI (eK i)) el))) k)))) → va_S A H0 H locs → lv_has ls 5 [(4, .int (nI k)), (0, .ref (ad pb)), (1, .ref (ad ri)), (2, .ref (ad eb)), (3, .ref (ad mi))] → W p l e rmX2_compose s m args below meth c H locs cells slots Q (F0 m 17 ls []) := by
  intro d
  induction d with
  | zero => intro k H locs ls hd; exact absurd hd (Nat.not_lt_zero _)
  | succ d ih =>
    intro k H locs ls hd h2 hP hD hS hl
    have n_pb_pn : pb ≠ pn := fun h => by rw [h, hpn] at hpb; simp at hpb
    have n_pb_pm : pb ≠ pm := fun h => by rw [h, hpm] at hpb; simp at hpb
    have n_pn_pm : pn ≠ pm := fun h => by rw [h, hpm] at hpn; simp at hpn
    have n_pn_eb : pn ≠ eb := fun h => by rw [h, heb] at hpn; simp at hpn
    have n_pn_ek : pn ≠ ek := fun h => by rw [h, hek] at hpn; simp at hpn
    have n_pn_en : pn ≠ en := fun h => by rw [h, hen] at hpn; simp at hpn
    have n_pn_ri : pn ≠ ri := fun h => by rw [h, hri] at hpn; simp at hpn
    have n_pn_mi : pn ≠ mi := fun h => by rw [h, hmi] at hpn; simp at hpn
    have n_pm_eb : pm ≠ eb := fun h => by rw [h, heb] at hpm; simp at hpm
    have n_pm_ek : pm ≠ ek := fun h => by rw [h, hek] at hpm; simp at hpm
    have n_pm_en : pm ≠ en := fun h => by rw [h, hen] at hpm; simp at hpm
    have n_pb_eb : pb ≠ eb := fun h => by rw [h, heb] at hpb; simp at hpb
    have n_eb_ek : eb ≠ ek := fun h => by rw [h, hek] at heb; simp at heb
    have n_eb_en : eb ≠ en := fun h => by rw [h, hen] at heb; simp at heb
    refine lv_iload hx hb dX2_compose_17 (lv_at hl 0 rfl) ?_
    refine lv_aload_n hx hb dX2_compose_19 rfl (lv_at hl 3 rfl) ?_
    refine iw_i (va_runV (As := []) (rest := [.int (nI k)]) ⟨hx, hb, hml, hown, hts⟩ (kX0_count l G N ad _ (eb := eb) (ek := ek) (en := en) leb lek len ((va_un _ _ (Ne.symm n_pn_eb)).trans ((va_un _ _ (Ne.symm n_pm_eb)).trans (heb))) ((va_un _ _ (Ne.symm n_pn_ek)).trans ((va_un _ _ (Ne.symm n_pm_ek)).trans (hek))) ((va_un _ _ (Ne.symm n_pn_en)).trans ((va_un _ _ (Ne.symm n_pm_en)).trans (hen))) hen_ek _) (cwV 0 hts gX2_compose_X0_count rfl rfl rfl (by decide +kernel) ⟨Nat.le_of_ble_eq_true rfl, Nat.le_of_ble_eq_true rfl⟩) (iPV hK hP hD leb ((va_un _ _ (Ne.symm n_pn_eb)).trans ((va_un _ _ (Ne.symm n_pm_eb)).trans (heb))) rfl []) rfl rfl hl.1 rfl (lv_room (Nat.le_of_ble_eq_true rfl)) dX2_compose_20 ⟨hcc, hcs⟩) hD hS hA (fun r8 u8 H locs hw8 hP hD hS => ?_)
    obtain ⟨hr8, hu8⟩ := hw8
    refine lv_asI hr8 ?_
    rw [hu8] at hP hD
    refine lv_icmp_ge (tgt := 50) hx hb dX2_compose_23 (by decide) (fun c23 => ?_) (fun c23 => ?_)
    · have h5 : k = el := by have := (nI_leI (by omega) (by omega)).mp c23; omega
      subst h5
      exact kx H locs ls hP hD hS (lv_sub hl [1] rfl)
    · have h4 : k < el := by have := mt (nI_leI (by omega) (by omega)).mpr c23; omega
      refine lv_aload_n hx hb dX2_compose_26 rfl (lv_at hl 1 rfl) ?_
      refine lv_aload_n hx hb dX2_compose_27 rfl (lv_at hl 3 rfl) ?_
      refine iw_getN hx hb hts iu_X2_compose_0 hown hK hP leb ((va_un _ _ (Ne.symm n_pn_eb)).trans ((va_un _ _ (Ne.symm n_pm_eb)).trans (heb))) rfl 0 (by decide) (nw_RX2_36 hK.2) (fun _ h9 => h9) rfl dX2_compose_28 ?_
      refine lv_iload hx hb dX2_compose_31 (lv_at hl 0 rfl) ?_
      refine iw_iald (v := nI (eK k)) hx hb hK hP lek ((va_un _ _ (Ne.symm n_pn_ek)).trans ((va_un _ _ (Ne.symm n_pm_ek)).trans (hek))) (vp_in_nI (show k < 6 by omega) (by omega)) (congrArg (fun i => nI (eK i)) (nI_clamp (by omega))) dX2_compose_33 ?_
      refine lv_aload_n hx hb dX2_compose_34 rfl (lv_at hl 3 rfl) ?_
      refine iw_getN hx hb hts iu_X2_compose_0 hown hK hP leb ((va_un _ _ (Ne.symm n_pn_eb)).trans ((va_un _ _ (Ne.symm n_pm_eb)).trans (heb))) rfl 1 (by decide) (nw_RX2_39 hK.2) (fun _ h9 => h9) rfl dX2_compose_35 ?_
      refine lv_iload hx hb dX2_compose_38 (lv_at hl 0 rfl) ?_
      refine iw_iald (v := nI (eN k)) hx hb hK hP len ((va_un _ _ (Ne.symm n_pn_en)).trans ((va_un _ _ (Ne.symm n_pm_en)).trans (hen))) (vp_in_nI (show k < 6 by omega) (by omega)) (congrArg (fun i => nI (eN i)) (nI_clamp (by omega))) dX2_compose_40 ?_
      refine iw_v (va_runV (As := [.int (nI (eK k)), .int (nI (eN k))]) (rest := []) ⟨hx, hb, hml, hown, hts⟩ (kX2_applyEdit l G N ad _ lpb lpn lpm ((va_un _ _ n_pb_pn).trans ((va_un _ _ n_pb_pm).trans (hpb))) (va_us _ _ _) ((va_un _ _ (Ne.symm n_pn_pm)).trans (va_us _ _ _)) (cmF_n (fun i _ => whF_n _ i) k (fun i hi => hok i (by omega))) (eK k) (eN k) (hok k h4) _) (cwV 2 hts gX2_compose_X2_applyEdit rfl rfl rfl (by decide +kernel) ⟨Nat.le_of_ble_eq_true rfl, Nat.le_of_ble_eq_true rfl⟩) (iPV hK hP hD lpb ((va_un _ _ n_pb_pn).trans ((va_un _ _ n_pb_pm).trans (hpb))) rfl [.int (nI (eK k)), .int (nI (eN k))]) rfl rfl hl.1 rfl (lv_room (Nat.le_of_ble_eq_true rfl)) dX2_compose_41 ⟨hcc, hcs⟩) hD hS hA (fun u8 H locs hw8 hP hD hS => ?_)
      rw [hw8] at hP hD
      rw [va_uu] at hP hD
      refine lv_iinc (v := nI (k + 1)) (lv' := [(4, .int (nI (k + 1))), (0, .ref (ad pb)), (1, .ref (ad ri)), (2, .ref (ad eb)), (3, .ref (ad mi))]) hx hb dX2_compose_44 hl (k := 0) rfl (iinc_nat _ 1) (by decide) rfl (fun ls hl => ?_)
      refine lv_goto (tgt := 17) hx hb dX2_compose_47 (by decide) ?_
      exact ih (k + 1) H locs ls (by omega) (by omega) hP hD hS (lv_sub hl [0, 1, 2, 3, 4] rfl)
set_option maxHeartbeats 4000000 in
set_option maxRecDepth 100000 in
theorem kX2_compose (l : Launch) (G : iG) (N : Nat) (ad : Nat → Nat) (C : Nat → va_E) {pb pn pm : Nat} {nu : Nat → UInt32} {md : Nat → Nat} (lpb : pb < N) (lpn : pn < N) (lpm : pm < N) (hpb : C pb = ob 2 [.ref (ad pn), .ref (ad pm)]) (hpn : C pn = fa G 192 nu) (hpm : C pm = ia G 64 (fun i => nI (md i))) {ri mi : Nat} {rw : Nat → Nat} {mp : Nat → Bool} (lri : ri < N) (lmi : mi < N) (hri : C ri = ia G 64 (fun i => nI (rw i))) (hmi : C mi = za G 64 (bI mp)) (hr9 : ∀ i, i < 64 → rw i ≤ 255) {eb ek en : Nat} {eK eN : Nat → Nat} {el : Nat} (leb : eb < N) (lek : ek < N) (len : en < N) (heb : C eb = ob 0 [.ref (ad ek), .ref (ad en), .int (nI el)]) (hek : C ek = ia G 6 (fun i => nI (eK i))) (hen : C en = ia G 6 (fun i => nI (eN i))) (dpr : pm ≠ ri) (dpi : pm ≠ mi) (hel : el ≤ 6) (hok : ∀ i, i < el → okE (eK i) (eN i)) (hen_ek : ek ≠ en) (sz : Nat) : Met l yX2_compose wsX2_compose rmX2_compose (iPre G N ad C sz [.ref (ad pb), .ref (ad ri), .ref (ad eb), .ref (ad mi)]) (va_Qv (fun (u : Nat → va_E) => u = va_up (va_up C pm (ia G 64 (fun i => nI ((mmN rw mp (hasM (fun i => nI (eK i)) el)) i)))) pn (fa G 192 (cmF eK eN (whF (mmN rw mp (hasM (fun i => nI (eK i)) el))) el))) (iB G N ad) (iA N ad sz)) 0 0 (iA N ad sz) := by
  refine Met.ofW (cc := cX2_compose) (maxL := 5) (ret := none) (by decide) rfl ?_
  intro p e s m args below meth c s₁ B hml hv
  obtain ⟨rfl, hsz, hP, hK, hD0⟩ := hv
  have hx := B.exec
  have hb := B.bytes
  have hr := B.returns
  have hts := atoms_spec (ws := wsX2_compose) B.pre
  have hown : s.vm.findClass RX2 = some m.cls := findClass_of_methodNamed B.named
  have hlocks := B.notSynchronized
  subst hsz
  have hD := wl_self hD0 s.heap.size
  have hA : ∀ q : Nat, s.heap.size ≤ q → iA N ad s.heap.size q := fun q h => Or.inr h
  have hS : va_S (iA N ad s.heap.size) s.heap s.heap [] := va_S.rf
  have hP : va_P G.1 vwB (wl N ad C) s.heap := hP
  have hl := lv_entry ([.ref (ad pb), .ref (ad ri), .ref (ad eb), .ref (ad mi)]) (n := 5) (Nat.le_of_ble_eq_true rfl)
  rw [lg_entry_eq]
  generalize (lg_sl ([.ref (ad pb), .ref (ad ri), .ref (ad eb), .ref (ad mi)]) ++ List.replicate (5 - (lg_sl ([.ref (ad pb), .ref (ad ri), .ref (ad eb), .ref (ad mi)])).length) Slot.unset).toArray = ls at hl ⊢
  have hl : lv_has ls 5 [(0, .ref (ad pb)), (1, .ref (ad ri)), (2, .ref (ad eb)), (3, .ref (ad mi))] := hl
  have n_pb_pn : pb ≠ pn := fun h => by rw [h, hpn] at hpb; simp at hpb
  have n_pb_pm : pb ≠ pm := fun h => by rw [h, hpm] at hpb; simp at hpb
  have n_pn_pm : pn ≠ pm := fun h => by rw [h, hpm] at hpn; simp at hpn
  have n_pn_eb : pn ≠ eb := fun h => by rw [h, heb] at hpn; simp at hpn
  have n_pn_ek : pn ≠ ek := fun h => by rw [h, hek] at hpn; simp at hpn
  have n_pn_en : pn ≠ en := fun h => by rw [h, hen] at hpn; simp at hpn
  have n_pn_ri : pn ≠ ri := fun h => by rw [h, hri] at hpn; simp at hpn
  have n_pn_mi : pn ≠ mi := fun h => by rw [h, hmi] at hpn; simp at hpn
  have n_pm_eb : pm ≠ eb := fun h => by rw [h, heb] at hpm; simp at hpm
  have n_pm_ek : pm ≠ ek := fun h => by rw [h, hek] at hpm; simp at hpm
  have n_pm_en : pm ≠ en := fun h => by rw [h, hen] at hpm; simp at hpm
  have n_pb_eb : pb ≠ eb := fun h => by rw [h, heb] at hpb; simp at hpb
  have n_eb_ek : eb ≠ ek := fun h => by rw [h, hek] at heb; simp at heb
  have n_eb_en : eb ≠ en := fun h => by rw [h, hen] at heb; simp at heb
  refine lv_aload_n hx hb dX2_compose_0 rfl (lv_at hl 0 rfl) ?_
  refine lv_aload_n hx hb dX2_compose_1 rfl (lv_at hl 1 rfl) ?_
  refine lv_aload_n hx hb dX2_compose_2 rfl (lv_at hl 3 rfl) ?_
  refine lv_aload_n hx hb dX2_compose_3 rfl (lv_at hl 2 rfl) ?_
  refine iw_i (va_runV (As := []) (rest := [.ref (ad mi), .ref (ad ri), .ref (ad pb)]) ⟨hx, hb, hml, hown, hts⟩ (kX0_hasMend l G N ad _ (eb := eb) (ek := ek) (en := en) leb lek len (heb) (hek) (hen) hen_ek hel _) (cwV 0 hts gX2_compose_X0_hasMend rfl rfl rfl (by decide +kernel) ⟨Nat.le_of_ble_eq_true rfl, Nat.le_of_ble_eq_true rfl⟩) (iPV hK hP hD leb (heb) rfl []) rfl rfl hl.1 rfl (lv_room (Nat.le_of_ble_eq_true rfl)) dX2_compose_4 ⟨Nat.le_of_ble_eq_true rfl, Nat.le_of_ble_eq_true rfl⟩) hD hS hA (fun r8 u8 H locs hw8 hP hD hS => ?_)
  obtain ⟨hr8, hu8⟩ := hw8
  refine lv_asI hr8 ?_
  rw [hu8] at hP hD
  refine iw_v (va_runV (As := [.ref (ad ri), .ref (ad mi), .int (if (hasM (fun i => nI (eK i)) el) then nI 1 else nI 0)]) (rest := []) ⟨hx, hb, hml, hown, hts⟩ (kX2_mendAll l G N ad _ lpb lpn lpm (hpb) (hpn) (hpm) lri lmi (hri) (hmi) hr9 dpr dpi (b1 := (hasM (fun i => nI (eK i)) el)) _) (cwV 3 hts gX2_compose_X2_mendAll rfl rfl rfl (by decide +kernel) ⟨Nat.le_of_ble_eq_true rfl, Nat.le_of_ble_eq_true rfl⟩) (iPV hK hP hD lpb (hpb) rfl [.ref (ad ri), .ref (ad mi), .int (if (hasM (fun i => nI (eK i)) el) then nI 1 else nI 0)]) rfl rfl hl.1 rfl (lv_room (Nat.le_of_ble_eq_true rfl)) dX2_compose_7 ⟨Nat.le_of_ble_eq_true rfl, Nat.le_of_ble_eq_true rfl⟩) hD hS hA (fun u8 H locs hw8 hP hD hS => ?_)
  rw [hw8] at hP hD
  refine lv_aload_n hx hb dX2_compose_10 rfl (lv_at hl 0 rfl) ?_
  refine iw_v (va_runV (As := []) (rest := []) ⟨hx, hb, hml, hown, hts⟩ (kX2_makeWhole l G N ad _ lpb lpn lpm ((va_un _ _ n_pb_pm).trans (hpb)) ((va_un _ _ n_pn_pm).trans (hpn)) (va_us _ _ _) (mmN_le rw hr9 mp _) _) (cwV 0 hts gX2_compose_X2_makeWhole rfl rfl rfl (by decide +kernel) ⟨Nat.le_of_ble_eq_true rfl, Nat.le_of_ble_eq_true rfl⟩) (iPV hK hP hD lpb ((va_un _ _ n_pb_pm).trans (hpb)) rfl []) rfl rfl hl.1 rfl (lv_room (Nat.le_of_ble_eq_true rfl)) dX2_compose_11 ⟨Nat.le_of_ble_eq_true rfl, Nat.le_of_ble_eq_true rfl⟩) hD hS hA (fun u8 H locs hw8 hP hD hS => ?_)
  rw [hw8] at hP hD
  refine lv_iconst (v := nI 0) hx hb dX2_compose_14 (by decide) ?_
  refine lv_istore (lv' := [(4, .int (nI 0)), (0, .ref (ad pb)), (1, .ref (ad ri)), (2, .ref (ad eb)), (3, .ref (ad mi))]) hx hb dX2_compose_15 hl (by decide) rfl (fun ls hl => ?_)
  refine lX2_compose hx hb hml hr hts hown hK hA (Nat.le_refl _) (Nat.le_refl _) lpb lpn lpm hpb hpn hpm lri lmi hri hmi hr9 leb lek len heb hek hen dpr dpi hel hok hen_ek (fun H locs ls hP hD hS hl => ?_) (el + 1) 0 _ _ ls (by omega) (by omega) hP hD hS (lv_sub hl [0, 1, 2, 3, 4] rfl)
  exact W.vret hx hb hr (fun t ht hW => ⟨⟨_, rfl, rfl, iB_of ht hP⟩, hS.F ht⟩) hS.2.2 dX2_compose_50
