/-- how many places are spoilt; those that are not mapped alone, if w is not set -/
def csN (hw : Nat → Nat) (mp : Nat → Bool) (w : Bool) : Nat → Nat
  | 0 => 0
  | n + 1 => csN hw mp w n + if hw n ≠ 0 ∧ (w = true ∨ mp n = false) then 1 else 0
theorem csN_le (hw : Nat → Nat) (mp : Nat → Bool) (w : Bool) : ∀ n, csN hw mp w n ≤ n
  | 0 => Nat.le_refl _
  | n + 1 => by
    have := csN_le hw mp w n
    unfold csN
    split <;> omega
abbrev rmX4_howIs : Room := { frames := 0, cells := 0, slots := 0, locals := 0 }
set_option maxRecDepth 20000 in
theorem iu_X4_howIs_4 : ∀ w ∈ u_ws RX4 TX4 3, w ∈ wsX4_howIs := by decide +kernel
set_option maxRecDepth 20000 in
theorem il_X4_howIs_9 : (Cond.fieldLink RX4 9 "BayerGate$Sensor" "hows" "[I") ∈ wsX4_howIs := by decide +kernel
set_option maxHeartbeats 4000000 in
set_option maxRecDepth 100000 in
theorem kX4_howIs (l : Launch) (G : iG) (N : Nat) (ad : Nat → Nat) (C : Nat → va_E) {nb nh nm : Nat} {hw : Nat → Nat} {mp : Nat → Bool} {dr : Nat} (lnb : nb < N) (lnh : nh < N) (lnm : nm < N) (hnb : C nb = ob 4 [.ref (ad nh), .ref (ad nm), .int (nI dr)]) (hnh : C nh = ia G 64 (fun i => nI (hw i))) (hnm : C nm = za G 64 (bI mp)) (pl : Nat) (hpl : pl < 64) (sz : Nat) : Met l yX4_howIs wsX4_howIs rmX4_howIs (iPre G N ad C sz [.ref (ad nb), .int (nI pl)]) (va_Qi (fun (r : Int32) (u : Nat → va_E) => r = nI (hw pl) ∧ u = C) (iB G N ad) (iA N ad sz)) 0 0 (iA N ad sz) := by
  refine Met.ofW (cc := cX4_howIs) (maxL := 2) (ret := (some .int)) (by decide) rfl ?_
  intro p e s m args below meth c s₁ B hml hv
  obtain ⟨rfl, hsz, hP, hK, hD0⟩ := hv
  have hx := B.exec
  have hb := B.bytes
  have hr := B.returns
  have hts := atoms_spec (ws := wsX4_howIs) B.pre
  have hown : s.vm.findClass RX4 = some m.cls := findClass_of_methodNamed B.named
  have hlocks := B.notSynchronized
  subst hsz
  have hD := wl_self hD0 s.heap.size
  have hA : ∀ q : Nat, s.heap.size ≤ q → iA N ad s.heap.size q := fun q h => Or.inr h
  have hS : va_S (iA N ad s.heap.size) s.heap s.heap [] := va_S.rf
  have hP : va_P G.1 vwB (wl N ad C) s.heap := hP
  have hl := lv_entry ([.ref (ad nb), .int (nI pl)]) (n := 2) (Nat.le_of_ble_eq_true rfl)
  rw [lg_entry_eq]
  generalize (lg_sl ([.ref (ad nb), .int (nI pl)]) ++ List.replicate (2 - (lg_sl ([.ref (ad nb), .int (nI pl)])).length) Slot.unset).toArray = ls at hl ⊢
  have hl : lv_has ls 2 [(0, .ref (ad nb)), (1, .int (nI pl))] := hl
  refine lv_aload_n hx hb dX4_howIs_0 rfl (lv_at hl 0 rfl) ?_
  refine iw_get hx hb hts iu_X4_howIs_4 hown hK hP lnb (hnb) rfl 0 (by decide) (hts _ il_X4_howIs_9) (fun _ h9 => h9) rfl dX4_howIs_1 ?_
  refine lv_iload_n hx hb dX4_howIs_4 rfl (lv_at hl 1 rfl) ?_
  refine iw_iald (v := nI (hw pl)) hx hb hK hP lnh (hnh) (vp_in_nI (show pl < 64 by omega) (by omega)) (congrArg (fun i => nI (hw i)) (nI_clamp (by omega))) dX4_howIs_5 ?_
  exact W.iret (v := (nI (hw pl))) hx hb hr (fun t ht hW => ⟨⟨_, _, rfl, ⟨rfl, rfl⟩, iB_of ht hP⟩, hS.F ht⟩) hS.2.2 dX4_howIs_6
abbrev rmX4_setHow : Room := { frames := 0, cells := 0, slots := 0, locals := 0 }
set_option maxRecDepth 20000 in
theorem iu_X4_setHow_4 : ∀ w ∈ u_ws RX4 TX4 3, w ∈ wsX4_setHow := by decide +kernel
set_option maxRecDepth 20000 in
theorem il_X4_setHow_9 : (Cond.fieldLink RX4 9 "BayerGate$Sensor" "hows" "[I") ∈ wsX4_setHow := by decide +kernel
set_option maxHeartbeats 4000000 in
set_option maxRecDepth 100000 in
theorem kX4_setHow (l : Launch) (G : iG) (N : Nat) (ad : Nat → Nat) (C : Nat → va_E) {nb nh nm : Nat} {hw : Nat → Nat} {mp : Nat → Bool} {dr : Nat} (lnb : nb < N) (lnh : nh < N) (lnm : nm < N) (hnb : C nb = ob 4 [.ref (ad nh), .ref (ad nm), .int (nI dr)]) (hnh : C nh = ia G 64 (fun i => nI (hw i))) (hnm : C nm = za G 64 (bI mp)) (pl v : Nat) (hpl : pl < 64) (sz : Nat) : Met l yX4_setHow wsX4_setHow rmX4_setHow (iPre G N ad C sz [.ref (ad nb), .int (nI pl), .int (nI v)]) (va_Qv (fun (u : Nat → va_E) => u = va_up C nh (ia G 64 (fun i => nI (va_up hw pl v i)))) (iB G N ad) (iA N ad sz)) 0 0 (iA N ad sz) := by
  refine Met.ofW (cc := cX4_setHow) (maxL := 3) (ret := none) (by decide) rfl ?_
  intro p e s m args below meth c s₁ B hml hv
  obtain ⟨rfl, hsz, hP, hK, hD0⟩ := hv
  have hx := B.exec
  have hb := B.bytes
  have hr := B.returns
  have hts := atoms_spec (ws := wsX4_setHow) B.pre
  have hown : s.vm.findClass RX4 = some m.cls := findClass_of_methodNamed B.named
  have hlocks := B.notSynchronized
  subst hsz
  have hD := wl_self hD0 s.heap.size
  have hA : ∀ q : Nat, s.heap.size ≤ q → iA N ad s.heap.size q := fun q h => Or.inr h
  have hS : va_S (iA N ad s.heap.size) s.heap s.heap [] := va_S.rf
  have hP : va_P G.1 vwB (wl N ad C) s.heap := hP
  have hl := lv_entry ([.ref (ad nb), .int (nI pl), .int (nI v)]) (n := 3) (Nat.le_of_ble_eq_true rfl)
  rw [lg_entry_eq]
  generalize (lg_sl ([.ref (ad nb), .int (nI pl), .int (nI v)]) ++ List.replicate (3 - (lg_sl ([.ref (ad nb), .int (nI pl), .int (nI v)])).length) Slot.unset).toArray = ls at hl ⊢
  have hl : lv_has ls 3 [(0, .ref (ad nb)), (1, .int (nI pl)), (2, .int (nI v))] := hl
  have nnh : nb ≠ nh := fun h => by rw [h, hnh] at hnb; cases hnb
  have nnm : nb ≠ nm := fun h => by rw [h, hnm] at hnb; cases hnb
  refine lv_aload_n hx hb dX4_setHow_0 rfl (lv_at hl 0 rfl) ?_
  refine iw_get hx hb hts iu_X4_setHow_4 hown hK hP lnb (hnb) rfl 0 (by decide) (hts _ il_X4_setHow_9) (fun _ h9 => h9) rfl dX4_setHow_1 ?_
  refine lv_iload_n hx hb dX4_setHow_4 rfl (lv_at hl 1 rfl) ?_
  refine lv_iload_n hx hb dX4_setHow_5 rfl (lv_at hl 2 rfl) ?_
  refine iw_iast hx hb hK hP hD hS lnh (hnh) (vp_in_nI (show pl < 64 by omega) (by omega)) (nI_clamp (by omega)) dX4_setHow_6 (fun H locs hP hD hS => ?_)
  exact W.vret hx hb hr (fun t ht hW => ⟨⟨_, rfl, by refine congrArg (va_up C nh) (congrArg (ia G 64) ?_); funext i; by_cases h9 : i = pl <;> simp [upd, va_up, h9], iB_of ht hP⟩, hS.F ht⟩) hS.2.2 dX4_setHow_7
abbrev rmX4_isMapped : Room := { frames := 0, cells := 0, slots := 0, locals := 0 }
set_option maxRecDepth 20000 in
theorem iu_X4_isMapped_4 : ∀ w ∈ u_ws RX4 TX4 3, w ∈ wsX4_isMapped := by decide +kernel
set_option maxRecDepth 20000 in
theorem il_X4_isMapped_15 : (Cond.fieldLink RX4 15 "BayerGate$Sensor" "mapped" "[Z") ∈ wsX4_isMapped := by decide +kernel
set_option maxHeartbeats 4000000 in
set_option maxRecDepth 100000 in
theorem kX4_isMapped (l : Launch) (G : iG) (N : Nat) (ad : Nat → Nat) (C : Nat → va_E) {nb nh nm : Nat} {hw : Nat → Nat} {mp : Nat → Bool} {dr : Nat} (lnb : nb < N) (lnh : nh < N) (lnm : nm < N) (hnb : C nb = ob 4 [.ref (ad nh), .ref (ad nm), .int (nI dr)]) (hnh : C nh = ia G 64 (fun i => nI (hw i))) (hnm : C nm = za G 64 (bI mp)) (pl : Nat) (hpl : pl < 64) (sz : Nat) : Met l yX4_isMapped wsX4_isMapped rmX4_isMapped (iPre G N ad C sz [.ref (ad nb), .int (nI pl)]) (va_Qi (fun (r : Int32) (u : Nat → va_E) => r = (if mp pl then nI 1 else nI 0) ∧ u = C) (iB G N ad) (iA N ad sz)) 0 0 (iA N ad sz) := by
  refine Met.ofW (cc := cX4_isMapped) (maxL := 2) (ret := (some .boolean)) (by decide) rfl ?_
  intro p e s m args below meth c s₁ B hml hv
  obtain ⟨rfl, hsz, hP, hK, hD0⟩ := hv
  have hx := B.exec
  have hb := B.bytes
  have hr := B.returns
  have hts := atoms_spec (ws := wsX4_isMapped) B.pre
  have hown : s.vm.findClass RX4 = some m.cls := findClass_of_methodNamed B.named
  have hlocks := B.notSynchronized
  subst hsz
  have hD := wl_self hD0 s.heap.size
  have hA : ∀ q : Nat, s.heap.size ≤ q → iA N ad s.heap.size q := fun q h => Or.inr h
  have hS : va_S (iA N ad s.heap.size) s.heap s.heap [] := va_S.rf
  have hP : va_P G.1 vwB (wl N ad C) s.heap := hP
  have hl := lv_entry ([.ref (ad nb), .int (nI pl)]) (n := 2) (Nat.le_of_ble_eq_true rfl)
  rw [lg_entry_eq]
  generalize (lg_sl ([.ref (ad nb), .int (nI pl)]) ++ List.replicate (2 - (lg_sl ([.ref (ad nb), .int (nI pl)])).length) Slot.unset).toArray = ls at hl ⊢
  have hl : lv_has ls 2 [(0, .ref (ad nb)), (1, .int (nI pl))] := hl
  refine lv_aload_n hx hb dX4_isMapped_0 rfl (lv_at hl 0 rfl) ?_
  refine iw_get hx hb hts iu_X4_isMapped_4 hown hK hP lnb (hnb) rfl 1 (by decide) (hts _ il_X4_isMapped_15) (fun _ h9 => h9) rfl dX4_isMapped_1 ?_
  refine lv_iload_n hx hb dX4_isMapped_4 rfl (lv_at hl 1 rfl) ?_
  refine iw_zald (v := (bI mp) pl) hx hb hK hP lnm (hnm) (vp_in_nI (show pl < 64 by omega) (by omega)) (congrArg (bI mp) (nI_clamp (by omega))) dX4_isMapped_5 ?_
  exact W.zret (v := ((bI mp) pl)) (ty := .boolean) hx hb hr (bI_nar _) (fun t ht hW => ⟨⟨_, _, rfl, ⟨rfl, rfl⟩, iB_of ht hP⟩, hS.F ht⟩) hS.2.2 dX4_isMapped_6
abbrev rmX4_setMapped : Room := { frames := 0, cells := 0, slots := 0, locals := 0 }
set_option maxRecDepth 20000 in
theorem iu_X4_setMapped_4 : ∀ w ∈ u_ws RX4 TX4 3, w ∈ wsX4_setMapped := by decide +kernel
set_option maxRecDepth 20000 in
theorem il_X4_setMapped_15 : (Cond.fieldLink RX4 15 "BayerGate$Sensor" "mapped" "[Z") ∈ wsX4_setMapped := by decide +kernel
set_option maxHeartbeats 4000000 in
set_option maxRecDepth 100000 in
theorem kX4_setMapped (l : Launch) (G : iG) (N : Nat) (ad : Nat → Nat) (C : Nat → va_E) {nb nh nm : Nat} {hw : Nat → Nat} {mp : Nat → Bool} {dr : Nat} (lnb : nb < N) (lnh : nh < N) (lnm : nm < N) (hnb : C nb = ob 4 [.ref (ad nh), .ref (ad nm), .int (nI dr)]) (hnh : C nh = ia G 64 (fun i => nI (hw i))) (hnm : C nm = za G 64 (bI mp)) (pl : Nat) (b1 : Bool) (hpl : pl < 64) (sz : Nat) : Met l yX4_setMapped wsX4_setMapped rmX4_setMapped (iPre G N ad C sz [.ref (ad nb), .int (nI pl), .int (if b1 then nI 1 else nI 0)]) (va_Qv (fun (u : Nat → va_E) => u = va_up C nm (za G 64 (bI (va_up mp pl b1)))) (iB G N ad) (iA N ad sz)) 0 0 (iA N ad sz) := by
  refine Met.ofW (cc := cX4_setMapped) (maxL := 3) (ret := none) (by decide) rfl ?_
  intro p e s m args below meth c s₁ B hml hv
  obtain ⟨rfl, hsz, hP, hK, hD0⟩ := hv
  have hx := B.exec
  have hb := B.bytes
  have hr := B.returns
  have hts := atoms_spec (ws := wsX4_setMapped) B.pre
  have hown : s.vm.findClass RX4 = some m.cls := findClass_of_methodNamed B.named
  have hlocks := B.notSynchronized
  subst hsz
  have hD := wl_self hD0 s.heap.size
  have hA : ∀ q : Nat, s.heap.size ≤ q → iA N ad s.heap.size q := fun q h => Or.inr h
  have hS : va_S (iA N ad s.heap.size) s.heap s.heap [] := va_S.rf
  have hP : va_P G.1 vwB (wl N ad C) s.heap := hP
  have hl := lv_entry ([.ref (ad nb), .int (nI pl), .int (if b1 then nI 1 else nI 0)]) (n := 3) (Nat.le_of_ble_eq_true rfl)
  rw [lg_entry_eq]
  generalize (lg_sl ([.ref (ad nb), .int (nI pl), .int (if b1 then nI 1 else nI 0)]) ++ List.replicate (3 - (lg_sl ([.ref (ad nb), .int (nI pl), .int (if b1 then nI 1 else nI 0)])).length) Slot.unset).toArray = ls at hl ⊢
  have hl : lv_has ls 3 [(0, .ref (ad nb)), (1, .int (nI pl)), (2, .int (if b1 then nI 1 else nI 0))] := hl
  have nnh : nb ≠ nh := fun h => by rw [h, hnh] at hnb; cases hnb
  have nnm : nb ≠ nm := fun h => by rw [h, hnm] at hnb; cases hnb
  refine lv_aload_n hx hb dX4_setMapped_0 rfl (lv_at hl 0 rfl) ?_
  refine iw_get hx hb hts iu_X4_setMapped_4 hown hK hP lnb (hnb) rfl 1 (by decide) (hts _ il_X4_setMapped_15) (fun _ h9 => h9) rfl dX4_setMapped_1 ?_
  refine lv_iload_n hx hb dX4_setMapped_4 rfl (lv_at hl 1 rfl) ?_
  refine lv_iload_n hx hb dX4_setMapped_5 rfl (lv_at hl 2 rfl) ?_
  refine iw_zast (y := (if b1 then nI 1 else nI 0)) hx hb hK hP hD hS lnm (hnm) (vp_in_nI (show pl < 64 by omega) (by omega)) (nI_clamp (by omega)) (bI_vp _) dX4_setMapped_6 (fun H locs hP hD hS => ?_)
  exact W.vret hx hb hr (fun t ht hW => ⟨⟨_, rfl, by refine congrArg (va_up C nm) (congrArg (za G 64) ?_); exact bI_up _ _ _, iB_of ht hP⟩, hS.F ht⟩) hS.2.2 dX4_setMapped_7
abbrev rmX4_advance : Room := { frames := 0, cells := 0, slots := 0, locals := 0 }
set_option maxRecDepth 20000 in
theorem il_X4_advance_19 : (Cond.fieldLink RX4 19 "BayerGate$Sensor" "draw" "I") ∈ wsX4_advance := by decide +kernel
set_option maxRecDepth 20000 in
theorem iu_X4_advance_4 : ∀ w ∈ u_ws RX4 TX4 3, w ∈ wsX4_advance := by decide +kernel
set_option maxHeartbeats 4000000 in
set_option maxRecDepth 100000 in
theorem kX4_advance (l : Launch) (G : iG) (N : Nat) (ad : Nat → Nat) (C : Nat → va_E) {nb nh nm : Nat} {hw : Nat → Nat} {mp : Nat → Bool} {dr : Nat} (lnb : nb < N) (lnh : nh < N) (lnm : nm < N) (hnb : C nb = ob 4 [.ref (ad nh), .ref (ad nm), .int (nI dr)]) (hnh : C nh = ia G 64 (fun i => nI (hw i))) (hnm : C nm = za G 64 (bI mp)) (d1 : Nat) (sz : Nat) : Met l yX4_advance wsX4_advance rmX4_advance (iPre G N ad C sz [.ref (ad nb), .int (nI d1)]) (va_Qv (fun (u : Nat → va_E) => u = va_up C nb (ob 4 [.ref (ad nh), .ref (ad nm), .int (nI d1)])) (iB G N ad) (iA N ad sz)) 0 0 (iA N ad sz) := by
  refine Met.ofW (cc := cX4_advance) (maxL := 2) (ret := none) (by decide) rfl ?_
  intro p e s m args below meth c s₁ B hml hv
  obtain ⟨rfl, hsz, hP, hK, hD0⟩ := hv
  have hx := B.exec
  have hb := B.bytes
  have hr := B.returns
  have hts := atoms_spec (ws := wsX4_advance) B.pre
  have hown : s.vm.findClass RX4 = some m.cls := findClass_of_methodNamed B.named
  have hlocks := B.notSynchronized
  subst hsz
  have hD := wl_self hD0 s.heap.size
  have hA : ∀ q : Nat, s.heap.size ≤ q → iA N ad s.heap.size q := fun q h => Or.inr h
  have hS : va_S (iA N ad s.heap.size) s.heap s.heap [] := va_S.rf
  have hP : va_P G.1 vwB (wl N ad C) s.heap := hP
  have hl := lv_entry ([.ref (ad nb), .int (nI d1)]) (n := 2) (Nat.le_of_ble_eq_true rfl)
  rw [lg_entry_eq]
  generalize (lg_sl ([.ref (ad nb), .int (nI d1)]) ++ List.replicate (2 - (lg_sl ([.ref (ad nb), .int (nI d1)])).length) Slot.unset).toArray = ls at hl ⊢
  have hl : lv_has ls 2 [(0, .ref (ad nb)), (1, .int (nI d1))] := hl
  refine lv_aload_n hx hb dX4_advance_0 rfl (lv_at hl 0 rfl) ?_
  refine lv_iload_n hx hb dX4_advance_1 rfl (lv_at hl 1 rfl) ?_
  refine iw_put (ty := .int) hx hb hts iu_X4_advance_4 tyX4 tyX4_ok nmX4 hown hK hP hD hS lnb (hnb) rfl 2 (by decide) (hts _ il_X4_advance_19) (fun _ h9 => h9) rfl (by decide +kernel) rfl rfl (Nat.le_of_ble_eq_true rfl) rfl dX4_advance_2 (fun H locs hP hD hS => ?_)
  exact W.vret hx hb hr (fun t ht hW => ⟨⟨_, rfl, rfl, iB_of ht hP⟩, hS.F ht⟩) hS.2.2 dX4_advance_5
abbrev rmX4_countMapped : Room := { frames := 0, cells := 0, slots := 0, locals := 0 }
set_option maxRecDepth 20000 in
theorem iu_X4_countMapped_4 : ∀ w ∈ u_ws RX4 TX4 3, w ∈ wsX4_countMapped := by decide +kernel
set_option maxRecDepth 20000 in
theorem il_X4_countMapped_15 : (Cond.fieldLink RX4 15 "BayerGate$Sensor" "mapped" "[Z") ∈ wsX4_countMapped := by decide +kernel
set_option maxHeartbeats 4000000 in
set_option maxRecDepth 100000 in
theorem lX4_countMapped {p : Program} {l : Launch} {e : Env} {s : State} {m : MethodId} {args : Array Value} {below : List Frame} {meth : Method} {c : Code} {Q : State → Prop} {A : Nat → Prop} {H0 : Heap} {cells slots : Nat} (hx : p.tables.exec = Jvm.exec) (hb : c.code = cX4_countMapped) (hml : c.maxLocals = 3) (hr : meth.sig.returnType = (some .int)) (hts : ∀ w ∈ wsX4_countMapped, w.before args s = true) (hown : s.vm.findClass RX4 = some m.cls) {G : iG} (hK : KB G s) (hA : ∀ q, H0.size ≤ q → A q) {N : Nat} {ad : Nat → Nat} {C : Nat → va_E} {H : Heap} {locs : List Loc} (hP : va_P G.1 vwB (wl N ad C) H) (hD : va_D A (wl N ad C)) (hS : va_S A H0 H locs)  (hcc : cells ≤ rmX4_countMapped.cells) (hcs : slots ≤ rmX4_countMapped.slots) {nb nh nm : Nat} {hw : Nat → Nat} {mp : Nat → Bool} {dr : Nat} (lnb : nb < N) (lnh : nh < N) (lnm : nm < N) (hnb : C nb = ob 4 [.ref (ad nh), .ref (ad nm), .int (nI dr)]) (hnh : C nh = ia G 64 (fun i => nI (hw i))) (hnm : C nm = za G 64 (bI mp)) (kx : ∀ ls, lv_has ls 3 [(1, .int (nI (ctN mp 64)))] → W p l e rmX4_countMapped s m args below meth c H locs cells slots Q (F0 m 28 ls [])) : ∀ (d : Nat) (k : Nat) (ls : Array Slot), 64 - k < d → k ≤ 64 → lv_has ls 3 [(1, .int (nI (ctN mp k))), (2, .int (nI k)), (0, .ref (ad nb))] → W p l e rmX4_countMapped s m args below meth c H locs cells slots Q (F0 m 4 ls []) := by
  intro d
  induction d with
  | zero => intro k ls hd; exact absurd hd (Nat.not_lt_zero _)
  | succ d ih =>
    intro k ls hd h2 hl
    refine lv_iload_n hx hb dX4_countMapped_4 rfl (lv_at hl 1 rfl) ?_
    refine lv_bipush (v := nI 64) hx hb dX4_countMapped_5 (by decide) ?_
    refine lv_icmp_ge (tgt := 28) hx hb dX4_countMapped_7 (by decide) (fun c7 => ?_) (fun c7 => ?_)
    · have h5 : k = 64 := by have := (nI_leI (by omega) (by omega)).mp c7; omega
      subst h5
      exact kx ls (lv_sub hl [0] rfl)
    · have h4 : k < 64 := by have := mt (nI_leI (by omega) (by omega)).mpr c7; omega
      refine lv_aload_n hx hb dX4_countMapped_10 rfl (lv_at hl 2 rfl) ?_
      refine iw_get hx hb hts iu_X4_countMapped_4 hown hK hP lnb (hnb) rfl 1 (by decide) (hts _ il_X4_countMapped_15) (fun _ h9 => h9) rfl dX4_countMapped_11 ?_
      refine lv_iload_n hx hb dX4_countMapped_14 rfl (lv_at hl 1 rfl) ?_
      refine iw_zald (v := (bI mp) k) hx hb hK hP lnm (hnm) (vp_in_nI (show k < 64 by omega) (by omega)) (congrArg (bI mp) (nI_clamp (by omega))) dX4_countMapped_15 ?_
      refine lv_if_eq (tgt := 22) hx hb dX4_countMapped_16 (by decide) (fun c16 => ?_) (fun c16 => ?_)
      · have e8 : mp k = false := by cases hq : mp k <;> simp [bI, hq, nI] at c16 ⊢
        refine lv_iinc (v := nI (k + 1)) (lv' := [(2, .int (nI (k + 1))), (1, .int (nI (ctN mp k))), (0, .ref (ad nb))]) hx hb dX4_countMapped_22 hl (k := 1) rfl (iinc_nat _ 1) (by decide) rfl (fun ls hl => ?_)
        refine lv_goto (tgt := 4) hx hb dX4_countMapped_25 (by decide) ?_
        have e9 : ctN mp (k + 1) = ctN mp k := by simp only [ctN]; simp [bI, *]
        exact ih (k + 1) ls (by omega) (by omega) (by rw [e9]; exact (lv_sub hl [1, 0, 2] rfl))
      · have e8 : mp k = true := by cases hq : mp k <;> simp [bI, hq, nI] at c16 ⊢
        refine lv_iinc (v := nI ((ctN mp k) + 1)) (lv' := [(1, .int (nI ((ctN mp k) + 1))), (2, .int (nI k)), (0, .ref (ad nb))]) hx hb dX4_countMapped_19 hl (k := 0) rfl (iinc_nat _ 1) (by decide) rfl (fun ls hl => ?_)
        refine lv_iinc (v := nI (k + 1)) (lv' := [(2, .int (nI (k + 1))), (1, .int (nI ((ctN mp k) + 1))), (0, .ref (ad nb))]) hx hb dX4_countMapped_22 hl (k := 1) rfl (iinc_nat _ 1) (by decide) rfl (fun ls hl => ?_)
        refine lv_goto (tgt := 4) hx hb dX4_countMapped_25 (by decide) ?_
        have e9 : ctN mp (k + 1) = (ctN mp k) + 1 := by simp only [ctN]; simp [bI, *]
        exact ih (k + 1) ls (by omega) (by omega) (by rw [e9]; exact (lv_sub hl [1, 0, 2] rfl))
set_option maxHeartbeats 4000000 in
set_option maxRecDepth 100000 in
theorem kX4_countMapped (l : Launch) (G : iG) (N : Nat) (ad : Nat → Nat) (C : Nat → va_E) {nb nh nm : Nat} {hw : Nat → Nat} {mp : Nat → Bool} {dr : Nat} (lnb : nb < N) (lnh : nh < N) (lnm : nm < N) (hnb : C nb = ob 4 [.ref (ad nh), .ref (ad nm), .int (nI dr)]) (hnh : C nh = ia G 64 (fun i => nI (hw i))) (hnm : C nm = za G 64 (bI mp)) (sz : Nat) : Met l yX4_countMapped wsX4_countMapped rmX4_countMapped (iPre G N ad C sz [.ref (ad nb)]) (va_Qi (fun (r : Int32) (u : Nat → va_E) => r = nI (ctN mp 64) ∧ u = C) (iB G N ad) (iA N ad sz)) 0 0 (iA N ad sz) := by
  refine Met.ofW (cc := cX4_countMapped) (maxL := 3) (ret := (some .int)) (by decide) rfl ?_
  intro p e s m args below meth c s₁ B hml hv
  obtain ⟨rfl, hsz, hP, hK, hD0⟩ := hv
  have hx := B.exec
  have hb := B.bytes
  have hr := B.returns
  have hts := atoms_spec (ws := wsX4_countMapped) B.pre
  have hown : s.vm.findClass RX4 = some m.cls := findClass_of_methodNamed B.named
  have hlocks := B.notSynchronized
  subst hsz
  have hD := wl_self hD0 s.heap.size
  have hA : ∀ q : Nat, s.heap.size ≤ q → iA N ad s.heap.size q := fun q h => Or.inr h
  have hS : va_S (iA N ad s.heap.size) s.heap s.heap [] := va_S.rf
  have hP : va_P G.1 vwB (wl N ad C) s.heap := hP
  have hl := lv_entry ([.ref (ad nb)]) (n := 3) (Nat.le_of_ble_eq_true rfl)
  rw [lg_entry_eq]
  generalize (lg_sl ([.ref (ad nb)]) ++ List.replicate (3 - (lg_sl ([.ref (ad nb)])).length) Slot.unset).toArray = ls at hl ⊢
  have hl : lv_has ls 3 [(0, .ref (ad nb))] := hl
  have nnh : nb ≠ nh := fun h => by rw [h, hnh] at hnb; cases hnb
  have nnm : nb ≠ nm := fun h => by rw [h, hnm] at hnb; cases hnb
  refine lv_iconst (v := nI 0) hx hb dX4_countMapped_0 (by decide) ?_
  refine lv_istore_n (lv' := [(1, .int (nI 0)), (0, .ref (ad nb))]) hx hb dX4_countMapped_1 rfl hl (by decide) rfl (fun ls hl => ?_)
  refine lv_iconst (v := nI 0) hx hb dX4_countMapped_2 (by decide) ?_
  refine lv_istore_n (lv' := [(2, .int (nI 0)), (1, .int (nI 0)), (0, .ref (ad nb))]) hx hb dX4_countMapped_3 rfl hl (by decide) rfl (fun ls hl => ?_)
  refine lX4_countMapped hx hb hml hr hts hown hK hA hP hD hS (Nat.le_refl _) (Nat.le_refl _) lnb lnh lnm hnb hnh hnm (fun ls hl => ?_) 65 0 ls (by omega) (by omega) (lv_sub hl [1, 0, 2] rfl)
  refine lv_iload_n hx hb dX4_countMapped_28 rfl (lv_at hl 0 rfl) ?_
  exact W.iret (v := (nI (ctN mp 64))) hx hb hr (fun t ht hW => ⟨⟨_, _, rfl, ⟨rfl, rfl⟩, iB_of ht hP⟩, hS.F ht⟩) hS.2.2 dX4_countMapped_29
set_option maxRecDepth 20000 in
theorem iu_X4_countSpoilt_4 : ∀ w ∈ u_ws RX4 TX4 3, w ∈ wsX4_countSpoilt := by decide +kernel
set_option maxRecDepth 20000 in
theorem il_X4_countSpoilt_9 : (Cond.fieldLink RX4 9 "BayerGate$Sensor" "hows" "[I") ∈ wsX4_countSpoilt := by decide +kernel
set_option maxRecDepth 20000 in
theorem il_X4_countSpoilt_15 : (Cond.fieldLink RX4 15 "BayerGate$Sensor" "mapped" "[Z") ∈ wsX4_countSpoilt := by decide +kernel
abbrev rmX4_countSpoilt : Room := { frames := 0, cells := 0, slots := 0, locals := 0 }
set_option maxHeartbeats 4000000 in
set_option maxRecDepth 100000 in
theorem lX4_countSpoilt {p : Program} {l : Launch} {e : Env} {s : State} {m : MethodId} {args : Array Value} {below : List Frame} {meth : Method} {c : Code} {Q : State → Prop} {A : Nat → Prop} {H0 : Heap} {cells slots : Nat} (hx : p.tables.exec = Jvm.exec) (hb : c.code = cX4_countSpoilt) (hml : c.maxLocals = 4) (hr : meth.sig.returnType = (some .int)) (hts : ∀ w ∈ wsX4_countSpoilt, w.before args s = true) (hown : s.vm.findClass RX4 = some m.cls) {G : iG} (hK : KB G s) (hA : ∀ q, H0.size ≤ q → A q) {N : Nat} {ad : Nat → Nat} {C : Nat → va_E} {H : Heap} {locs : List Loc} (hP : va_P G.1 vwB (wl N ad C) H) (hD : va_D A (wl N ad C)) (hS : va_S A H0 H locs)  (hcc : cells ≤ rmX4_countSpoilt.cells) (hcs : slots ≤ rmX4_countSpoilt.slots) {nb nh nm : Nat} {hw : Nat → Nat} {mp : Nat → Bool} {dr : Nat} (lnb : nb < N) (lnh : nh < N) (lnm : nm < N) (hnb : C nb = ob 4 [.ref (ad nh), .ref (ad nm), .int (nI dr)]) (hnh : C nh = ia G 64 (fun i => nI (hw i))) (hnm : C nm = za G 64 (bI mp)) (hh : ∀ i, i < 64 → hw i < 3) {w1 : Bool} (kx : ∀ ls, lv_has ls 4 [(2, .int (nI (csN hw mp w1 64)))] → W p l e rmX4_countSpoilt s m args below meth c H locs cells slots Q (F0 m 41 ls [])) : ∀ (d : Nat) (k : Nat) (ls : Array Slot), 64 - k < d → k ≤ 64 → lv_has ls 4 [(2, .int (nI (csN hw mp w1 k))), (3, .int (nI k)), (0, .ref (ad nb)), (1, .int (if w1 then nI 1 else nI 0))] → W p l e rmX4_countSpoilt s m args below meth c H locs cells slots Q (F0 m 4 ls []) := by
  intro d
  induction d with
  | zero => intro k ls hd; exact absurd hd (Nat.not_lt_zero _)
  | succ d ih =>
    intro k ls hd h2 hl
    refine lv_iload_n hx hb dX4_countSpoilt_4 rfl (lv_at hl 1 rfl) ?_
    refine lv_bipush (v := nI 64) hx hb dX4_countSpoilt_5 (by decide) ?_
    refine lv_icmp_ge (tgt := 41) hx hb dX4_countSpoilt_7 (by decide) (fun c7 => ?_) (fun c7 => ?_)
    · have h5 : k = 64 := by have := (nI_leI (by omega) (by omega)).mp c7; omega
      subst h5
      exact kx ls (lv_sub hl [0] rfl)
    · have h4 : k < 64 := by have := mt (nI_leI (by omega) (by omega)).mpr c7; omega
      have h6 := hh k h4
      refine lv_aload_n hx hb dX4_countSpoilt_10 rfl (lv_at hl 2 rfl) ?_
      refine iw_get hx hb hts iu_X4_countSpoilt_4 hown hK hP lnb (hnb) rfl 0 (by decide) (hts _ il_X4_countSpoilt_9) (fun _ h9 => h9) rfl dX4_countSpoilt_11 ?_
      refine lv_iload_n hx hb dX4_countSpoilt_14 rfl (lv_at hl 1 rfl) ?_
      refine iw_iald (v := nI (hw k)) hx hb hK hP lnh (hnh) (vp_in_nI (show k < 64 by omega) (by omega)) (congrArg (fun i => nI (hw i)) (nI_clamp (by omega))) dX4_countSpoilt_15 ?_
      refine lv_if_eq (tgt := 35) hx hb dX4_countSpoilt_16 (by decide) (fun c16 => ?_) (fun c16 => ?_)
      · have e6 : hw k = 0 := (nI_eq (by omega) (by omega)).mp (c16.trans nI_0.symm)
        refine lv_iinc (v := nI (k + 1)) (lv' := [(3, .int (nI (k + 1))), (2, .int (nI (csN hw mp w1 k))), (0, .ref (ad nb)), (1, .int (if w1 then nI 1 else nI 0))]) hx hb dX4_countSpoilt_35 hl (k := 1) rfl (iinc_nat _ 1) (by decide) rfl (fun ls hl => ?_)
        refine lv_goto (tgt := 4) hx hb dX4_countSpoilt_38 (by decide) ?_
        have e9 : csN hw mp w1 (k + 1) = csN hw mp w1 k := by simp only [csN]; simp_all
        exact ih (k + 1) ls (by omega) (by omega) (by rw [e9]; exact (lv_sub hl [1, 0, 2, 3] rfl))
      · have e6 : hw k ≠ 0 := fun e => c16 (by rw [e]; exact nI_0)
        refine lv_iload_n hx hb dX4_countSpoilt_19 rfl (lv_at hl 3 rfl) ?_
        refine lv_if_ne (tgt := 32) hx hb dX4_countSpoilt_20 (by decide) (fun c20 => ?_) (fun c20 => ?_)
        · have e7 : w1 = true := by cases hq : w1 <;> simp [hq, nI] at c20 ⊢
          refine lv_iinc (v := nI ((csN hw mp w1 k) + 1)) (lv' := [(2, .int (nI ((csN hw mp w1 k) + 1))), (3, .int (nI k)), (0, .ref (ad nb)), (1, .int (if w1 then nI 1 else nI 0))]) hx hb dX4_countSpoilt_32 hl (k := 0) rfl (iinc_nat _ 1) (by decide) rfl (fun ls hl => ?_)
          refine lv_iinc (v := nI (k + 1)) (lv' := [(3, .int (nI (k + 1))), (2, .int (nI ((csN hw mp w1 k) + 1))), (0, .ref (ad nb)), (1, .int (if w1 then nI 1 else nI 0))]) hx hb dX4_countSpoilt_35 hl (k := 1) rfl (iinc_nat _ 1) (by decide) rfl (fun ls hl => ?_)
          refine lv_goto (tgt := 4) hx hb dX4_countSpoilt_38 (by decide) ?_
          have e9 : csN hw mp w1 (k + 1) = (csN hw mp w1 k) + 1 := by simp only [csN]; simp_all
          exact ih (k + 1) ls (by omega) (by omega) (by rw [e9]; exact (lv_sub hl [1, 0, 2, 3] rfl))
        · have e7 : w1 = false := by cases hq : w1 <;> simp [hq, nI] at c20 ⊢
          refine lv_aload_n hx hb dX4_countSpoilt_23 rfl (lv_at hl 2 rfl) ?_
          refine iw_get hx hb hts iu_X4_countSpoilt_4 hown hK hP lnb (hnb) rfl 1 (by decide) (hts _ il_X4_countSpoilt_15) (fun _ h9 => h9) rfl dX4_countSpoilt_24 ?_
          refine lv_iload_n hx hb dX4_countSpoilt_27 rfl (lv_at hl 1 rfl) ?_
          refine iw_zald (v := (bI mp) k) hx hb hK hP lnm (hnm) (vp_in_nI (show k < 64 by omega) (by omega)) (congrArg (bI mp) (nI_clamp (by omega))) dX4_countSpoilt_28 ?_
          refine lv_if_ne (tgt := 35) hx hb dX4_countSpoilt_29 (by decide) (fun c29 => ?_) (fun c29 => ?_)
          · have e8 : mp k = true := by cases hq : mp k <;> simp [bI, hq, nI] at c29 ⊢
            refine lv_iinc (v := nI (k + 1)) (lv' := [(3, .int (nI (k + 1))), (2, .int (nI (csN hw mp w1 k))), (0, .ref (ad nb)), (1, .int (if w1 then nI 1 else nI 0))]) hx hb dX4_countSpoilt_35 hl (k := 1) rfl (iinc_nat _ 1) (by decide) rfl (fun ls hl => ?_)
            refine lv_goto (tgt := 4) hx hb dX4_countSpoilt_38 (by decide) ?_
            have e9 : csN hw mp w1 (k + 1) = csN hw mp w1 k := by simp only [csN]; simp_all
            exact ih (k + 1) ls (by omega) (by omega) (by rw [e9]; exact (lv_sub hl [1, 0, 2, 3] rfl))
          · have e8 : mp k = false := by cases hq : mp k <;> simp [bI, hq, nI] at c29 ⊢
            refine lv_iinc (v := nI ((csN hw mp w1 k) + 1)) (lv' := [(2, .int (nI ((csN hw mp w1 k) + 1))), (3, .int (nI k)), (0, .ref (ad nb)), (1, .int (if w1 then nI 1 else nI 0))]) hx hb dX4_countSpoilt_32 hl (k := 0) rfl (iinc_nat _ 1) (by decide) rfl (fun ls hl => ?_)
            refine lv_iinc (v := nI (k + 1)) (lv' := [(3, .int (nI (k + 1))), (2, .int (nI ((csN hw mp w1 k) + 1))), (0, .ref (ad nb)), (1, .int (if w1 then nI 1 else nI 0))]) hx hb dX4_countSpoilt_35 hl (k := 1) rfl (iinc_nat _ 1) (by decide) rfl (fun ls hl => ?_)
            refine lv_goto (tgt := 4) hx hb dX4_countSpoilt_38 (by decide) ?_
            have e9 : csN hw mp w1 (k + 1) = (csN hw mp w1 k) + 1 := by simp only [csN]; simp_all
            exact ih (k + 1) ls (by omega) (by omega) (by rw [e9]; exact (lv_sub hl [1, 0, 2, 3] rfl))
set_option maxHeartbeats 4000000 in
set_option maxRecDepth 100000 in
theorem kX4_countSpoilt (l : Launch) (G : iG) (N : Nat) (ad : Nat → Nat) (C : Nat → va_E) {nb nh nm : Nat} {hw : Nat → Nat} {mp : Nat → Bool} {dr : Nat} (lnb : nb < N) (lnh : nh < N) (lnm : nm < N) (hnb : C nb = ob 4 [.ref (ad nh), .ref (ad nm), .int (nI dr)]) (hnh : C nh = ia G 64 (fun i => nI (hw i))) (hnm : C nm = za G 64 (bI mp)) (hh : ∀ i, i < 64 → hw i < 3) (w1 : Bool) (sz : Nat) : Met l yX4_countSpoilt wsX4_countSpoilt rmX4_countSpoilt (iPre G N ad C sz [.ref (ad nb), .int (if w1 then nI 1 else nI 0)]) (va_Qi (fun (r : Int32) (u : Nat → va_E) => r = nI (csN hw mp w1 64) ∧ u = C) (iB G N ad) (iA N ad sz)) 0 0 (iA N ad sz) := by
  refine Met.ofW (cc := cX4_countSpoilt) (maxL := 4) (ret := (some .int)) (by decide) rfl ?_
  intro p e s m args below meth c s₁ B hml hv
  obtain ⟨rfl, hsz, hP, hK, hD0⟩ := hv
  have hx := B.exec
  have hb := B.bytes
  have hr := B.returns
  have hts := atoms_spec (ws := wsX4_countSpoilt) B.pre
  have hown : s.vm.findClass RX4 = some m.cls := findClass_of_methodNamed B.named
  have hlocks := B.notSynchronized
  subst hsz
  have hD := wl_self hD0 s.heap.size
  have hA : ∀ q : Nat, s.heap.size ≤ q → iA N ad s.heap.size q := fun q h => Or.inr h
  have hS : va_S (iA N ad s.heap.size) s.heap s.heap [] := va_S.rf
  have hP : va_P G.1 vwB (wl N ad C) s.heap := hP
  have hl := lv_entry ([.ref (ad nb), .int (if w1 then nI 1 else nI 0)]) (n := 4) (Nat.le_of_ble_eq_true rfl)
  rw [lg_entry_eq]
  generalize (lg_sl ([.ref (ad nb), .int (if w1 then nI 1 else nI 0)]) ++ List.replicate (4 - (lg_sl ([.ref (ad nb), .int (if w1 then nI 1 else nI 0)])).length) Slot.unset).toArray = ls at hl ⊢
  have hl : lv_has ls 4 [(0, .ref (ad nb)), (1, .int (if w1 then nI 1 else nI 0))] := hl
  have nnh : nb ≠ nh := fun h => by rw [h, hnh] at hnb; cases hnb
  have nnm : nb ≠ nm := fun h => by rw [h, hnm] at hnb; cases hnb
  refine lv_iconst (v := nI 0) hx hb dX4_countSpoilt_0 (by decide) ?_
  refine lv_istore_n (lv' := [(2, .int (nI 0)), (0, .ref (ad nb)), (1, .int (if w1 then nI 1 else nI 0))]) hx hb dX4_countSpoilt_1 rfl hl (by decide) rfl (fun ls hl => ?_)
  refine lv_iconst (v := nI 0) hx hb dX4_countSpoilt_2 (by decide) ?_
  refine lv_istore_n (lv' := [(3, .int (nI 0)), (2, .int (nI 0)), (0, .ref (ad nb)), (1, .int (if w1 then nI 1 else nI 0))]) hx hb dX4_countSpoilt_3 rfl hl (by decide) rfl (fun ls hl => ?_)
  refine lX4_countSpoilt hx hb hml hr hts hown hK hA hP hD hS (Nat.le_refl _) (Nat.le_refl _) lnb lnh lnm hnb hnh hnm hh (fun ls hl => ?_) 65 0 ls (by omega) (by omega) (lv_sub hl [1, 0, 2, 3] rfl)
  refine lv_iload_n hx hb dX4_countSpoilt_41 rfl (lv_at hl 0 rfl) ?_
  exact W.iret (v := (nI (csN hw mp w1 64))) hx hb hr (fun t ht hW => ⟨⟨_, _, rfl, ⟨rfl, rfl⟩, iB_of ht hP⟩, hS.F ht⟩) hS.2.2 dX4_countSpoilt_42
