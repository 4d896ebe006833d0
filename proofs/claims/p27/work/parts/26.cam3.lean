set_option maxRecDepth 20000 in
theorem ggX6_countEdits_X0_count : GoodIn wsX6_countEdits wsX0_count := goodIn_r _ [7, 8, 23, 24, 25] (by decide +kernel) (by decide +kernel)
set_option maxRecDepth 20000 in
theorem gX6_countEdits_X0_count : GoodIn wsX6_countEdits (wsV RX6 140 RX0 yX0_count wsX0_count) := goodIn_app (goodIn_of _ (by decide +kernel)) ggX6_countEdits_X0_count
set_option maxRecDepth 20000 in
theorem ggX6_save_X6_needFrame : GoodIn wsX6_save wsX6_needFrame := goodIn_ca (goodIn_r _ [8, 9, 10, 11, 37, 38, 39, 40, 41, 42, 43, 44, 45] (by decide +kernel) (by decide +kernel)) (goodIn_sub (fun _ h => List.mem_cons_of_mem _ (List.mem_append_left _ (List.mem_append_right _ h))) (by decide +kernel))
set_option maxRecDepth 20000 in
theorem gX6_save_X6_needFrame : GoodIn wsX6_save (wsV RX6 127 RX6 yX6_needFrame wsX6_needFrame) := goodIn_app (goodIn_of _ (by decide +kernel)) ggX6_save_X6_needFrame
set_option maxRecDepth 20000 in
theorem ggX6_save_X6_needRoom : GoodIn wsX6_save wsX6_needRoom := goodIn_ca (goodIn_r _ [14, 15, 16] (by decide +kernel) (by decide +kernel)) (goodIn_sub (fun _ h => List.mem_cons_of_mem _ (List.mem_append_right _ h)) (by decide +kernel))
set_option maxRecDepth 20000 in
theorem gX6_save_X6_needRoom : GoodIn wsX6_save (va_wsS RX6 105 yX6_needRoom wsX6_needRoom) := goodIn_app (goodIn_of _ (by decide +kernel)) ggX6_save_X6_needRoom
set_option maxRecDepth 20000 in
theorem ggX6_save_X6_countFilesOf : GoodIn wsX6_save wsX6_countFilesOf := goodIn_r _ [20, 1, 2, 37, 38, 39, 40, 41, 42, 43, 44, 45, 51, 52, 53] (by decide +kernel) (by decide +kernel)
set_option maxRecDepth 20000 in
theorem gX6_save_X6_countFilesOf : GoodIn wsX6_save (wsV RX6 151 RX6 yX6_countFilesOf wsX6_countFilesOf) := goodIn_app (goodIn_of _ (by decide +kernel)) ggX6_save_X6_countFilesOf
set_option maxRecDepth 20000 in
theorem ggX6_save_X5_keep : GoodIn wsX6_save wsX5_keep := goodIn_r _ [25, 26, 27, 28, 29, 30, 31, 32, 33, 34, 35, 36, 51, 52, 53, 54, 55, 56] (by decide +kernel) (by decide +kernel)
set_option maxRecDepth 20000 in
theorem gX6_save_X5_keep : GoodIn wsX6_save (wsV RX6 154 RX5 yX5_keep wsX5_keep) := goodIn_app (goodIn_of _ (by decide +kernel)) ggX6_save_X5_keep
set_option maxRecDepth 20000 in
theorem ggX6_developFrame_X2_compose : GoodIn wsX6_developFrame wsX2_compose := goodIn_r _ [7, 8, 9, 10, 11, 12, 13, 14, 15, 16, 17, 6, 18, 19, 20, 21, 22, 23, 24, 25, 26, 27, 28, 29, 30, 31, 32, 33, 34, 35, 36, 37, 38, 39, 40, 41, 42, 43, 44, 45, 46, 47, 48, 49, 50, 51, 52, 53, 54, 55, 56, 57, 58, 59, 60, 61, 62, 63, 64, 65, 66, 67, 68, 93, 94, 95, 96, 97] (by decide +kernel) (by decide +kernel)
set_option maxRecDepth 20000 in
theorem gX6_developFrame_X2_compose : GoodIn wsX6_developFrame (wsV RX6 246 RX2 yX2_compose wsX2_compose) := goodIn_app (goodIn_of _ (by decide +kernel)) ggX6_developFrame_X2_compose
set_option maxRecDepth 20000 in
theorem ggX6_developFrame_X2_bound : GoodIn wsX6_developFrame wsX2_bound := goodIn_r _ [72, 32, 73, 74, 6, 75, 64, 96, 97] (by decide +kernel) (by decide +kernel)
set_option maxRecDepth 20000 in
theorem gX6_developFrame_X2_bound : GoodIn wsX6_developFrame (wsV RX6 304 RX2 yX2_bound wsX2_bound) := goodIn_app (goodIn_of _ (by decide +kernel)) ggX6_developFrame_X2_bound
set_option maxRecDepth 20000 in
theorem ggX6_wordBehind_X2_compose : GoodIn wsX6_wordBehind wsX2_compose := goodIn_r _ [8, 9, 10, 11, 12, 13, 14, 15, 16, 17, 18, 7, 19, 20, 21, 22, 23, 24, 25, 26, 27, 28, 29, 30, 31, 32, 33, 34, 35, 36, 37, 38, 39, 40, 41, 42, 43, 44, 45, 46, 47, 48, 49, 50, 51, 52, 53, 54, 55, 56, 57, 58, 59, 60, 61, 62, 63, 64, 65, 66, 67, 68, 69, 98, 99, 100, 101, 102] (by decide +kernel) (by decide +kernel)
set_option maxRecDepth 20000 in
theorem gX6_wordBehind_X2_compose : GoodIn wsX6_wordBehind (wsV RX6 246 RX2 yX2_compose wsX2_compose) := goodIn_app (goodIn_of _ (by decide +kernel)) ggX6_wordBehind_X2_compose
set_option maxRecDepth 20000 in
theorem ggX6_wordBehind_X2_bound : GoodIn wsX6_wordBehind wsX2_bound := goodIn_r _ [73, 33, 74, 75, 7, 76, 65, 101, 102] (by decide +kernel) (by decide +kernel)
set_option maxRecDepth 20000 in
theorem gX6_wordBehind_X2_bound : GoodIn wsX6_wordBehind (wsV RX6 304 RX2 yX2_bound wsX2_bound) := goodIn_app (goodIn_of _ (by decide +kernel)) ggX6_wordBehind_X2_bound
set_option maxRecDepth 20000 in
theorem ggX6_wordBehind_X2_sumUp : GoodIn wsX6_wordBehind wsX2_sumUp := goodIn_r _ [80, 33, 101, 102] (by decide +kernel) (by decide +kernel)
set_option maxRecDepth 20000 in
theorem gX6_wordBehind_X2_sumUp : GoodIn wsX6_wordBehind (wsV RX6 307 RX2 yX2_sumUp wsX2_sumUp) := goodIn_app (goodIn_of _ (by decide +kernel)) ggX6_wordBehind_X2_sumUp
theorem f2d_C {x : UInt32} (h : vf_n32 x) : FP.f2d x = FP.Core.f2d x := if_neg (fun q => (n32_val x).mp h ((FP.Core.fIsNaN_iff x).mp q))
theorem f2d_n {x : UInt32} (h : vf_n32 x) : vf_n64 (FP.f2d x) := by
  rw [f2d_C h, n64_val]
  rw [FP.Core.val64_f2d]
  exact rnd_n ((n32_val x).mp h)
theorem bdF_n {x : UInt32} (h : vf_n32 x) : vf_n32 (bdF x) := by
  unfold bdF
  split
  · split
    · exact fin32_n f0_ok
    · exact h
  · exact fin32_n (finz32_fin f255_ok)
/-- the picture's numbers ahead of the bounds, the picture, its word -/
def coF (rw : Nat → Nat) (mp : Nat → Bool) (E : Er) : Nat → UInt32 := cmF E.1 E.2.1 (whF (mmN rw mp (hasM (fun i => nI (E.1 i)) E.2.2))) E.2.2
def piF (rw : Nat → Nat) (mp : Nat → Bool) (E : Er) (i : Nat) : UInt32 := bdF (coF rw mp E i)
def wdI (rw : Nat → Nat) (mp : Nat → Bool) (E : Er) : Int32 := suI (piF rw mp E) 192
theorem coF_n (rw : Nat → Nat) (mp : Nat → Bool) {E : Er} (h : okEr E) : ∀ i, i < 192 → vf_n32 (coF rw mp E i) := cmF_n (fun i _ => whF_n _ i) _ h.2
def ofI (S : St) (k w : Nat) : Int32 := if w = 0 then (sFr S k).2.2.1 else if w = 1 then (sFr S k).2.2.2.1 else if w = 2 then nI (sFr S k).2.1.2.2 else if w = 3 then nI (clN (sFr S k).1 64) else if w = 4 then (sFr S k).2.2.2.2 else if w = 5 then shY (sFr S k).1 7 else if w = 6 then nI (whN (sFr S k).1 0) else if w = 7 then nI (whN (sFr S k).1 2) else nI (cfN (sFi S) k (sFl S))
def maI (S : St) (w : Nat) : Int32 := if w = 0 then nI (sFn S) else if w = 1 then nI (sFl S) else if w = 2 then nI (ctN (sMp S) 64) else if w = 3 then nI (sDr S) else if w = 4 then nI (ceN (sFr S) (sFn S)) else if w = 5 then nI (csN (sHw S) (sMp S) true 64) else nI (csN (sHw S) (sMp S) false 64)
def fiI (S : St) (k w : Nat) : Int32 := if w = 0 then nI (sFi S k).2.1 else if w = 1 then nI (sFi S k).2.2 else if w = 2 then nI (sFi S k).1.2.2 else wdI (sFr S (sFi S k).2.1).1 (sMp S) (sFi S k).1
theorem ceN_le (fr : Nat → Fr) (h : ∀ k, k < 6 → okFr (fr k)) : ∀ n, n ≤ 6 → ceN fr n ≤ 6 * n
  | 0, _ => Nat.le_refl _
  | n + 1, hn => by
    have h1 := ceN_le fr h n (by omega)
    have h2 := (h n (by omega)).2.1
    unfold ceN
    omega
abbrev rmX6_countFilesOf : Room := { frames := 0, cells := 0, slots := 0, locals := 0 }
set_option maxRecDepth 20000 in
theorem iu_X6_countFilesOf_6 : ∀ w ∈ u_ws RX6 TX6 9, w ∈ wsX6_countFilesOf := by decide +kernel
set_option maxRecDepth 20000 in
theorem il_X6_countFilesOf_39 : (Cond.fieldLink RX6 39 "BayerGate" "fileCount" "I") ∈ wsX6_countFilesOf := by decide +kernel
set_option maxRecDepth 20000 in
theorem il_X6_countFilesOf_31 : (Cond.fieldLink RX6 31 "BayerGate" "fileRow" "[LBayerGate$StoredFile;") ∈ wsX6_countFilesOf := by decide +kernel
set_option maxRecDepth 20000 in
theorem iu_X6_countFilesOf_5 : ∀ w ∈ u_ws RX5 TX5 3, w ∈ wsX6_countFilesOf := by decide +kernel
set_option maxHeartbeats 4000000 in
set_option maxRecDepth 100000 in
theorem lX6_countFilesOf {p : Program} {l : Launch} {e : Env} {s : State} {m : MethodId} {args : Array Value} {below : List Frame} {meth : Method} {c : Code} {Q : State → Prop} {A : Nat → Prop} {H0 : Heap} {cells slots : Nat} (hx : p.tables.exec = Jvm.exec) (hb : c.code = cX6_countFilesOf) (hml : c.maxLocals = 4) (hr : meth.sig.returnType = (some .int)) (hts : ∀ w ∈ wsX6_countFilesOf, w.before args s = true) (hown : s.vm.findClass RX6 = some m.cls) {G : iG} (hK : KB G s) (hA : ∀ q, H0.size ≤ q → A q) {N : Nat} {ad : Nat → Nat} {C : Nat → va_E} {H : Heap} {locs : List Loc} (hP : va_P G.1 vwB (wl N ad C) H) (hD : va_D A (wl N ad C)) (hS : va_S A H0 H locs)  (hcc : cells ≤ rmX6_countFilesOf.cells) (hcs : slots ≤ rmX6_countFilesOf.slots) {o : Nat} {S : St} (hcam : Cam G N ad C o S) {k : Nat} (hk : k < 6) (kx : ∀ ls, lv_has ls 4 [(2, .int (nI (cfN (sFi S) k (sFl S))))] → W p l e rmX6_countFilesOf s m args below meth c H locs cells slots Q (F0 m 34 ls [])) : ∀ (d : Nat) (i : Nat) (ls : Array Slot), sFl S - i < d → i ≤ sFl S → lv_has ls 4 [(2, .int (nI (cfN (sFi S) k i))), (3, .int (nI i)), (0, .ref (ad o)), (1, .int (nI k))] → W p l e rmX6_countFilesOf s m args below meth c H locs cells slots Q (F0 m 4 ls []) := by
  intro d
  induction d with
  | zero => intro i ls hd; exact absurd hd (Nat.not_lt_zero _)
  | succ d ih =>
    intro i ls hd h2 hl
    obtain ⟨hN, ⟨ok1, ok2, ok3, ok4, ok5, ok6, ok7, ok8, ok9⟩, h0, ⟨s1, s2, s3⟩, ⟨e1, e2, e3⟩, ⟨F7, h7, hF7⟩, ⟨F8, h8, hF8⟩, ⟨TF, tr1, tr2, tr3, tr4, tr5⟩, ⟨TD, dv1, dv2, dv3⟩, ⟨TC, cv1, cv2, cv3⟩, hfr, hfi⟩ := id hcam
    refine lv_iload_n hx hb dX6_countFilesOf_4 rfl (lv_at hl 1 rfl) ?_
    refine lv_aload_n hx hb dX6_countFilesOf_5 rfl (lv_at hl 2 rfl) ?_
    refine iw_get hx hb hts iu_X6_countFilesOf_6 hown hK hP (by omega) (h0) rfl 5 (by decide) (hts _ il_X6_countFilesOf_39) (fun _ h9 => h9) rfl dX6_countFilesOf_6 ?_
    refine lv_icmp_ge (tgt := 34) hx hb dX6_countFilesOf_9 (by decide) (fun c9 => ?_) (fun c9 => ?_)
    · have h5 : i = sFl S := by have := (nI_leI (by omega) (by omega)).mp c9; omega
      subst h5
      exact kx ls (lv_sub hl [0] rfl)
    · have h4 : i < sFl S := by have := mt (nI_leI (by omega) (by omega)).mpr c9; omega
      obtain ⟨i1, i2, i3, i4⟩ := hfi (i) (by omega)
      obtain ⟨⟨oje, oji⟩, ojf⟩ := ok9 (i) (by omega)
      refine lv_aload_n hx hb dX6_countFilesOf_12 rfl (lv_at hl 2 rfl) ?_
      refine iw_get hx hb hts iu_X6_countFilesOf_6 hown hK hP (by omega) (h0) rfl 3 (by decide) (hts _ il_X6_countFilesOf_31) (fun _ h9 => h9) rfl dX6_countFilesOf_13 ?_
      refine lv_iload_n hx hb dX6_countFilesOf_16 rfl (lv_at hl 1 rfl) ?_
      refine iw_ralS (v := ad (o + 50 + 4 * i)) hx hb hK hP (by omega) (h8) (vp_in_nI (show i < 6 by omega) (by omega)) ((congrArg F8 (nI_clamp (by omega))).trans (hF8 _ (by omega))) dX6_countFilesOf_17 ?_
      refine iw_getN hx hb hts iu_X6_countFilesOf_5 hown hK hP (by omega) (i1) rfl 1 (by decide) (nw_RX6_211 hK.2) (fun _ h9 => h9) rfl dX6_countFilesOf_18 ?_
      refine lv_iload_n hx hb dX6_countFilesOf_21 rfl (lv_at hl 3 rfl) ?_
      refine lv_icmp_ne (tgt := 28) hx hb dX6_countFilesOf_22 (by decide) (fun c22 => ?_) (fun c22 => ?_)
      · have e8 : ¬ (sFi S i).2.1 = k := fun e => c22 (by rw [e])
        refine lv_iinc (v := nI (i + 1)) (lv' := [(3, .int (nI (i + 1))), (2, .int (nI (cfN (sFi S) k i))), (0, .ref (ad o)), (1, .int (nI k))]) hx hb dX6_countFilesOf_28 hl (k := 1) rfl (iinc_nat _ 1) (by decide) rfl (fun ls hl => ?_)
        refine lv_goto (tgt := 4) hx hb dX6_countFilesOf_31 (by decide) ?_
        have e9 : cfN (sFi S) k (i + 1) = cfN (sFi S) k i := by simp only [cfN]; simp [e8]
        exact ih (i + 1) ls (by omega) (by omega) (by rw [e9]; exact (lv_sub hl [1, 0, 2, 3] rfl))
      · have e8 : (sFi S i).2.1 = k := (nI_eq (by omega) (by omega)).mp c22
        refine lv_iinc (v := nI ((cfN (sFi S) k i) + 1)) (lv' := [(2, .int (nI ((cfN (sFi S) k i) + 1))), (3, .int (nI i)), (0, .ref (ad o)), (1, .int (nI k))]) hx hb dX6_countFilesOf_25 hl (k := 0) rfl (iinc_nat _ 1) (by decide) rfl (fun ls hl => ?_)
        refine lv_iinc (v := nI (i + 1)) (lv' := [(3, .int (nI (i + 1))), (2, .int (nI ((cfN (sFi S) k i) + 1))), (0, .ref (ad o)), (1, .int (nI k))]) hx hb dX6_countFilesOf_28 hl (k := 1) rfl (iinc_nat _ 1) (by decide) rfl (fun ls hl => ?_)
        refine lv_goto (tgt := 4) hx hb dX6_countFilesOf_31 (by decide) ?_
        have e9 : cfN (sFi S) k (i + 1) = (cfN (sFi S) k i) + 1 := by simp only [cfN]; simp [e8]
        exact ih (i + 1) ls (by omega) (by omega) (by rw [e9]; exact (lv_sub hl [1, 0, 2, 3] rfl))
set_option maxHeartbeats 4000000 in
set_option maxRecDepth 100000 in
theorem kX6_countFilesOf (l : Launch) (G : iG) (N : Nat) (ad : Nat → Nat) (C : Nat → va_E) (o : Nat) (S : St) (hcam : Cam G N ad C o S) (k : Nat) (hk : k < 6) (sz : Nat) : Met l yX6_countFilesOf wsX6_countFilesOf rmX6_countFilesOf (iPre G N ad C sz [.ref (ad o), .int (nI k)]) (va_Qi (fun (r : Int32) (u : Nat → va_E) => r = nI (cfN (sFi S) k (sFl S)) ∧ u = C) (iB G N ad) (iA N ad sz)) 0 0 (iA N ad sz) := by
  refine Met.ofW (cc := cX6_countFilesOf) (maxL := 4) (ret := (some .int)) (by decide) rfl ?_
  intro p e s m args below meth c s₁ B hml hv
  obtain ⟨rfl, hsz, hP, hK, hD0⟩ := hv
  have hx := B.exec
  have hb := B.bytes
  have hr := B.returns
  have hts := atoms_spec (ws := wsX6_countFilesOf) B.pre
  have hown : s.vm.findClass RX6 = some m.cls := findClass_of_methodNamed B.named
  have hlocks := B.notSynchronized
  subst hsz
  have hD := wl_self hD0 s.heap.size
  have hA : ∀ q : Nat, s.heap.size ≤ q → iA N ad s.heap.size q := fun q h => Or.inr h
  have hS : va_S (iA N ad s.heap.size) s.heap s.heap [] := va_S.rf
  have hP : va_P G.1 vwB (wl N ad C) s.heap := hP
  have hl := lv_entry ([.ref (ad o), .int (nI k)]) (n := 4) (Nat.le_of_ble_eq_true rfl)
  rw [lg_entry_eq]
  generalize (lg_sl ([.ref (ad o), .int (nI k)]) ++ List.replicate (4 - (lg_sl ([.ref (ad o), .int (nI k)])).length) Slot.unset).toArray = ls at hl ⊢
  have hl : lv_has ls 4 [(0, .ref (ad o)), (1, .int (nI k))] := hl
  obtain ⟨hN, ⟨ok1, ok2, ok3, ok4, ok5, ok6, ok7, ok8, ok9⟩, h0, ⟨s1, s2, s3⟩, ⟨e1, e2, e3⟩, ⟨F7, h7, hF7⟩, ⟨F8, h8, hF8⟩, ⟨TF, tr1, tr2, tr3, tr4, tr5⟩, ⟨TD, dv1, dv2, dv3⟩, ⟨TC, cv1, cv2, cv3⟩, hfr, hfi⟩ := id hcam
  refine lv_iconst (v := nI 0) hx hb dX6_countFilesOf_0 (by decide) ?_
  refine lv_istore_n (lv' := [(2, .int (nI 0)), (0, .ref (ad o)), (1, .int (nI k))]) hx hb dX6_countFilesOf_1 rfl hl (by decide) rfl (fun ls hl => ?_)
  refine lv_iconst (v := nI 0) hx hb dX6_countFilesOf_2 (by decide) ?_
  refine lv_istore_n (lv' := [(3, .int (nI 0)), (2, .int (nI 0)), (0, .ref (ad o)), (1, .int (nI k))]) hx hb dX6_countFilesOf_3 rfl hl (by decide) rfl (fun ls hl => ?_)
  refine lX6_countFilesOf hx hb hml hr hts hown hK hA hP hD hS (Nat.le_refl _) (Nat.le_refl _) hcam hk (fun ls hl => ?_) 7 0 ls (by omega) (by omega) (lv_sub hl [1, 0, 2, 3] rfl)
  refine lv_iload_n hx hb dX6_countFilesOf_34 rfl (lv_at hl 0 rfl) ?_
  exact W.iret (v := (nI (cfN (sFi S) k (sFl S)))) hx hb hr (fun t ht hW => ⟨⟨_, _, rfl, ⟨rfl, rfl⟩, iB_of ht hP⟩, hS.F ht⟩) hS.2.2 dX6_countFilesOf_35
abbrev rmX6_countEdits : Room := { frames := 1, cells := 0, slots := 0, locals := 20 }
set_option maxRecDepth 20000 in
theorem iu_X6_countEdits_6 : ∀ w ∈ u_ws RX6 TX6 9, w ∈ wsX6_countEdits := by decide +kernel
set_option maxRecDepth 20000 in
theorem il_X6_countEdits_35 : (Cond.fieldLink RX6 35 "BayerGate" "frameCount" "I") ∈ wsX6_countEdits := by decide +kernel
set_option maxRecDepth 20000 in
theorem il_X6_countEdits_25 : (Cond.fieldLink RX6 25 "BayerGate" "frameRow" "[LBayerGate$Frame;") ∈ wsX6_countEdits := by decide +kernel
set_option maxRecDepth 20000 in
theorem iu_X6_countEdits_1 : ∀ w ∈ u_ws RX1 TX1 5, w ∈ wsX6_countEdits := by decide +kernel
set_option maxHeartbeats 4000000 in
set_option maxRecDepth 100000 in
theorem lX6_countEdits {p : Program} {l : Launch} {e : Env} {s : State} {m : MethodId} {args : Array Value} {below : List Frame} {meth : Method} {c : Code} {Q : State → Prop} {A : Nat → Prop} {H0 : Heap} {cells slots : Nat} (hx : p.tables.exec = Jvm.exec) (hb : c.code = cX6_countEdits) (hml : c.maxLocals = 3) (hr : meth.sig.returnType = (some .int)) (hts : ∀ w ∈ wsX6_countEdits, w.before args s = true) (hown : s.vm.findClass RX6 = some m.cls) {G : iG} (hK : KB G s) (hA : ∀ q, H0.size ≤ q → A q) {N : Nat} {ad : Nat → Nat} {C : Nat → va_E}  (hcc : cells ≤ rmX6_countEdits.cells) (hcs : slots ≤ rmX6_countEdits.slots) {o : Nat} {S : St} (hcam : Cam G N ad C o S) (kx : ∀ (H : Heap) (locs : List Loc) (ls : Array Slot), va_P G.1 vwB (wl N ad (C)) H → va_D A (wl N ad (C)) → va_S A H0 H locs → lv_has ls 3 [(1, .int (nI (ceN (sFr S) (sFn S))))] → W p l e rmX6_countEdits s m args below meth c H locs cells slots Q (F0 m 33 ls [])) : ∀ (d : Nat) (k : Nat) (H : Heap) (locs : List Loc) (ls : Array Slot), sFn S - k < d → k ≤ sFn S → va_P G.1 vwB (wl N ad C) H → va_D A (wl N ad C) → va_S A H0 H locs → lv_has ls 3 [(1, .int (nI (ceN (sFr S) k))), (2, .int (nI k)), (0, .ref (ad o))] → W p l e rmX6_countEdits s m args below meth c H locs cells slots Q (F0 m 4 ls []) := by
  intro d
  induction d with
  | zero => intro k H locs ls hd; exact absurd hd (Nat.not_lt_zero _)
  | succ d ih =>
    intro k H locs ls hd h2 hP hD hS hl
    obtain ⟨hN, ⟨ok1, ok2, ok3, ok4, ok5, ok6, ok7, ok8, ok9⟩, h0, ⟨s1, s2, s3⟩, ⟨e1, e2, e3⟩, ⟨F7, h7, hF7⟩, ⟨F8, h8, hF8⟩, ⟨TF, tr1, tr2, tr3, tr4, tr5⟩, ⟨TD, dv1, dv2, dv3⟩, ⟨TC, cv1, cv2, cv3⟩, hfr, hfi⟩ := id hcam
    refine lv_iload_n hx hb dX6_countEdits_4 rfl (lv_at hl 1 rfl) ?_
    refine lv_aload_n hx hb dX6_countEdits_5 rfl (lv_at hl 2 rfl) ?_
    refine iw_get hx hb hts iu_X6_countEdits_6 hown hK hP (by omega) (h0) rfl 4 (by decide) (hts _ il_X6_countEdits_35) (fun _ h9 => h9) rfl dX6_countEdits_6 ?_
    refine lv_icmp_ge (tgt := 33) hx hb dX6_countEdits_9 (by decide) (fun c9 => ?_) (fun c9 => ?_)
    · have h5 : k = sFn S := by have := (nI_leI (by omega) (by omega)).mp c9; omega
      subst h5
      exact kx H locs ls hP hD hS (lv_sub hl [0] rfl)
    · have h4 : k < sFn S := by have := mt (nI_leI (by omega) (by omega)).mpr c9; omega
      obtain ⟨f1, f2, f3, f4, f5⟩ := hfr (k) (by omega)
      obtain ⟨okr, oke, oki⟩ := ok8 (k) (by omega)
      refine lv_iload_n hx hb dX6_countEdits_12 rfl (lv_at hl 0 rfl) ?_
      refine lv_aload_n hx hb dX6_countEdits_13 rfl (lv_at hl 2 rfl) ?_
      refine iw_get hx hb hts iu_X6_countEdits_6 hown hK hP (by omega) (h0) rfl 2 (by decide) (hts _ il_X6_countEdits_25) (fun _ h9 => h9) rfl dX6_countEdits_14 ?_
      refine lv_iload_n hx hb dX6_countEdits_17 rfl (lv_at hl 1 rfl) ?_
      refine iw_ralM (v := ad (o + 20 + 5 * k)) hx hb hK hP (by omega) (h7) (vp_in_nI (show k < 6 by omega) (by omega)) ((congrArg F7 (nI_clamp (by omega))).trans (hF7 _ (by omega))) dX6_countEdits_18 ?_
      refine iw_getN hx hb hts iu_X6_countEdits_1 hown hK hP (by omega) (f1) rfl 1 (by decide) (nw_RX6_136 hK.2) (fun _ h9 => h9) rfl dX6_countEdits_19 ?_
      refine iw_i (va_runV (As := []) (rest := [.int (nI (ceN (sFr S) k))]) ⟨hx, hb, hml, hown, hts⟩ (kX0_count l G N ad _ (n := (sFr S k).2.1.2.2) (by omega) (by omega) (by omega) (f3) (f4) (f5) (by omega) _) (cwV 0 hts gX6_countEdits_X0_count rfl rfl rfl (by decide +kernel) ⟨Nat.le_of_ble_eq_true rfl, Nat.le_of_ble_eq_true rfl⟩) (iPV hK hP hD (by omega) (f3) rfl []) rfl rfl hl.1 rfl (lv_room (Nat.le_of_ble_eq_true rfl)) dX6_countEdits_22 ⟨hcc, hcs⟩) hD hS hA (fun r8 u8 H locs hw8 hP hD hS => ?_)
      obtain ⟨hr8, hu8⟩ := hw8
      refine lv_asI hr8 ?_
      rw [hu8] at hP hD
      refine lv_iadd hx hb dX6_countEdits_25 ?_
      refine lv_asI (y := nI ((ceN (sFr S) k) + ((sFr S k).2.1.2.2))) (nI_add _ _) ?_
      refine lv_istore_n (lv' := [(1, .int (nI ((ceN (sFr S) k) + ((sFr S k).2.1.2.2)))), (2, .int (nI k)), (0, .ref (ad o))]) hx hb dX6_countEdits_26 rfl hl (by decide) rfl (fun ls hl => ?_)
      refine lv_iinc (v := nI (k + 1)) (lv' := [(2, .int (nI (k + 1))), (1, .int (nI ((ceN (sFr S) k) + ((sFr S k).2.1.2.2)))), (0, .ref (ad o))]) hx hb dX6_countEdits_27 hl (k := 1) rfl (iinc_nat _ 1) (by decide) rfl (fun ls hl => ?_)
      refine lv_goto (tgt := 4) hx hb dX6_countEdits_30 (by decide) ?_
      exact ih (k + 1) H locs ls (by omega) (by omega) hP hD hS (lv_sub hl [1, 0, 2] rfl)
set_option maxHeartbeats 4000000 in
set_option maxRecDepth 100000 in
theorem kX6_countEdits (l : Launch) (G : iG) (N : Nat) (ad : Nat → Nat) (C : Nat → va_E) (o : Nat) (S : St) (hcam : Cam G N ad C o S) (sz : Nat) : Met l yX6_countEdits wsX6_countEdits rmX6_countEdits (iPre G N ad C sz [.ref (ad o)]) (va_Qi (fun (r : Int32) (u : Nat → va_E) => r = nI (ceN (sFr S) (sFn S)) ∧ u = C) (iB G N ad) (iA N ad sz)) 0 0 (iA N ad sz) := by
  refine Met.ofW (cc := cX6_countEdits) (maxL := 3) (ret := (some .int)) (by decide) rfl ?_
  intro p e s m args below meth c s₁ B hml hv
  obtain ⟨rfl, hsz, hP, hK, hD0⟩ := hv
  have hx := B.exec
  have hb := B.bytes
  have hr := B.returns
  have hts := atoms_spec (ws := wsX6_countEdits) B.pre
  have hown : s.vm.findClass RX6 = some m.cls := findClass_of_methodNamed B.named
  have hlocks := B.notSynchronized
  subst hsz
  have hD := wl_self hD0 s.heap.size
  have hA : ∀ q : Nat, s.heap.size ≤ q → iA N ad s.heap.size q := fun q h => Or.inr h
  have hS : va_S (iA N ad s.heap.size) s.heap s.heap [] := va_S.rf
  have hP : va_P G.1 vwB (wl N ad C) s.heap := hP
  have hl := lv_entry ([.ref (ad o)]) (n := 3) (Nat.le_of_ble_eq_true rfl)
  rw [lg_entry_eq]
  generalize (lg_sl ([.ref (ad o)]) ++ List.replicate (3 - (lg_sl ([.ref (ad o)])).length) Slot.unset).toArray = ls at hl ⊢
  have hl : lv_has ls 3 [(0, .ref (ad o))] := hl
  obtain ⟨hN, ⟨ok1, ok2, ok3, ok4, ok5, ok6, ok7, ok8, ok9⟩, h0, ⟨s1, s2, s3⟩, ⟨e1, e2, e3⟩, ⟨F7, h7, hF7⟩, ⟨F8, h8, hF8⟩, ⟨TF, tr1, tr2, tr3, tr4, tr5⟩, ⟨TD, dv1, dv2, dv3⟩, ⟨TC, cv1, cv2, cv3⟩, hfr, hfi⟩ := id hcam
  refine lv_iconst (v := nI 0) hx hb dX6_countEdits_0 (by decide) ?_
  refine lv_istore_n (lv' := [(1, .int (nI 0)), (0, .ref (ad o))]) hx hb dX6_countEdits_1 rfl hl (by decide) rfl (fun ls hl => ?_)
  refine lv_iconst (v := nI 0) hx hb dX6_countEdits_2 (by decide) ?_
  refine lv_istore_n (lv' := [(2, .int (nI 0)), (1, .int (nI 0)), (0, .ref (ad o))]) hx hb dX6_countEdits_3 rfl hl (by decide) rfl (fun ls hl => ?_)
  refine lX6_countEdits hx hb hml hr hts hown hK hA (Nat.le_refl _) (Nat.le_refl _) hcam (fun H locs ls hP hD hS hl => ?_) 7 0 _ _ ls (by omega) (by omega) hP hD hS (lv_sub hl [1, 0, 2] rfl)
  refine lv_iload_n hx hb dX6_countEdits_33 rfl (lv_at hl 0 rfl) ?_
  exact W.iret (v := (nI (ceN (sFr S) (sFn S)))) hx hb hr (fun t ht hW => ⟨⟨_, _, rfl, ⟨rfl, rfl⟩, iB_of ht hP⟩, hS.F ht⟩) hS.2.2 dX6_countEdits_34
abbrev rmX6_save : Room := { frames := 2, cells := 0, slots := 0, locals := 45 }
set_option maxRecDepth 20000 in
theorem iu_X6_save_6 : ∀ w ∈ u_ws RX6 TX6 9, w ∈ wsX6_save := by decide +kernel
set_option maxRecDepth 20000 in
theorem il_X6_save_39 : (Cond.fieldLink RX6 39 "BayerGate" "fileCount" "I") ∈ wsX6_save := by decide +kernel
set_option maxRecDepth 20000 in
theorem il_X6_save_31 : (Cond.fieldLink RX6 31 "BayerGate" "fileRow" "[LBayerGate$StoredFile;") ∈ wsX6_save := by decide +kernel
set_option maxRecDepth 20000 in
theorem il_X6_save_25 : (Cond.fieldLink RX6 25 "BayerGate" "frameRow" "[LBayerGate$Frame;") ∈ wsX6_save := by decide +kernel
set_option maxRecDepth 20000 in
theorem iu_X6_save_1 : ∀ w ∈ u_ws RX1 TX1 5, w ∈ wsX6_save := by decide +kernel
set_option maxHeartbeats 4000000 in
set_option maxRecDepth 100000 in
theorem kX6_save (l : Launch) (G : iG) (N : Nat) (ad : Nat → Nat) (C : Nat → va_E) (o : Nat) (S : St) (hcam : Cam G N ad C o S) (k : Nat) (hkn : k < sFn S) (hfl : sFl S < 6) (sz : Nat) : Met l yX6_save wsX6_save rmX6_save (iPre G N ad C sz [.ref (ad o), .int (nI k)]) (va_Qi (fun (r : Int32) (u : Nat → va_E) => r = nI (sFl S) ∧ Cam G N ad u o (mkS (sSh S) (sFac S) (sGq S) (sHw S) (sMp S) (sDr S) (sFn S) (sFl S + 1) (sFr S) (va_up (sFi S) (sFl S) ((sFr S k).2.1, k, cfN (sFi S) k (sFl S) + 1))) ∧ same C u o) (iB G N ad) (iA N ad sz)) 0 0 (iA N ad sz) := by
  refine Met.ofW (cc := cX6_save) (maxL := 3) (ret := (some .int)) (by decide) rfl ?_
  intro p e s m args below meth c s₁ B hml hv
  obtain ⟨rfl, hsz, hP, hK, hD0⟩ := hv
  have hx := B.exec
  have hb := B.bytes
  have hr := B.returns
  have hts := atoms_spec (ws := wsX6_save) B.pre
  have hown : s.vm.findClass RX6 = some m.cls := findClass_of_methodNamed B.named
  have hlocks := B.notSynchronized
  subst hsz
  have hD := wl_self hD0 s.heap.size
  have hA : ∀ q : Nat, s.heap.size ≤ q → iA N ad s.heap.size q := fun q h => Or.inr h
  have hS : va_S (iA N ad s.heap.size) s.heap s.heap [] := va_S.rf
  have hP : va_P G.1 vwB (wl N ad C) s.heap := hP
  have hl := lv_entry ([.ref (ad o), .int (nI k)]) (n := 3) (Nat.le_of_ble_eq_true rfl)
  rw [lg_entry_eq]
  generalize (lg_sl ([.ref (ad o), .int (nI k)]) ++ List.replicate (3 - (lg_sl ([.ref (ad o), .int (nI k)])).length) Slot.unset).toArray = ls at hl ⊢
  have hl : lv_has ls 3 [(0, .ref (ad o)), (1, .int (nI k))] := hl
  obtain ⟨hN, ⟨ok1, ok2, ok3, ok4, ok5, ok6, ok7, ok8, ok9⟩, h0, ⟨s1, s2, s3⟩, ⟨e1, e2, e3⟩, ⟨F7, h7, hF7⟩, ⟨F8, h8, hF8⟩, ⟨TF, tr1, tr2, tr3, tr4, tr5⟩, ⟨TD, dv1, dv2, dv3⟩, ⟨TC, cv1, cv2, cv3⟩, hfr, hfi⟩ := id hcam
  have hk : k < 6 := by omega
  obtain ⟨f1, f2, f3, f4, f5⟩ := hfr (k) hk
  obtain ⟨okr, oke, oki⟩ := ok8 (k) hk
  obtain ⟨i1, i2, i3, i4⟩ := hfi (sFl S) hfl
  obtain ⟨⟨oje, oji⟩, ojf⟩ := ok9 (sFl S) hfl
  refine lv_aload_n hx hb dX6_save_0 rfl (lv_at hl 0 rfl) ?_
  refine lv_iload_n hx hb dX6_save_1 rfl (lv_at hl 1 rfl) ?_
  refine iw_v (va_runV (As := [.int (nI k)]) (rest := []) ⟨hx, hb, hml, hown, hts⟩ (kX6_needFrame l G N ad _ o (fn := sFn S) (by omega) (h0) (k) ok6 hkn _) (cwV 1 hts gX6_save_X6_needFrame rfl rfl rfl (by decide +kernel) ⟨Nat.le_of_ble_eq_true rfl, Nat.le_of_ble_eq_true rfl⟩) (iPV hK hP hD (by omega) (h0) rfl [.int (nI k)]) rfl rfl hl.1 rfl (lv_room (Nat.le_of_ble_eq_true rfl)) dX6_save_2 ⟨Nat.le_of_ble_eq_true rfl, Nat.le_of_ble_eq_true rfl⟩) hD hS hA (fun u8 H locs hw8 hP hD hS => ?_)
  rw [hw8] at hP hD
  refine lv_aload_n hx hb dX6_save_5 rfl (lv_at hl 0 rfl) ?_
  refine iw_get hx hb hts iu_X6_save_6 hown hK hP (by omega) (h0) rfl 5 (by decide) (hts _ il_X6_save_39) (fun _ h9 => h9) rfl dX6_save_6 ?_
  refine lv_bipush (v := nI 6) hx hb dX6_save_9 (by decide) ?_
  refine iw_pv (va_runS (As := [.int (nI (sFl S)), .int (nI 6)]) (rest := []) ⟨hx, hb, hml, hown, hts⟩ (kX6_needRoom l (sFl S) 6 hfl (by omega)) (va_cwS 2 hts gX6_save_X6_needRoom rfl rfl rfl (by decide +kernel) ⟨Nat.le_of_ble_eq_true rfl, Nat.le_of_ble_eq_true rfl⟩) ⟨fun a U g mk q => q, fun U hU hW => ⟨rfl, trivial⟩⟩ rfl rfl hl.1 rfl (lv_room (Nat.le_of_ble_eq_true rfl)) dX6_save_11 ⟨Nat.le_of_ble_eq_true rfl, Nat.le_of_ble_eq_true rfl⟩) hP hS (fun u8 H locs hw8 hP hS => ?_)
  refine lv_aload_n hx hb dX6_save_14 rfl (lv_at hl 0 rfl) ?_
  refine iw_get hx hb hts iu_X6_save_6 hown hK hP (by omega) (h0) rfl 5 (by decide) (hts _ il_X6_save_39) (fun _ h9 => h9) rfl dX6_save_15 ?_
  refine lv_istore_n (lv' := [(2, .int (nI (sFl S))), (0, .ref (ad o)), (1, .int (nI k))]) hx hb dX6_save_18 rfl hl (by decide) rfl (fun ls hl => ?_)
  refine lv_aload_n hx hb dX6_save_19 rfl (lv_at hl 1 rfl) ?_
  refine iw_get hx hb hts iu_X6_save_6 hown hK hP (by omega) (h0) rfl 3 (by decide) (hts _ il_X6_save_31) (fun _ h9 => h9) rfl dX6_save_20 ?_
  refine lv_iload_n hx hb dX6_save_23 rfl (lv_at hl 0 rfl) ?_
  refine iw_ralS (v := ad (o + 50 + 4 * (sFl S))) hx hb hK hP (by omega) (h8) (vp_in_nI (show sFl S < 6 by omega) (by omega)) ((congrArg F8 (nI_clamp (by omega))).trans (hF8 _ (by omega))) dX6_save_24 ?_
  refine lv_iload_n hx hb dX6_save_25 rfl (lv_at hl 2 rfl) ?_
  refine lv_aload_n hx hb dX6_save_26 rfl (lv_at hl 1 rfl) ?_
  refine lv_iload_n hx hb dX6_save_27 rfl (lv_at hl 2 rfl) ?_
  refine iw_i (va_runV (As := [.int (nI k)]) (rest := [.int (nI k), .ref (ad (o + 50 + 4 * (sFl S)))]) ⟨hx, hb, hml, hown, hts⟩ (kX6_countFilesOf l G N ad C o S hcam k hk _) (cwV 1 hts gX6_save_X6_countFilesOf rfl rfl rfl (by decide +kernel) ⟨Nat.le_of_ble_eq_true rfl, Nat.le_of_ble_eq_true rfl⟩) (iPV hK hP hD (by omega) (h0) rfl [.int (nI k)]) rfl rfl hl.1 rfl (lv_room (Nat.le_of_ble_eq_true rfl)) dX6_save_28 ⟨Nat.le_of_ble_eq_true rfl, Nat.le_of_ble_eq_true rfl⟩) hD hS hA (fun r8 u8 H locs hw8 hP hD hS => ?_)
  obtain ⟨hr8, hu8⟩ := hw8
  refine lv_asI hr8 ?_
  rw [hu8] at hP hD
  refine lv_iconst (v := nI 1) hx hb dX6_save_31 (by decide) ?_
  refine lv_iadd hx hb dX6_save_32 ?_
  refine lv_asI (y := nI ((cfN (sFi S) k (sFl S)) + 1)) (nI_add _ _) ?_
  refine lv_aload_n hx hb dX6_save_33 rfl (lv_at hl 1 rfl) ?_
  refine iw_get hx hb hts iu_X6_save_6 hown hK hP (by omega) (h0) rfl 2 (by decide) (hts _ il_X6_save_25) (fun _ h9 => h9) rfl dX6_save_34 ?_
  refine lv_iload_n hx hb dX6_save_37 rfl (lv_at hl 2 rfl) ?_
  refine iw_ralM (v := ad (o + 20 + 5 * k)) hx hb hK hP (by omega) (h7) (vp_in_nI (show k < 6 by omega) (by omega)) ((congrArg F7 (nI_clamp (by omega))).trans (hF7 _ (by omega))) dX6_save_38 ?_
  refine iw_getN hx hb hts iu_X6_save_1 hown hK hP (by omega) (f1) rfl 1 (by decide) (nw_RX6_136 hK.2) (fun _ h9 => h9) rfl dX6_save_39 ?_
  refine iw_v (va_runV (As := [.int (nI k), .int (nI (cfN (sFi S) k (sFl S) + 1)), .ref (ad (o + 20 + 5 * k + 2))]) (rest := []) ⟨hx, hb, hml, hown, hts⟩ (kX5_keep l G N ad _ (by omega) (by omega) (by omega) (i2) (i3) (i4) (by omega) (by omega) (by omega) (f3) (f4) (f5) (by omega) (by omega) (by omega) (by omega) (by omega) (by omega) (by omega) (i1) k (cfN (sFi S) k (sFl S) + 1) _) (cwV 3 hts gX6_save_X5_keep rfl rfl rfl (by decide +kernel) ⟨Nat.le_of_ble_eq_true rfl, Nat.le_of_ble_eq_true rfl⟩) (iPV hK hP hD (by omega) (i1) rfl [.int (nI k), .int (nI (cfN (sFi S) k (sFl S) + 1)), .ref (ad (o + 20 + 5 * k + 2))]) rfl rfl hl.1 rfl (lv_room (Nat.le_of_ble_eq_true rfl)) dX6_save_42 ⟨Nat.le_of_ble_eq_true rfl, Nat.le_of_ble_eq_true rfl⟩) hD hS hA (fun u8 H locs hw8 hP hD hS => ?_)
  rw [hw8] at hP hD
  refine lv_aload_n hx hb dX6_save_45 rfl (lv_at hl 1 rfl) ?_
  refine lv_iload_n hx hb dX6_save_46 rfl (lv_at hl 0 rfl) ?_
  refine lv_iconst (v := nI 1) hx hb dX6_save_47 (by decide) ?_
  refine lv_iadd hx hb dX6_save_48 ?_
  refine lv_asI (y := nI ((sFl S) + 1)) (nI_add _ _) ?_
  refine iw_put (ty := .int) hx hb hts iu_X6_save_6 tyX6 tyX6_ok nmX6 hown hK hP hD hS (by omega) ((va_un _ _ (by omega)).trans ((va_un _ _ (by omega)).trans ((va_un _ _ (by omega)).trans ((va_un _ _ (by omega)).trans (h0))))) rfl 5 (by decide) (hts _ il_X6_save_39) (fun _ h9 => h9) rfl (by decide +kernel) rfl rfl (Nat.le_of_ble_eq_true rfl) rfl dX6_save_49 (fun H locs hP hD hS => ?_)
  refine lv_iload_n hx hb dX6_save_52 rfl (lv_at hl 0 rfl) ?_
  have q1 := up_save hcam hfl (E := (sFr S k).2.1) ⟨oke, oki⟩ (f := k) (v := cfN (sFi S) k (sFl S) + 1) hk
  have q2 := up_fl q1 (n := sFl S + 1) (by omega)
  exact W.iret (v := (nI (sFl S))) hx hb hr (fun t ht hW => ⟨⟨_, _, rfl, ⟨rfl, q2, same_up (same_up (same_up (same_up (same_up (same_rf) _ (by omega) (by omega)) _ (by omega) (by omega)) _ (by omega) (by omega)) _ (by omega) (by omega)) _ (by omega) (by omega)⟩, iB_of ht hP⟩, hS.F ht⟩) hS.2.2 dX6_save_53
abbrev rmX6_developFrame : Room := { frames := 4, cells := 0, slots := 0, locals := 101 }
set_option maxRecDepth 20000 in
theorem iu_X6_developFrame_6 : ∀ w ∈ u_ws RX6 TX6 9, w ∈ wsX6_developFrame := by decide +kernel
set_option maxRecDepth 20000 in
theorem il_X6_developFrame_25 : (Cond.fieldLink RX6 25 "BayerGate" "frameRow" "[LBayerGate$Frame;") ∈ wsX6_developFrame := by decide +kernel
set_option maxRecDepth 20000 in
theorem iu_X6_developFrame_1 : ∀ w ∈ u_ws RX1 TX1 5, w ∈ wsX6_developFrame := by decide +kernel
set_option maxRecDepth 20000 in
theorem il_X6_developFrame_19 : (Cond.fieldLink RX6 19 "BayerGate" "sensor" "LBayerGate$Sensor;") ∈ wsX6_developFrame := by decide +kernel
set_option maxRecDepth 20000 in
theorem iu_X6_developFrame_4 : ∀ w ∈ u_ws RX4 TX4 3, w ∈ wsX6_developFrame := by decide +kernel
set_option maxHeartbeats 4000000 in
set_option maxRecDepth 100000 in
theorem kX6_developFrame (l : Launch) (G : iG) (N : Nat) (ad : Nat → Nat) (C : Nat → va_E) (o : Nat) (S : St) (hcam : Cam G N ad C o S) (k : Nat) (hk : k < 6) (sz : Nat) : Met l yX6_developFrame wsX6_developFrame rmX6_developFrame (iPre G N ad C sz [.ref (ad o), .int (nI k), .ref (ad (o + 14))]) (va_Qv (fun (u : Nat → va_E) => u = va_up (va_up C (o + 14 + 2) (ia G 64 (fun i => nI ((mmN (sFr S k).1 (sMp S) (hasM (fun i => nI ((sFr S k).2.1.1 i)) (sFr S k).2.1.2.2)) i)))) (o + 14 + 1) (fa G 192 (piF (sFr S k).1 (sMp S) (sFr S k).2.1))) (iB G N ad) (iA N ad sz)) 0 0 (iA N ad sz) := by
  refine Met.ofW (cc := cX6_developFrame) (maxL := 4) (ret := none) (by decide) rfl ?_
  intro p e s m args below meth c s₁ B hml hv
  obtain ⟨rfl, hsz, hP, hK, hD0⟩ := hv
  have hx := B.exec
  have hb := B.bytes
  have hr := B.returns
  have hts := atoms_spec (ws := wsX6_developFrame) B.pre
  have hown : s.vm.findClass RX6 = some m.cls := findClass_of_methodNamed B.named
  have hlocks := B.notSynchronized
  subst hsz
  have hD := wl_self hD0 s.heap.size
  have hA : ∀ q : Nat, s.heap.size ≤ q → iA N ad s.heap.size q := fun q h => Or.inr h
  have hS : va_S (iA N ad s.heap.size) s.heap s.heap [] := va_S.rf
  have hP : va_P G.1 vwB (wl N ad C) s.heap := hP
  have hl := lv_entry ([.ref (ad o), .int (nI k), .ref (ad (o + 14))]) (n := 4) (Nat.le_of_ble_eq_true rfl)
  rw [lg_entry_eq]
  generalize (lg_sl ([.ref (ad o), .int (nI k), .ref (ad (o + 14))]) ++ List.replicate (4 - (lg_sl ([.ref (ad o), .int (nI k), .ref (ad (o + 14))])).length) Slot.unset).toArray = ls at hl ⊢
  have hl : lv_has ls 4 [(0, .ref (ad o)), (1, .int (nI k)), (2, .ref (ad (o + 14)))] := hl
  obtain ⟨hN, ⟨ok1, ok2, ok3, ok4, ok5, ok6, ok7, ok8, ok9⟩, h0, ⟨s1, s2, s3⟩, ⟨e1, e2, e3⟩, ⟨F7, h7, hF7⟩, ⟨F8, h8, hF8⟩, ⟨TF, tr1, tr2, tr3, tr4, tr5⟩, ⟨TD, dv1, dv2, dv3⟩, ⟨TC, cv1, cv2, cv3⟩, hfr, hfi⟩ := id hcam
  obtain ⟨f1, f2, f3, f4, f5⟩ := hfr (k) hk
  obtain ⟨okr, oke, oki⟩ := ok8 (k) hk
  refine lv_aload_n hx hb dX6_developFrame_0 rfl (lv_at hl 0 rfl) ?_
  refine iw_get hx hb hts iu_X6_developFrame_6 hown hK hP (by omega) (h0) rfl 2 (by decide) (hts _ il_X6_developFrame_25) (fun _ h9 => h9) rfl dX6_developFrame_1 ?_
  refine lv_iload_n hx hb dX6_developFrame_4 rfl (lv_at hl 1 rfl) ?_
  refine iw_ralM (v := ad (o + 20 + 5 * k)) hx hb hK hP (by omega) (h7) (vp_in_nI (show k < 6 by omega) (by omega)) ((congrArg F7 (nI_clamp (by omega))).trans (hF7 _ (by omega))) dX6_developFrame_5 ?_
  refine lv_astore_n (lv' := [(3, .ref (ad (o + 20 + 5 * k))), (0, .ref (ad o)), (1, .int (nI k)), (2, .ref (ad (o + 14)))]) hx hb dX6_developFrame_6 rfl hl (by decide) rfl (fun ls hl => ?_)
  refine lv_aload_n hx hb dX6_developFrame_7 rfl (lv_at hl 3 rfl) ?_
  refine lv_aload_n hx hb dX6_developFrame_8 rfl (lv_at hl 0 rfl) ?_
  refine iw_getN hx hb hts iu_X6_developFrame_1 hown hK hP (by omega) (f1) rfl 0 (by decide) (nw_RX6_158 hK.2) (fun _ h9 => h9) rfl dX6_developFrame_9 ?_
  refine lv_aload_n hx hb dX6_developFrame_12 rfl (lv_at hl 0 rfl) ?_
  refine iw_getN hx hb hts iu_X6_developFrame_1 hown hK hP (by omega) (f1) rfl 1 (by decide) (nw_RX6_136 hK.2) (fun _ h9 => h9) rfl dX6_developFrame_13 ?_
  refine lv_aload_n hx hb dX6_developFrame_16 rfl (lv_at hl 1 rfl) ?_
  refine iw_get hx hb hts iu_X6_developFrame_6 hown hK hP (by omega) (h0) rfl 1 (by decide) (hts _ il_X6_developFrame_19) (fun _ h9 => h9) rfl dX6_developFrame_17 ?_
  refine iw_getN hx hb hts iu_X6_developFrame_4 hown hK hP (by omega) (e1) rfl 1 (by decide) (nw_RX6_242 hK.2) (fun _ h9 => h9) rfl dX6_developFrame_20 ?_
  refine iw_v (va_runV (As := [.ref (ad (o + 20 + 5 * k + 1)), .ref (ad (o + 20 + 5 * k + 2)), .ref (ad (o + 6))]) (rest := []) ⟨hx, hb, hml, hown, hts⟩ (kX2_compose l G N ad _ (by omega) (by omega) (by omega) (dv1) (dv2) (dv3) (by omega) (by omega) (f2) (e3) okr (by omega) (by omega) (by omega) (f3) (f4) (f5) (by omega) (by omega) oke oki (by omega) _) (cwV 3 hts gX6_developFrame_X2_compose rfl rfl rfl (by decide +kernel) ⟨Nat.le_of_ble_eq_true rfl, Nat.le_of_ble_eq_true rfl⟩) (iPV hK hP hD (by omega) (dv1) rfl [.ref (ad (o + 20 + 5 * k + 1)), .ref (ad (o + 20 + 5 * k + 2)), .ref (ad (o + 6))]) rfl rfl hl.1 rfl (lv_room (Nat.le_of_ble_eq_true rfl)) dX6_developFrame_23 ⟨Nat.le_of_ble_eq_true rfl, Nat.le_of_ble_eq_true rfl⟩) hD hS hA (fun u8 H locs hw8 hP hD hS => ?_)
  rw [hw8] at hP hD
  refine lv_aload_n hx hb dX6_developFrame_26 rfl (lv_at hl 3 rfl) ?_
  refine iw_v (va_runV (As := []) (rest := []) ⟨hx, hb, hml, hown, hts⟩ (kX2_bound l G N ad _ (by omega) (by omega) (by omega) ((va_un _ _ (by omega)).trans ((va_un _ _ (by omega)).trans (dv1))) (va_us _ _ _) ((va_un _ _ (by omega)).trans (va_us _ _ _)) (coF_n _ _ ⟨oke, oki⟩) _) (cwV 0 hts gX6_developFrame_X2_bound rfl rfl rfl (by decide +kernel) ⟨Nat.le_of_ble_eq_true rfl, Nat.le_of_ble_eq_true rfl⟩) (iPV hK hP hD (by omega) ((va_un _ _ (by omega)).trans ((va_un _ _ (by omega)).trans (dv1))) rfl []) rfl rfl hl.1 rfl (lv_room (Nat.le_of_ble_eq_true rfl)) dX6_developFrame_27 ⟨Nat.le_of_ble_eq_true rfl, Nat.le_of_ble_eq_true rfl⟩) hD hS hA (fun u8 H locs hw8 hP hD hS => ?_)
  rw [hw8] at hP hD
  rw [va_uu] at hP hD
  exact W.vret hx hb hr (fun t ht hW => ⟨⟨_, rfl, rfl, iB_of ht hP⟩, hS.F ht⟩) hS.2.2 dX6_developFrame_30
abbrev rmX6_wordBehind : Room := { frames := 4, cells := 0, slots := 0, locals := 101 }
set_option maxRecDepth 20000 in
theorem iu_X6_wordBehind_6 : ∀ w ∈ u_ws RX6 TX6 9, w ∈ wsX6_wordBehind := by decide +kernel
set_option maxRecDepth 20000 in
theorem il_X6_wordBehind_50 : (Cond.fieldLink RX6 50 "BayerGate" "developed" "LBayerGate$Picture;") ∈ wsX6_wordBehind := by decide +kernel
set_option maxRecDepth 20000 in
theorem il_X6_wordBehind_25 : (Cond.fieldLink RX6 25 "BayerGate" "frameRow" "[LBayerGate$Frame;") ∈ wsX6_wordBehind := by decide +kernel
set_option maxRecDepth 20000 in
theorem iu_X6_wordBehind_1 : ∀ w ∈ u_ws RX1 TX1 5, w ∈ wsX6_wordBehind := by decide +kernel
set_option maxRecDepth 20000 in
theorem il_X6_wordBehind_19 : (Cond.fieldLink RX6 19 "BayerGate" "sensor" "LBayerGate$Sensor;") ∈ wsX6_wordBehind := by decide +kernel
set_option maxRecDepth 20000 in
theorem iu_X6_wordBehind_4 : ∀ w ∈ u_ws RX4 TX4 3, w ∈ wsX6_wordBehind := by decide +kernel
set_option maxHeartbeats 4000000 in
set_option maxRecDepth 100000 in
theorem kX6_wordBehind (l : Launch) (G : iG) (N : Nat) (ad : Nat → Nat) (C : Nat → va_E) (o : Nat) (S : St) (hcam : Cam G N ad C o S) (k : Nat) (hk : k < 6) (eb : Nat) (E : Er) (hE : isEr G ad C eb E) (hE2 : okEr E) (heb : eb + 3 ≤ N) (hout : eb + 3 ≤ o + 14 ∨ o + 17 ≤ eb) (sz : Nat) : Met l yX6_wordBehind wsX6_wordBehind rmX6_wordBehind (iPre G N ad C sz [.ref (ad o), .int (nI k), .ref (ad eb)]) (va_Qi (fun (r : Int32) (u : Nat → va_E) => r = wdI (sFr S k).1 (sMp S) E ∧ Cam G N ad u o S ∧ same C u o) (iB G N ad) (iA N ad sz)) 0 0 (iA N ad sz) := by
  refine Met.ofW (cc := cX6_wordBehind) (maxL := 3) (ret := (some .int)) (by decide) rfl ?_
  intro p e s m args below meth c s₁ B hml hv
  obtain ⟨rfl, hsz, hP, hK, hD0⟩ := hv
  have hx := B.exec
  have hb := B.bytes
  have hr := B.returns
  have hts := atoms_spec (ws := wsX6_wordBehind) B.pre
  have hown : s.vm.findClass RX6 = some m.cls := findClass_of_methodNamed B.named
  have hlocks := B.notSynchronized
  subst hsz
  have hD := wl_self hD0 s.heap.size
  have hA : ∀ q : Nat, s.heap.size ≤ q → iA N ad s.heap.size q := fun q h => Or.inr h
  have hS : va_S (iA N ad s.heap.size) s.heap s.heap [] := va_S.rf
  have hP : va_P G.1 vwB (wl N ad C) s.heap := hP
  have hl := lv_entry ([.ref (ad o), .int (nI k), .ref (ad eb)]) (n := 3) (Nat.le_of_ble_eq_true rfl)
  rw [lg_entry_eq]
  generalize (lg_sl ([.ref (ad o), .int (nI k), .ref (ad eb)]) ++ List.replicate (3 - (lg_sl ([.ref (ad o), .int (nI k), .ref (ad eb)])).length) Slot.unset).toArray = ls at hl ⊢
  have hl : lv_has ls 3 [(0, .ref (ad o)), (1, .int (nI k)), (2, .ref (ad eb))] := hl
  obtain ⟨hN, ⟨ok1, ok2, ok3, ok4, ok5, ok6, ok7, ok8, ok9⟩, h0, ⟨s1, s2, s3⟩, ⟨e1, e2, e3⟩, ⟨F7, h7, hF7⟩, ⟨F8, h8, hF8⟩, ⟨TF, tr1, tr2, tr3, tr4, tr5⟩, ⟨TD, dv1, dv2, dv3⟩, ⟨TC, cv1, cv2, cv3⟩, hfr, hfi⟩ := id hcam
  obtain ⟨f1, f2, f3, f4, f5⟩ := hfr (k) hk
  obtain ⟨okr, oke, oki⟩ := ok8 (k) hk
  obtain ⟨w1, w2, w3⟩ := id hE
  obtain ⟨oke, oki⟩ := id hE2
  refine lv_aload_n hx hb dX6_wordBehind_0 rfl (lv_at hl 0 rfl) ?_
  refine iw_get hx hb hts iu_X6_wordBehind_6 hown hK hP (by omega) (h0) rfl 7 (by decide) (hts _ il_X6_wordBehind_50) (fun _ h9 => h9) rfl dX6_wordBehind_1 ?_
  refine lv_aload_n hx hb dX6_wordBehind_4 rfl (lv_at hl 0 rfl) ?_
  refine iw_get hx hb hts iu_X6_wordBehind_6 hown hK hP (by omega) (h0) rfl 2 (by decide) (hts _ il_X6_wordBehind_25) (fun _ h9 => h9) rfl dX6_wordBehind_5 ?_
  refine lv_iload_n hx hb dX6_wordBehind_8 rfl (lv_at hl 1 rfl) ?_
  refine iw_ralM (v := ad (o + 20 + 5 * k)) hx hb hK hP (by omega) (h7) (vp_in_nI (show k < 6 by omega) (by omega)) ((congrArg F7 (nI_clamp (by omega))).trans (hF7 _ (by omega))) dX6_wordBehind_9 ?_
  refine iw_getN hx hb hts iu_X6_wordBehind_1 hown hK hP (by omega) (f1) rfl 0 (by decide) (nw_RX6_158 hK.2) (fun _ h9 => h9) rfl dX6_wordBehind_10 ?_
  refine lv_aload_n hx hb dX6_wordBehind_13 rfl (lv_at hl 2 rfl) ?_
  refine lv_aload_n hx hb dX6_wordBehind_14 rfl (lv_at hl 0 rfl) ?_
  refine iw_get hx hb hts iu_X6_wordBehind_6 hown hK hP (by omega) (h0) rfl 1 (by decide) (hts _ il_X6_wordBehind_19) (fun _ h9 => h9) rfl dX6_wordBehind_15 ?_
  refine iw_getN hx hb hts iu_X6_wordBehind_4 hown hK hP (by omega) (e1) rfl 1 (by decide) (nw_RX6_242 hK.2) (fun _ h9 => h9) rfl dX6_wordBehind_18 ?_
  refine iw_v (va_runV (As := [.ref (ad (o + 20 + 5 * k + 1)), .ref (ad eb), .ref (ad (o + 6))]) (rest := []) ⟨hx, hb, hml, hown, hts⟩ (kX2_compose l G N ad _ (by omega) (by omega) (by omega) (dv1) (dv2) (dv3) (by omega) (by omega) (f2) (e3) okr (by omega) (by omega) (by omega) (w1) (w2) (w3) (by omega) (by omega) oke oki (by omega) _) (cwV 3 hts gX6_wordBehind_X2_compose rfl rfl rfl (by decide +kernel) ⟨Nat.le_of_ble_eq_true rfl, Nat.le_of_ble_eq_true rfl⟩) (iPV hK hP hD (by omega) (dv1) rfl [.ref (ad (o + 20 + 5 * k + 1)), .ref (ad eb), .ref (ad (o + 6))]) rfl rfl hl.1 rfl (lv_room (Nat.le_of_ble_eq_true rfl)) dX6_wordBehind_21 ⟨Nat.le_of_ble_eq_true rfl, Nat.le_of_ble_eq_true rfl⟩) hD hS hA (fun u8 H locs hw8 hP hD hS => ?_)
  rw [hw8] at hP hD
  refine lv_aload_n hx hb dX6_wordBehind_24 rfl (lv_at hl 0 rfl) ?_
  refine iw_get hx hb hts iu_X6_wordBehind_6 hown hK hP (by omega) ((va_un _ _ (by omega)).trans ((va_un _ _ (by omega)).trans (h0))) rfl 7 (by decide) (hts _ il_X6_wordBehind_50) (fun _ h9 => h9) rfl dX6_wordBehind_25 ?_
  refine iw_v (va_runV (As := []) (rest := []) ⟨hx, hb, hml, hown, hts⟩ (kX2_bound l G N ad _ (by omega) (by omega) (by omega) ((va_un _ _ (by omega)).trans ((va_un _ _ (by omega)).trans (dv1))) (va_us _ _ _) ((va_un _ _ (by omega)).trans (va_us _ _ _)) (coF_n _ _ ⟨oke, oki⟩) _) (cwV 0 hts gX6_wordBehind_X2_bound rfl rfl rfl (by decide +kernel) ⟨Nat.le_of_ble_eq_true rfl, Nat.le_of_ble_eq_true rfl⟩) (iPV hK hP hD (by omega) ((va_un _ _ (by omega)).trans ((va_un _ _ (by omega)).trans (dv1))) rfl []) rfl rfl hl.1 rfl (lv_room (Nat.le_of_ble_eq_true rfl)) dX6_wordBehind_28 ⟨Nat.le_of_ble_eq_true rfl, Nat.le_of_ble_eq_true rfl⟩) hD hS hA (fun u8 H locs hw8 hP hD hS => ?_)
  rw [hw8] at hP hD
  rw [va_uu] at hP hD
  refine lv_aload_n hx hb dX6_wordBehind_31 rfl (lv_at hl 0 rfl) ?_
  refine iw_get hx hb hts iu_X6_wordBehind_6 hown hK hP (by omega) ((va_un _ _ (by omega)).trans ((va_un _ _ (by omega)).trans (h0))) rfl 7 (by decide) (hts _ il_X6_wordBehind_50) (fun _ h9 => h9) rfl dX6_wordBehind_32 ?_
  refine iw_i (va_runV (As := []) (rest := []) ⟨hx, hb, hml, hown, hts⟩ (kX2_sumUp l G N ad _ (by omega) (by omega) (by omega) ((va_un _ _ (by omega)).trans ((va_un _ _ (by omega)).trans (dv1))) (va_us _ _ _) ((va_un _ _ (by omega)).trans (va_us _ _ _)) _) (cwV 0 hts gX6_wordBehind_X2_sumUp rfl rfl rfl (by decide +kernel) ⟨Nat.le_of_ble_eq_true rfl, Nat.le_of_ble_eq_true rfl⟩) (iPV hK hP hD (by omega) ((va_un _ _ (by omega)).trans ((va_un _ _ (by omega)).trans (dv1))) rfl []) rfl rfl hl.1 rfl (lv_room (Nat.le_of_ble_eq_true rfl)) dX6_wordBehind_35 ⟨Nat.le_of_ble_eq_true rfl, Nat.le_of_ble_eq_true rfl⟩) hD hS hA (fun r8 u8 H locs hw8 hP hD hS => ?_)
  obtain ⟨hr8, hu8⟩ := hw8
  refine lv_asI hr8 ?_
  rw [hu8] at hP hD
  have q1 := up_dmen hcam (mmN (sFr S k).1 (sMp S) (hasM (fun i => nI (E.1 i)) E.2.2))
  have q2 := up_dnum q1 (piF (sFr S k).1 (sMp S) E)
  exact W.iret (v := (wdI (sFr S k).1 (sMp S) E)) hx hb hr (fun t ht hW => ⟨⟨_, _, rfl, ⟨rfl, q2, same_up (same_up (same_rf) _ (by omega) (by omega)) _ (by omega) (by omega)⟩, iB_of ht hP⟩, hS.F ht⟩) hS.2.2 dX6_wordBehind_38
