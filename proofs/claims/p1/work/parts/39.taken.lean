set_option maxRecDepth 20000 in
theorem ggX7_zone_X9_colour : GoodIn wsX7_zone wsX9_colour := goodIn_r _ [5] (by decide +kernel) (by decide +kernel)
set_option maxRecDepth 20000 in
theorem gX7_zone_X9_colour_n29 : GoodIn wsX7_zone (wsX9_colour) := ggX7_zone_X9_colour
set_option maxRecDepth 20000 in
theorem ggX7_meter_X7_zone : GoodIn wsX7_meter wsX7_zone := goodIn_r _ [6, 7, 8, 9, 10, 11, 12, 13, 14, 15, 16] (by decide +kernel) (by decide +kernel)
set_option maxRecDepth 20000 in
theorem gX7_meter_X7_zone : GoodIn wsX7_meter (wsV RX7 50 RX7 yX7_zone wsX7_zone) := goodIn_app (goodIn_of _ (by decide +kernel)) ggX7_meter_X7_zone
set_option maxRecDepth 20000 in
theorem ggX9_taken_X9_colour : GoodIn wsX9_taken wsX9_colour := goodIn_r _ [21] (by decide +kernel) (by decide +kernel)
set_option maxRecDepth 20000 in
theorem gX9_taken_X9_colour : GoodIn wsX9_taken (va_wsS RX9 67 yX9_colour wsX9_colour) := goodIn_app (goodIn_of _ (by decide +kernel)) ggX9_taken_X9_colour
set_option maxRecDepth 20000 in
theorem ggX9_taken_X7_init : GoodIn wsX9_taken wsX7_init := goodIn_r _ [24, 25, 26, 27, 28, 29, 30, 31, 32, 33, 34, 35, 36, 37, 38, 39, 40, 41, 42, 43, 44, 45, 46, 47, 48, 49, 63, 64, 65, 58, 59, 60, 61, 62] (by decide +kernel) (by decide +kernel)
set_option maxRecDepth 20000 in
theorem gX9_taken_X7_init : GoodIn wsX9_taken (wsX7_init) := ggX9_taken_X7_init
theorem m10b : nI 1 - nI 1 = nI 0 := by decide
/-- a zone's sum as the reference reckons it, its mean, the meter -/
def zsN (rw : Nat → Nat) (z : Nat) : Nat → Nat
  | 0 => 0
  | n + 1 => zsN rw z n + if colN (n % 8) (n / 8) = 1 ∧ n % 8 / 4 + 2 * (n / 8 / 4) = z then rw n else 0
theorem zsN_le (rw : Nat → Nat) (z : Nat) (h : ∀ i, i < 64 → rw i ≤ 255) : ∀ n, n ≤ 64 → zsN rw z n ≤ 255 * n
  | 0, _ => Nat.le_refl _
  | n + 1, hn => by
    have h1 := zsN_le rw z h n (by omega)
    have h2 := h n (by omega)
    unfold zsN
    split <;> omega
def zF (rw : Nat → Nat) (z : Nat) : UInt64 := FP.ddiv (FP.i2d (nI (zsN rw z 64))) 4620693217682128896
theorem zF_fin (rw : Nat → Nat) (z : Nat) : fin64 (zF rw z) := FP.Core.fin_of_lt (FP.Core.ddiv_mag (K := 1056) (L := 1026) (FP.Core.i2d_mag _) (by decide) (by decide) (by decide) (by decide)) (by decide)
def mtF (rw : Nat → Nat) : UInt64 := FP.ddiv (FP.dadd (FP.dadd (FP.dadd (zF rw 0) (zF rw 1)) (zF rw 2)) (zF rw 3)) 4616189618054758400
theorem mt0 : mtF R0 = 4624950526704877568 := by decide +kernel
theorem wl_cut {D : va_G} {cl : List vw_C} {N N' : Nat} {ad ad1 : Nat → Nat} {C C1 : Nat → va_E} {H : Heap} (h : N ≤ N') (e : ∀ j, j < N → ad1 j = ad j) (c : ∀ j, j < N → C1 j = C j) (hP : va_P D cl (wl N' ad1 C1) H) : va_P D cl (wl N ad C) H := by
  intro k q hq
  obtain ⟨h1, rfl⟩ := wl_at hq
  have h2 := hP k (ad1 k, C1 k) (wl_get (by omega) rfl)
  rw [e k h1, c k h1] at h2
  exact h2
theorem wl_cutD {A : Nat → Prop} {N N' : Nat} {ad ad1 : Nat → Nat} {C C1 : Nat → va_E} (h : N ≤ N') (e : ∀ j, j < N → ad1 j = ad j) (hD : va_D A (wl N' ad1 C1)) : va_D A (wl N ad C) := by
  refine ⟨fun i j p q hp hq h9 => ?_, fun k q hq => ?_⟩
  · obtain ⟨h1, rfl⟩ := wl_at hp
    obtain ⟨h2, rfl⟩ := wl_at hq
    exact hD.1 i j (ad1 i, C1 i) (ad1 j, C1 j) (wl_get (by omega) rfl) (wl_get (by omega) rfl) (by show ad1 i = ad1 j; rw [e i h1, e j h2]; exact h9)
  · obtain ⟨h1, rfl⟩ := wl_at hq
    have h2 := hD.2 k (ad1 k, C1 k) (wl_get (by omega) rfl)
    show A (ad k)
    rw [← e k h1]
    exact h2
abbrev rmX7_clipped : Room := { frames := 0, cells := 0, slots := 0, locals := 0 }
set_option maxHeartbeats 4000000 in
set_option maxRecDepth 100000 in
theorem lX7_clipped {p : Program} {l : Launch} {e : Env} {s : State} {m : MethodId} {args : Array Value} {below : List Frame} {meth : Method} {c : Code} {Q : State → Prop} {A : Nat → Prop} {H0 : Heap} {cells slots : Nat} (hx : p.tables.exec = Jvm.exec) (hb : c.code = cX7_clipped) (hml : c.maxLocals = 6) (hr : meth.sig.returnType = (some .int)) (hts : ∀ w ∈ wsX7_clipped, w.before args s = true) (hown : s.vm.findClass RX7 = some m.cls) {G : iG} (hK : KB G s) (hA : ∀ q, H0.size ≤ q → A q) {N : Nat} {ad : Nat → Nat} {C : Nat → va_E} {H : Heap} {locs : List Loc} (hP : va_P G.1 vwB (wl N ad C) H) (hD : va_D A (wl N ad C)) (hS : va_S A H0 H locs)  (hcc : cells ≤ rmX7_clipped.cells) (hcs : slots ≤ rmX7_clipped.slots) {f rj : Nat} {rw : Nat → Nat} {f0 f1 f3 : Int32} {f4 : Nat} (lf9 : f < N) (lr9 : rj < N) (gf : C f = ob 7 [.int f0, .int f1, .ref (ad rj), .int f3, .ref f4]) (gr : C rj = ia G 64 (fun i => nI (rw i))) (hr9 : ∀ i, i < 64 → rw i ≤ 255) (kx : ∀ ls, lv_has ls 6 [(1, .int (nI (clN rw 64)))] → W p l e rmX7_clipped s m args below meth c H locs cells slots Q (F0 m 47 ls [])) : ∀ (d : Nat) (i : Nat) (ls : Array Slot), 64 - i < d → i ≤ 64 → lv_has ls 6 [(1, .int (nI (clN rw i))), (2, .ref (ad rj)), (3, .int (nI 64)), (4, .int (nI i))] → W p l e rmX7_clipped s m args below meth c H locs cells slots Q (F0 m 13 ls []) := by
  intro d
  induction d with
  | zero => intro i ls hd; exact absurd hd (Nat.not_lt_zero _)
  | succ d ih =>
    intro i ls hd h2 hl
    refine lv_iload hx hb dX7_clipped_13 (lv_at hl 3 rfl) ?_
    refine lv_iload_n hx hb dX7_clipped_15 rfl (lv_at hl 2 rfl) ?_
    refine lv_icmp_ge (tgt := 47) hx hb dX7_clipped_16 (by decide) (fun c16 => ?_) (fun c16 => ?_)
    · have h5 : i = 64 := by have := (nI_leI (by omega) (by omega)).mp c16; omega
      subst h5
      exact kx ls (lv_sub hl [0] rfl)
    · have h4 : i < 64 := by have := mt (nI_leI (by omega) (by omega)).mpr c16; omega
      have hri := hr9 i h4
      refine lv_aload_n hx hb dX7_clipped_19 rfl (lv_at hl 1 rfl) ?_
      refine lv_iload hx hb dX7_clipped_20 (lv_at hl 3 rfl) ?_
      refine iw_iald (v := nI (rw i)) hx hb hK hP lr9 (gr) (vp_in_nI (show i < 64 by omega) (by omega)) (congrArg (fun i => nI (rw i)) (nI_clamp (by omega))) dX7_clipped_22 ?_
      refine lv_istore (lv' := [(5, .int (nI (rw i))), (1, .int (nI (clN rw i))), (2, .ref (ad rj)), (3, .int (nI 64)), (4, .int (nI i))]) hx hb dX7_clipped_23 hl (by decide) rfl (fun ls hl => ?_)
      refine lv_iload_n hx hb dX7_clipped_25 rfl (lv_at hl 1 rfl) ?_
      refine lv_iload hx hb dX7_clipped_26 (lv_at hl 0 rfl) ?_
      refine lv_sipush (v := nI 255) hx hb dX7_clipped_28 (by decide) ?_
      refine lv_icmp_ne (tgt := 38) hx hb dX7_clipped_31 (by decide) (fun c31 => ?_) (fun c31 => ?_)
      · have e8 : ¬ rw i = 255 := fun h => c31 (by rw [h])
        refine lv_iconst (v := nI 0) hx hb dX7_clipped_38 (by decide) ?_
        refine lv_iadd hx hb dX7_clipped_39 ?_
        refine lv_asI (y := nI ((clN rw i) + 0)) (nI_add _ _) ?_
        refine lv_istore_n (lv' := [(1, .int (nI ((clN rw i) + 0))), (5, .int (nI (rw i))), (2, .ref (ad rj)), (3, .int (nI 64)), (4, .int (nI i))]) hx hb dX7_clipped_40 rfl hl (by decide) rfl (fun ls hl => ?_)
        refine lv_iinc (v := nI (i + 1)) (lv' := [(4, .int (nI (i + 1))), (1, .int (nI ((clN rw i) + 0))), (5, .int (nI (rw i))), (2, .ref (ad rj)), (3, .int (nI 64))]) hx hb dX7_clipped_41 hl (k := 4) rfl (iinc_nat _ 1) (by decide) rfl (fun ls hl => ?_)
        refine lv_goto (tgt := 13) hx hb dX7_clipped_44 (by decide) ?_
        have e9 : clN rw (i + 1) = (clN rw i) + 0 := by simp only [clN]; simp [e8]
        exact ih (i + 1) ls (by omega) (by omega) (by rw [e9]; exact (lv_sub hl [1, 3, 4, 0] rfl))
      · have e8 : rw i = 255 := (nI_eq (by omega) (by omega)).mp c31
        refine lv_iconst (v := nI 1) hx hb dX7_clipped_34 (by decide) ?_
        refine lv_goto (tgt := 39) hx hb dX7_clipped_35 (by decide) ?_
        refine lv_iadd hx hb dX7_clipped_39 ?_
        refine lv_asI (y := nI ((clN rw i) + 1)) (nI_add _ _) ?_
        refine lv_istore_n (lv' := [(1, .int (nI ((clN rw i) + 1))), (5, .int (nI (rw i))), (2, .ref (ad rj)), (3, .int (nI 64)), (4, .int (nI i))]) hx hb dX7_clipped_40 rfl hl (by decide) rfl (fun ls hl => ?_)
        refine lv_iinc (v := nI (i + 1)) (lv' := [(4, .int (nI (i + 1))), (1, .int (nI ((clN rw i) + 1))), (5, .int (nI (rw i))), (2, .ref (ad rj)), (3, .int (nI 64))]) hx hb dX7_clipped_41 hl (k := 4) rfl (iinc_nat _ 1) (by decide) rfl (fun ls hl => ?_)
        refine lv_goto (tgt := 13) hx hb dX7_clipped_44 (by decide) ?_
        have e9 : clN rw (i + 1) = (clN rw i) + 1 := by simp only [clN]; simp [e8]
        exact ih (i + 1) ls (by omega) (by omega) (by rw [e9]; exact (lv_sub hl [1, 3, 4, 0] rfl))
set_option maxRecDepth 20000 in
theorem iu_X7_clipped_7 : ∀ w ∈ u_ws RX7 TX7 5, w ∈ wsX7_clipped := by decide +kernel
set_option maxRecDepth 20000 in
theorem il_X7_clipped_25 : (Cond.fieldLink RX7 25 "BayerGateModel$Frame" "raw" "[I") ∈ wsX7_clipped := by decide +kernel
set_option maxHeartbeats 4000000 in
set_option maxRecDepth 100000 in
theorem kX7_clipped (l : Launch) (G : iG) (N : Nat) (ad : Nat → Nat) (C : Nat → va_E) (f rj : Nat) (rw : Nat → Nat) (f0 f1 f3 : Int32) (f4 : Nat) (lf9 : f < N) (lr9 : rj < N) (gf : C f = ob 7 [.int f0, .int f1, .ref (ad rj), .int f3, .ref f4]) (gr : C rj = ia G 64 (fun i => nI (rw i))) (hr9 : ∀ i, i < 64 → rw i ≤ 255) (sz : Nat) : Met l yX7_clipped wsX7_clipped rmX7_clipped (iPre G N ad C sz [.ref (ad f)]) (va_Qi (fun (r : Int32) (u : Nat → va_E) => r = nI (clN rw 64) ∧ u = C) (iB G N ad) (iA N ad sz)) 0 0 (iA N ad sz) := by
  refine Met.ofW (cc := cX7_clipped) (maxL := 6) (ret := (some .int)) (by decide) rfl ?_
  intro p e s m args below meth c s₁ B hml hv
  obtain ⟨rfl, hsz, hP, hK, hD0⟩ := hv
  have hx := B.exec
  have hb := B.bytes
  have hr := B.returns
  have hts := atoms_spec (ws := wsX7_clipped) B.pre
  have hown : s.vm.findClass RX7 = some m.cls := findClass_of_methodNamed B.named
  have hlocks := B.notSynchronized
  subst hsz
  have hD := wl_self hD0 s.heap.size
  have hA : ∀ q : Nat, s.heap.size ≤ q → iA N ad s.heap.size q := fun q h => Or.inr h
  have hS : va_S (iA N ad s.heap.size) s.heap s.heap [] := va_S.rf
  have hP : va_P G.1 vwB (wl N ad C) s.heap := hP
  have hl := lv_entry ([.ref (ad f)]) (n := 6) (Nat.le_of_ble_eq_true rfl)
  rw [lg_entry_eq]
  generalize (lg_sl ([.ref (ad f)]) ++ List.replicate (6 - (lg_sl ([.ref (ad f)])).length) Slot.unset).toArray = ls at hl ⊢
  have hl : lv_has ls 6 [(0, .ref (ad f))] := hl
  refine lv_iconst (v := nI 0) hx hb dX7_clipped_0 (by decide) ?_
  refine lv_istore_n (lv' := [(1, .int (nI 0)), (0, .ref (ad f))]) hx hb dX7_clipped_1 rfl hl (by decide) rfl (fun ls hl => ?_)
  refine lv_aload_n hx hb dX7_clipped_2 rfl (lv_at hl 1 rfl) ?_
  refine iw_get hx hb hts iu_X7_clipped_7 hown hK hP lf9 (gf) rfl 2 (by decide) (hts _ il_X7_clipped_25) (fun _ h9 => h9) rfl dX7_clipped_3 ?_
  refine lv_astore_n (lv' := [(2, .ref (ad rj)), (1, .int (nI 0)), (0, .ref (ad f))]) hx hb dX7_clipped_6 rfl hl (by decide) rfl (fun ls hl => ?_)
  refine lv_aload_n hx hb dX7_clipped_7 rfl (lv_at hl 0 rfl) ?_
  refine iw_alenI (v := nI 64) hx hb hK hP lr9 (gr) rfl dX7_clipped_8 ?_
  refine lv_istore_n (lv' := [(3, .int (nI 64)), (2, .ref (ad rj)), (1, .int (nI 0)), (0, .ref (ad f))]) hx hb dX7_clipped_9 rfl hl (by decide) rfl (fun ls hl => ?_)
  refine lv_iconst (v := nI 0) hx hb dX7_clipped_10 (by decide) ?_
  refine lv_istore (lv' := [(4, .int (nI 0)), (3, .int (nI 64)), (2, .ref (ad rj)), (1, .int (nI 0)), (0, .ref (ad f))]) hx hb dX7_clipped_11 hl (by decide) rfl (fun ls hl => ?_)
  refine lX7_clipped hx hb hml hr hts hown hK hA hP hD hS (Nat.le_refl _) (Nat.le_refl _) lf9 lr9 gf gr hr9 (fun ls hl => ?_) 65 0 ls (by omega) (by omega) (lv_sub hl [3, 2, 1, 0] rfl)
  refine lv_iload_n hx hb dX7_clipped_47 rfl (lv_at hl 0 rfl) ?_
  exact W.iret (v := (nI (clN rw 64))) hx hb hr (fun t ht hW => ⟨⟨_, _, rfl, ⟨rfl, rfl⟩, iB_of ht hP⟩, hS.F ht⟩) hS.2.2 dX7_clipped_48
abbrev rmX7_zone : Room := { frames := 1, cells := 0, slots := 0, locals := 22 }
set_option maxRecDepth 20000 in
theorem il_X7_zone_iniX9 : (Cond.initialized RX9) ∈ wsX7_zone := by decide +kernel
set_option maxRecDepth 20000 in
theorem il_X7_zone_st_X9_colour : (Cond.static yX9_colour) ∈ wsX7_zone := by decide +kernel
set_option maxRecDepth 20000 in
theorem iu_X7_zone_7 : ∀ w ∈ u_ws RX7 TX7 5, w ∈ wsX7_zone := by decide +kernel
set_option maxRecDepth 20000 in
theorem il_X7_zone_25 : (Cond.fieldLink RX7 25 "BayerGateModel$Frame" "raw" "[I") ∈ wsX7_zone := by decide +kernel
set_option maxHeartbeats 4000000 in
set_option maxRecDepth 100000 in
theorem lX7_zone {p : Program} {l : Launch} {e : Env} {s : State} {m : MethodId} {args : Array Value} {below : List Frame} {meth : Method} {c : Code} {Q : State → Prop} {A : Nat → Prop} {H0 : Heap} {cells slots : Nat} (hx : p.tables.exec = Jvm.exec) (hb : c.code = cX7_zone) (hml : c.maxLocals = 4) (hr : meth.sig.returnType = (some .double)) (hts : ∀ w ∈ wsX7_zone, w.before args s = true) (hown : s.vm.findClass RX7 = some m.cls) {G : iG} (hK : KB G s) (hA : ∀ q, H0.size ≤ q → A q) {N : Nat} {ad : Nat → Nat} {C : Nat → va_E}  (hcc : cells ≤ rmX7_zone.cells) (hcs : slots ≤ rmX7_zone.slots) {f rj : Nat} {rw : Nat → Nat} {f0 f1 f3 : Int32} {f4 : Nat} (lf9 : f < N) (lr9 : rj < N) (gf : C f = ob 7 [.int f0, .int f1, .ref (ad rj), .int f3, .ref f4]) (gr : C rj = ia G 64 (fun i => nI (rw i))) (hr9 : ∀ i, i < 64 → rw i ≤ 255) {z : Nat} (hz : z < 4) (hN9 : va_Nw (.methodLinkNest RX7 29 yX9_colour RX9) s) (kx : ∀ (H : Heap) (locs : List Loc) (ls : Array Slot), va_P G.1 vwB (wl N ad (C)) H → va_D A (wl N ad (C)) → va_S A H0 H locs → lv_has ls 4 [(2, .int (nI (zsN rw z 64)))] → W p l e rmX7_zone s m args below meth c H locs cells slots Q (F0 m 56 ls [])) : ∀ (d : Nat) (p1 : Nat) (H : Heap) (locs : List Loc) (ls : Array Slot), 64 - p1 < d → p1 ≤ 64 → va_P G.1 vwB (wl N ad C) H → va_D A (wl N ad C) → va_S A H0 H locs → lv_has ls 4 [(2, .int (nI (zsN rw z p1))), (3, .int (nI p1)), (0, .ref (ad f)), (1, .int (nI z))] → W p l e rmX7_zone s m args below meth c H locs cells slots Q (F0 m 4 ls []) := by
  intro d
  induction d with
  | zero => intro p1 H locs ls hd; exact absurd hd (Nat.not_lt_zero _)
  | succ d ih =>
    intro p1 H locs ls hd h2 hP hD hS hl
    refine lv_iload_n hx hb dX7_zone_4 rfl (lv_at hl 1 rfl) ?_
    refine lv_bipush (v := nI 64) hx hb dX7_zone_5 (by decide) ?_
    refine lv_icmp_ge (tgt := 56) hx hb dX7_zone_7 (by decide) (fun c7 => ?_) (fun c7 => ?_)
    · have h5 : p1 = 64 := by have := (nI_leI (by omega) (by omega)).mp c7; omega
      subst h5
      exact kx H locs ls hP hD hS (lv_sub hl [0] rfl)
    · have h4 : p1 < 64 := by have := mt (nI_leI (by omega) (by omega)).mpr c7; omega
      have hcl := colN_lt (p1 % 8) (p1 / 8)
      have hsl := zsN_le rw z hr9 p1 (by omega)
      have hri := hr9 p1 h4
      refine lv_iload_n hx hb dX7_zone_10 rfl (lv_at hl 0 rfl) ?_
      refine lv_iload_n hx hb dX7_zone_11 rfl (lv_at hl 1 rfl) ?_
      refine iw_pi (va_runSN (As := [.int (nI p1)]) (rest := [.int (nI (zsN rw z p1))]) ⟨hx, hb, hml, hown, hts⟩ (kX9_colour l (p1) (by omega)) ⟨va_cnB (host := RX9) 1 hts gX7_zone_X9_colour_n29 rfl rfl rfl hN9 (hts _ il_X7_zone_iniX9) (by decide +kernel) ⟨Nat.le_of_ble_eq_true rfl, Nat.le_of_ble_eq_true rfl⟩, (hts _ il_X7_zone_st_X9_colour), trivial⟩ ⟨fun a U g mk q => q, fun U hU hW => ⟨rfl, trivial⟩⟩ rfl rfl hl.1 rfl (lv_room (Nat.le_of_ble_eq_true rfl)) dX7_zone_12 ⟨hcc, hcs⟩) hP hS (fun r8 u8 H locs hw8 hP hS => ?_)
      refine lv_asI hw8 ?_
      refine lv_iconst (v := nI 1) hx hb dX7_zone_15 (by decide) ?_
      refine lv_icmp_ne (tgt := 47) hx hb dX7_zone_16 (by decide) (fun c16 => ?_) (fun c16 => ?_)
      · have e8 : ¬ (colN (p1 % 8) (p1 / 8) = 1 ∧ p1 % 8 / 4 + 2 * (p1 / 8 / 4) = z) := fun h => c16 (by rw [h.1])
        refine lv_iconst (v := nI 0) hx hb dX7_zone_47 (by decide) ?_
        refine lv_iadd hx hb dX7_zone_48 ?_
        refine lv_asI (y := nI ((zsN rw z p1) + 0)) (nI_add _ _) ?_
        refine lv_istore_n (lv' := [(2, .int (nI ((zsN rw z p1) + 0))), (3, .int (nI p1)), (0, .ref (ad f)), (1, .int (nI z))]) hx hb dX7_zone_49 rfl hl (by decide) rfl (fun ls hl => ?_)
        refine lv_iinc (v := nI (p1 + 1)) (lv' := [(3, .int (nI (p1 + 1))), (2, .int (nI ((zsN rw z p1) + 0))), (0, .ref (ad f)), (1, .int (nI z))]) hx hb dX7_zone_50 hl (k := 1) rfl (iinc_nat _ 1) (by decide) rfl (fun ls hl => ?_)
        refine lv_goto (tgt := 4) hx hb dX7_zone_53 (by decide) ?_
        have e9 : zsN rw z (p1 + 1) = (zsN rw z p1) + 0 := by simp only [zsN]; simp [e8]
        exact ih (p1 + 1) H locs ls (by omega) (by omega) hP hD hS (by rw [e9]; exact (lv_sub hl [1, 0, 2, 3] rfl))
      · have e7 : colN (p1 % 8) (p1 / 8) = 1 := (nI_eq (by omega) (by omega)).mp c16
        refine lv_iload_n hx hb dX7_zone_19 rfl (lv_at hl 1 rfl) ?_
        refine lv_bipush (v := nI 8) hx hb dX7_zone_20 (by decide) ?_
        refine lv_irem hx hb dX7_zone_22 (by decide) ?_
        refine lv_asI (y := nI (p1 % 8)) (pk_rem (by omega) (by omega) (by omega)) ?_
        refine lv_iconst (v := nI 4) hx hb dX7_zone_23 (by decide) ?_
        refine lv_idiv hx hb dX7_zone_24 (by decide) ?_
        refine lv_asI (y := nI ((p1 % 8) / 4)) (pk_div (by omega) (by omega) (by omega)) ?_
        refine lv_iconst (v := nI 2) hx hb dX7_zone_25 (by decide) ?_
        refine lv_iload_n hx hb dX7_zone_26 rfl (lv_at hl 1 rfl) ?_
        refine lv_bipush (v := nI 8) hx hb dX7_zone_27 (by decide) ?_
        refine lv_idiv hx hb dX7_zone_29 (by decide) ?_
        refine lv_asI (y := nI (p1 / 8)) (pk_div (by omega) (by omega) (by omega)) ?_
        refine lv_iconst (v := nI 4) hx hb dX7_zone_30 (by decide) ?_
        refine lv_idiv hx hb dX7_zone_31 (by decide) ?_
        refine lv_asI (y := nI ((p1 / 8) / 4)) (pk_div (by omega) (by omega) (by omega)) ?_
        refine lv_imul hx hb dX7_zone_32 ?_
        refine lv_asI (y := nI (2 * ((p1 / 8) / 4))) (pk_mul _ _) ?_
        refine lv_iadd hx hb dX7_zone_33 ?_
        refine lv_asI (y := nI (((p1 % 8) / 4) + (2 * ((p1 / 8) / 4)))) (nI_add _ _) ?_
        refine lv_iload_n hx hb dX7_zone_34 rfl (lv_at hl 3 rfl) ?_
        refine lv_icmp_ne (tgt := 47) hx hb dX7_zone_35 (by decide) (fun c35 => ?_) (fun c35 => ?_)
        · have e8 : ¬ (colN (p1 % 8) (p1 / 8) = 1 ∧ p1 % 8 / 4 + 2 * (p1 / 8 / 4) = z) := fun h => c35 (by rw [h.2])
          refine lv_iconst (v := nI 0) hx hb dX7_zone_47 (by decide) ?_
          refine lv_iadd hx hb dX7_zone_48 ?_
          refine lv_asI (y := nI ((zsN rw z p1) + 0)) (nI_add _ _) ?_
          refine lv_istore_n (lv' := [(2, .int (nI ((zsN rw z p1) + 0))), (3, .int (nI p1)), (0, .ref (ad f)), (1, .int (nI z))]) hx hb dX7_zone_49 rfl hl (by decide) rfl (fun ls hl => ?_)
          refine lv_iinc (v := nI (p1 + 1)) (lv' := [(3, .int (nI (p1 + 1))), (2, .int (nI ((zsN rw z p1) + 0))), (0, .ref (ad f)), (1, .int (nI z))]) hx hb dX7_zone_50 hl (k := 1) rfl (iinc_nat _ 1) (by decide) rfl (fun ls hl => ?_)
          refine lv_goto (tgt := 4) hx hb dX7_zone_53 (by decide) ?_
          have e9 : zsN rw z (p1 + 1) = (zsN rw z p1) + 0 := by simp only [zsN]; simp [e8]
          exact ih (p1 + 1) H locs ls (by omega) (by omega) hP hD hS (by rw [e9]; exact (lv_sub hl [1, 0, 2, 3] rfl))
        · have e8 : colN (p1 % 8) (p1 / 8) = 1 ∧ p1 % 8 / 4 + 2 * (p1 / 8 / 4) = z := ⟨e7, (nI_eq (by omega) (by omega)).mp c35⟩
          refine lv_aload_n hx hb dX7_zone_38 rfl (lv_at hl 2 rfl) ?_
          refine iw_get hx hb hts iu_X7_zone_7 hown hK hP lf9 (gf) rfl 2 (by decide) (hts _ il_X7_zone_25) (fun _ h9 => h9) rfl dX7_zone_39 ?_
          refine lv_iload_n hx hb dX7_zone_42 rfl (lv_at hl 1 rfl) ?_
          refine iw_iald (v := nI (rw p1)) hx hb hK hP lr9 (gr) (vp_in_nI (show p1 < 64 by omega) (by omega)) (congrArg (fun i => nI (rw i)) (nI_clamp (by omega))) dX7_zone_43 ?_
          refine lv_goto (tgt := 48) hx hb dX7_zone_44 (by decide) ?_
          refine lv_iadd hx hb dX7_zone_48 ?_
          refine lv_asI (y := nI ((zsN rw z p1) + (rw p1))) (nI_add _ _) ?_
          refine lv_istore_n (lv' := [(2, .int (nI ((zsN rw z p1) + (rw p1)))), (3, .int (nI p1)), (0, .ref (ad f)), (1, .int (nI z))]) hx hb dX7_zone_49 rfl hl (by decide) rfl (fun ls hl => ?_)
          refine lv_iinc (v := nI (p1 + 1)) (lv' := [(3, .int (nI (p1 + 1))), (2, .int (nI ((zsN rw z p1) + (rw p1)))), (0, .ref (ad f)), (1, .int (nI z))]) hx hb dX7_zone_50 hl (k := 1) rfl (iinc_nat _ 1) (by decide) rfl (fun ls hl => ?_)
          refine lv_goto (tgt := 4) hx hb dX7_zone_53 (by decide) ?_
          have e9 : zsN rw z (p1 + 1) = (zsN rw z p1) + (rw p1) := by simp only [zsN]; simp [e8]
          exact ih (p1 + 1) H locs ls (by omega) (by omega) hP hD hS (by rw [e9]; exact (lv_sub hl [1, 0, 2, 3] rfl))
set_option maxRecDepth 20000 in
theorem il_X7_zone_48 : (Cond.constantDouble RX7 48 (4620693217682128896)) ∈ wsX7_zone := by decide +kernel
set_option maxHeartbeats 4000000 in
set_option maxRecDepth 100000 in
theorem kX7_zone (l : Launch) (G : iG) (N : Nat) (ad : Nat → Nat) (C : Nat → va_E) (dz : Nat) (f rj : Nat) (rw : Nat → Nat) (f0 f1 f3 : Int32) (f4 : Nat) (lf9 : f < N) (lr9 : rj < N) (gf : C f = ob 7 [.int f0, .int f1, .ref (ad rj), .int f3, .ref f4]) (gr : C rj = ia G 64 (fun i => nI (rw i))) (hr9 : ∀ i, i < 64 → rw i ≤ 255) (z : Nat) (hz : z < 4) (sz : Nat) : Met l yX7_zone wsX7_zone rmX7_zone (iPreZ G N ad C dz sz [.ref (ad f), .int (nI z)]) (va_Qd (fun (r : UInt64) (u : Nat → va_E) => r = zF rw z ∧ u = C) (iB G N ad) (iA N ad sz)) 0 0 (iA N ad sz) := by
  refine Met.ofW (cc := cX7_zone) (maxL := 4) (ret := (some .double)) (by decide) rfl ?_
  intro p e s m args below meth c s₁ B hml hv
  obtain ⟨rfl, ⟨⟨hsz, hP, hK, hD0⟩, hV⟩, hZ⟩ := hv
  have hx := B.exec
  have hb := B.bytes
  have hr := B.returns
  have hts := atoms_spec (ws := wsX7_zone) B.pre
  have hown : s.vm.findClass RX7 = some m.cls := findClass_of_methodNamed B.named
  have hlocks := B.notSynchronized
  subst hsz
  have hD := wl_self hD0 s.heap.size
  have hA : ∀ q : Nat, s.heap.size ≤ q → iA N ad s.heap.size q := fun q h => Or.inr h
  have hS : va_S (iA N ad s.heap.size) s.heap s.heap [] := va_S.rf
  have hP : va_P G.1 vwB (wl N ad C) s.heap := hP
  have hl := lv_entry ([.ref (ad f), .int (nI z)]) (n := 4) (Nat.le_of_ble_eq_true rfl)
  rw [lg_entry_eq]
  generalize (lg_sl ([.ref (ad f), .int (nI z)]) ++ List.replicate (4 - (lg_sl ([.ref (ad f), .int (nI z)])).length) Slot.unset).toArray = ls at hl ⊢
  have hl : lv_has ls 4 [(0, .ref (ad f)), (1, .int (nI z))] := hl
  refine lv_iconst (v := nI 0) hx hb dX7_zone_0 (by decide) ?_
  refine lv_istore_n (lv' := [(2, .int (nI 0)), (0, .ref (ad f)), (1, .int (nI z))]) hx hb dX7_zone_1 rfl hl (by decide) rfl (fun ls hl => ?_)
  refine lv_iconst (v := nI 0) hx hb dX7_zone_2 (by decide) ?_
  refine lv_istore_n (lv' := [(3, .int (nI 0)), (2, .int (nI 0)), (0, .ref (ad f)), (1, .int (nI z))]) hx hb dX7_zone_3 rfl hl (by decide) rfl (fun ls hl => ?_)
  refine lX7_zone hx hb hml hr hts hown hK hA (Nat.le_refl _) (Nat.le_refl _) lf9 lr9 gf gr hr9 hz hZ.2.2 (fun H locs ls hP hD hS hl => ?_) 65 0 _ _ ls (by omega) (by omega) hP hD hS (lv_sub hl [1, 0, 2, 3] rfl)
  refine lv_iload_n hx hb dX7_zone_56 rfl (lv_at hl 0 rfl) ?_
  refine lv_i2d hx hb dX7_zone_57 ?_
  refine lv_ldc2d hx hb hown (hts _ il_X7_zone_48) dX7_zone_58 ?_
  refine lv_ddiv hx hb dX7_zone_61 (fin64_n (zF_fin rw z)) ?_
  exact W.dret (v := (FP.ddiv (FP.i2d (nI (zsN rw z 64))) (4620693217682128896))) hx hb hr (fun t ht hW => ⟨⟨_, _, rfl, ⟨rfl, rfl⟩, iB_of ht hP⟩, hS.F ht⟩) hS.2.2 dX7_zone_62
abbrev rmX7_meter : Room := { frames := 2, cells := 0, slots := 0, locals := 45 }
set_option maxRecDepth 20000 in
theorem il_X7_meter_54 : (Cond.constantDouble RX7 54 (4616189618054758400)) ∈ wsX7_meter := by decide +kernel
set_option maxHeartbeats 4000000 in
set_option maxRecDepth 100000 in
theorem kX7_meter (l : Launch) (G : iG) (N : Nat) (ad : Nat → Nat) (C : Nat → va_E) (dz : Nat) (f rj : Nat) (rw : Nat → Nat) (f0 f1 f3 : Int32) (f4 : Nat) (lf9 : f < N) (lr9 : rj < N) (gf : C f = ob 7 [.int f0, .int f1, .ref (ad rj), .int f3, .ref f4]) (gr : C rj = ia G 64 (fun i => nI (rw i))) (hr9 : ∀ i, i < 64 → rw i ≤ 255) (sz : Nat) : Met l yX7_meter wsX7_meter rmX7_meter (iPreZ G N ad C dz sz [.ref (ad f)]) (va_Qd (fun (r : UInt64) (u : Nat → va_E) => r = mtF rw ∧ u = C) (iB G N ad) (iA N ad sz)) 0 0 (iA N ad sz) := by
  refine Met.ofW (cc := cX7_meter) (maxL := 4) (ret := (some .double)) (by decide) rfl ?_
  intro p e s m args below meth c s₁ B hml hv
  obtain ⟨rfl, ⟨⟨hsz, hP, hK, hD0⟩, hV⟩, hZ⟩ := hv
  have hx := B.exec
  have hb := B.bytes
  have hr := B.returns
  have hts := atoms_spec (ws := wsX7_meter) B.pre
  have hown : s.vm.findClass RX7 = some m.cls := findClass_of_methodNamed B.named
  have hlocks := B.notSynchronized
  subst hsz
  have hD := wl_self hD0 s.heap.size
  have hA : ∀ q : Nat, s.heap.size ≤ q → iA N ad s.heap.size q := fun q h => Or.inr h
  have hS : va_S (iA N ad s.heap.size) s.heap s.heap [] := va_S.rf
  have hP : va_P G.1 vwB (wl N ad C) s.heap := hP
  have hl := lv_entry ([.ref (ad f)]) (n := 4) (Nat.le_of_ble_eq_true rfl)
  rw [lg_entry_eq]
  generalize (lg_sl ([.ref (ad f)]) ++ List.replicate (4 - (lg_sl ([.ref (ad f)])).length) Slot.unset).toArray = ls at hl ⊢
  have hl : lv_has ls 4 [(0, .ref (ad f))] := hl
  refine lv_aload_n hx hb dX7_meter_0 rfl (lv_at hl 0 rfl) ?_
  refine lv_iconst (v := nI 0) hx hb dX7_meter_1 (by decide) ?_
  refine iw_d (va_runV (As := [.int (nI 0)]) (rest := []) ⟨hx, hb, hml, hown, hts⟩ (kX7_zone l G N ad _ dz f rj rw _ _ _ _ lf9 lr9 gf gr hr9 0 (by omega) _) (cwV 1 hts gX7_meter_X7_zone rfl rfl rfl (by decide +kernel) ⟨Nat.le_of_ble_eq_true rfl, Nat.le_of_ble_eq_true rfl⟩) (iPVZ hK hV hZ hS hA hP hD lf9 (gf) rfl [.int (nI 0)]) rfl rfl hl.1 rfl (lv_room (Nat.le_of_ble_eq_true rfl)) dX7_meter_2 ⟨Nat.le_of_ble_eq_true rfl, Nat.le_of_ble_eq_true rfl⟩) hD hS hA (fun r8 u8 H locs hw8 hP hD hS => ?_)
  obtain ⟨hr8, hu8⟩ := hw8
  refine lv_asD hr8 ?_
  rw [hu8] at hP hD
  refine lv_dstore_n (lv' := [(1, .double (zF rw 0)), (0, .ref (ad f))]) hx hb dX7_meter_5 rfl hl (by decide) rfl (fun ls hl => ?_)
  refine lv_iconst (v := nI 1) hx hb dX7_meter_6 (by decide) ?_
  refine lv_istore_n (lv' := [(3, .int (nI 1)), (1, .double (zF rw 0)), (0, .ref (ad f))]) hx hb dX7_meter_7 rfl hl (by decide) rfl (fun ls hl => ?_)
  refine lv_iload_n hx hb dX7_meter_8 rfl (lv_at hl 0 rfl) ?_
  refine lv_iconst (v := nI 4) hx hb dX7_meter_9 (by decide) ?_
  refine lv_icmp_ge (tgt := 27) hx hb dX7_meter_10 (by decide) (fun c9 => absurd c9 (by decide)) (fun _ => ?_)
  refine lv_dload_n hx hb dX7_meter_13 rfl (lv_at hl 1 rfl) ?_
  refine lv_aload_n hx hb dX7_meter_14 rfl (lv_at hl 2 rfl) ?_
  refine lv_iload_n hx hb dX7_meter_15 rfl (lv_at hl 0 rfl) ?_
  refine iw_d (va_runV (As := [.int (nI 1)]) (rest := [.double (zF rw 0)]) ⟨hx, hb, hml, hown, hts⟩ (kX7_zone l G N ad _ dz f rj rw _ _ _ _ lf9 lr9 gf gr hr9 1 (by omega) _) (cwV 1 hts gX7_meter_X7_zone rfl rfl rfl (by decide +kernel) ⟨Nat.le_of_ble_eq_true rfl, Nat.le_of_ble_eq_true rfl⟩) (iPVZ hK hV hZ hS hA hP hD lf9 (gf) rfl [.int (nI 1)]) rfl rfl hl.1 rfl (lv_room (Nat.le_of_ble_eq_true rfl)) dX7_meter_16 ⟨Nat.le_of_ble_eq_true rfl, Nat.le_of_ble_eq_true rfl⟩) hD hS hA (fun r8 u8 H locs hw8 hP hD hS => ?_)
  obtain ⟨hr8, hu8⟩ := hw8
  refine lv_asD hr8 ?_
  rw [hu8] at hP hD
  refine lv_dadd hx hb dX7_meter_19 (dadd_nf (fin64_n (zF_fin rw 0)) (zF_fin rw 1)) ?_
  refine lv_dstore_n (lv' := [(1, .double (FP.dadd (zF rw 0) (zF rw 1))), (3, .int (nI 1)), (0, .ref (ad f))]) hx hb dX7_meter_20 rfl hl (by decide) rfl (fun ls hl => ?_)
  refine lv_iinc (v := nI 2) (lv' := [(3, .int (nI 2)), (1, .double (FP.dadd (zF rw 0) (zF rw 1))), (0, .ref (ad f))]) hx hb dX7_meter_21 hl (k := 1) rfl (iinc_nat _ 1) (by decide) rfl (fun ls hl => ?_)
  refine lv_goto (tgt := 8) hx hb dX7_meter_24 (by decide) ?_
  refine lv_iload_n hx hb dX7_meter_8 rfl (lv_at hl 0 rfl) ?_
  refine lv_iconst (v := nI 4) hx hb dX7_meter_9 (by decide) ?_
  refine lv_icmp_ge (tgt := 27) hx hb dX7_meter_10 (by decide) (fun c9 => absurd c9 (by decide)) (fun _ => ?_)
  refine lv_dload_n hx hb dX7_meter_13 rfl (lv_at hl 1 rfl) ?_
  refine lv_aload_n hx hb dX7_meter_14 rfl (lv_at hl 2 rfl) ?_
  refine lv_iload_n hx hb dX7_meter_15 rfl (lv_at hl 0 rfl) ?_
  refine iw_d (va_runV (As := [.int (nI 2)]) (rest := [.double (FP.dadd (zF rw 0) (zF rw 1))]) ⟨hx, hb, hml, hown, hts⟩ (kX7_zone l G N ad _ dz f rj rw _ _ _ _ lf9 lr9 gf gr hr9 2 (by omega) _) (cwV 1 hts gX7_meter_X7_zone rfl rfl rfl (by decide +kernel) ⟨Nat.le_of_ble_eq_true rfl, Nat.le_of_ble_eq_true rfl⟩) (iPVZ hK hV hZ hS hA hP hD lf9 (gf) rfl [.int (nI 2)]) rfl rfl hl.1 rfl (lv_room (Nat.le_of_ble_eq_true rfl)) dX7_meter_16 ⟨Nat.le_of_ble_eq_true rfl, Nat.le_of_ble_eq_true rfl⟩) hD hS hA (fun r8 u8 H locs hw8 hP hD hS => ?_)
  obtain ⟨hr8, hu8⟩ := hw8
  refine lv_asD hr8 ?_
  rw [hu8] at hP hD
  refine lv_dadd hx hb dX7_meter_19 (dadd_nf (dadd_nf (fin64_n (zF_fin rw 0)) (zF_fin rw 1)) (zF_fin rw 2)) ?_
  refine lv_dstore_n (lv' := [(1, .double (FP.dadd (FP.dadd (zF rw 0) (zF rw 1)) (zF rw 2))), (3, .int (nI 2)), (0, .ref (ad f))]) hx hb dX7_meter_20 rfl hl (by decide) rfl (fun ls hl => ?_)
  refine lv_iinc (v := nI 3) (lv' := [(3, .int (nI 3)), (1, .double (FP.dadd (FP.dadd (zF rw 0) (zF rw 1)) (zF rw 2))), (0, .ref (ad f))]) hx hb dX7_meter_21 hl (k := 1) rfl (iinc_nat _ 1) (by decide) rfl (fun ls hl => ?_)
  refine lv_goto (tgt := 8) hx hb dX7_meter_24 (by decide) ?_
  refine lv_iload_n hx hb dX7_meter_8 rfl (lv_at hl 0 rfl) ?_
  refine lv_iconst (v := nI 4) hx hb dX7_meter_9 (by decide) ?_
  refine lv_icmp_ge (tgt := 27) hx hb dX7_meter_10 (by decide) (fun c9 => absurd c9 (by decide)) (fun _ => ?_)
  refine lv_dload_n hx hb dX7_meter_13 rfl (lv_at hl 1 rfl) ?_
  refine lv_aload_n hx hb dX7_meter_14 rfl (lv_at hl 2 rfl) ?_
  refine lv_iload_n hx hb dX7_meter_15 rfl (lv_at hl 0 rfl) ?_
  refine iw_d (va_runV (As := [.int (nI 3)]) (rest := [.double (FP.dadd (FP.dadd (zF rw 0) (zF rw 1)) (zF rw 2))]) ⟨hx, hb, hml, hown, hts⟩ (kX7_zone l G N ad _ dz f rj rw _ _ _ _ lf9 lr9 gf gr hr9 3 (by omega) _) (cwV 1 hts gX7_meter_X7_zone rfl rfl rfl (by decide +kernel) ⟨Nat.le_of_ble_eq_true rfl, Nat.le_of_ble_eq_true rfl⟩) (iPVZ hK hV hZ hS hA hP hD lf9 (gf) rfl [.int (nI 3)]) rfl rfl hl.1 rfl (lv_room (Nat.le_of_ble_eq_true rfl)) dX7_meter_16 ⟨Nat.le_of_ble_eq_true rfl, Nat.le_of_ble_eq_true rfl⟩) hD hS hA (fun r8 u8 H locs hw8 hP hD hS => ?_)
  obtain ⟨hr8, hu8⟩ := hw8
  refine lv_asD hr8 ?_
  rw [hu8] at hP hD
  refine lv_dadd hx hb dX7_meter_19 (dadd_nf (dadd_nf (dadd_nf (fin64_n (zF_fin rw 0)) (zF_fin rw 1)) (zF_fin rw 2)) (zF_fin rw 3)) ?_
  refine lv_dstore_n (lv' := [(1, .double (FP.dadd (FP.dadd (FP.dadd (zF rw 0) (zF rw 1)) (zF rw 2)) (zF rw 3))), (3, .int (nI 3)), (0, .ref (ad f))]) hx hb dX7_meter_20 rfl hl (by decide) rfl (fun ls hl => ?_)
  refine lv_iinc (v := nI 4) (lv' := [(3, .int (nI 4)), (1, .double (FP.dadd (FP.dadd (FP.dadd (zF rw 0) (zF rw 1)) (zF rw 2)) (zF rw 3))), (0, .ref (ad f))]) hx hb dX7_meter_21 hl (k := 1) rfl (iinc_nat _ 1) (by decide) rfl (fun ls hl => ?_)
  refine lv_goto (tgt := 8) hx hb dX7_meter_24 (by decide) ?_
  refine lv_iload_n hx hb dX7_meter_8 rfl (lv_at hl 0 rfl) ?_
  refine lv_iconst (v := nI 4) hx hb dX7_meter_9 (by decide) ?_
  refine lv_icmp_ge (tgt := 27) hx hb dX7_meter_10 (by decide) (fun _ => ?_) (fun c9 => absurd (by decide) c9)
  refine lv_dload_n hx hb dX7_meter_27 rfl (lv_at hl 1 rfl) ?_
  refine lv_ldc2d hx hb hown (hts _ il_X7_meter_54) dX7_meter_28 ?_
  refine lv_ddiv hx hb dX7_meter_31 (ddiv_nz (dadd_nf (dadd_nf (dadd_nf (fin64_n (zF_fin rw 0)) (zF_fin rw 1)) (zF_fin rw 2)) (zF_fin rw 3)) d4_ok) ?_
  exact W.dret (v := (FP.ddiv (FP.dadd (FP.dadd (FP.dadd (zF rw 0) (zF rw 1)) (zF rw 2)) (zF rw 3)) (4616189618054758400))) hx hb hr (fun t ht hW => ⟨⟨_, _, rfl, ⟨rfl, rfl⟩, iB_of ht hP⟩, hS.F ht⟩) hS.2.2 dX7_meter_32
theorem q4_1 : FP.fdiv (FP.i2f (nI 4)) 1082130432 = FP.fconst1 := by decide +kernel
abbrev rmX9_taken : Room := { frames := 5, cells := 3, slots := 72, locals := 101 }
set_option maxRecDepth 20000 in
theorem iu_X9_taken_9 : ∀ w ∈ u_ws RX9 TX9 8, w ∈ wsX9_taken := by decide +kernel
set_option maxRecDepth 20000 in
theorem il_X9_taken_9 : (Cond.fieldLink RX9 9 "BayerGateModel" "scene" "[I") ∈ wsX9_taken := by decide +kernel
set_option maxRecDepth 20000 in
theorem il_X9_taken_13 : (Cond.fieldLink RX9 13 "BayerGateModel" "quarters" "[I") ∈ wsX9_taken := by decide +kernel
set_option maxRecDepth 20000 in
theorem il_X9_taken_70 : (Cond.constantFloat RX9 70 (1082130432)) ∈ wsX9_taken := by decide +kernel
set_option maxRecDepth 20000 in
theorem il_X9_taken_71 : (Cond.constantFloat RX9 71 (1098907648)) ∈ wsX9_taken := by decide +kernel
set_option maxRecDepth 20000 in
theorem il_X9_taken_72 : (Cond.methodLink RX9 72 Lib.Math.min.name) ∈ wsX9_taken := by decide +kernel
set_option maxRecDepth 20000 in
theorem il_X9_taken_st_min : (Cond.static Lib.Math.min.name) ∈ wsX9_taken := by decide +kernel
set_option maxRecDepth 20000 in
theorem il_X9_taken_ini_Math : (Cond.initialized "java/lang/Math") ∈ wsX9_taken := by decide +kernel
set_option maxRecDepth 20000 in
theorem il_X9_taken_code_min : (Cond.code Lib.Math.min.name Lib.Math.min.code 2 (some .int)) ∈ wsX9_taken := by decide +kernel
set_option maxRecDepth 20000 in
theorem il_X9_taken_16 : (Cond.fieldLink RX9 16 "BayerGateModel" "how" "[I") ∈ wsX9_taken := by decide +kernel
set_option maxRecDepth 20000 in
theorem il_X9_taken_77 : (Cond.methodLink RX9 77 Lib.Math.max.name) ∈ wsX9_taken := by decide +kernel
set_option maxRecDepth 20000 in
theorem il_X9_taken_st_max : (Cond.static Lib.Math.max.name) ∈ wsX9_taken := by decide +kernel
set_option maxRecDepth 20000 in
theorem il_X9_taken_code_max : (Cond.code Lib.Math.max.name Lib.Math.max.code 2 (some .int)) ∈ wsX9_taken := by decide +kernel
set_option maxHeartbeats 4000000 in
set_option maxRecDepth 100000 in
theorem lX9_taken {p : Program} {l : Launch} {e : Env} {s : State} {m : MethodId} {args : Array Value} {below : List Frame} {meth : Method} {c : Code} {Q : State → Prop} {A : Nat → Prop} {H0 : Heap} {cells slots : Nat} (hx : p.tables.exec = Jvm.exec) (hb : c.code = cX9_taken) (hml : c.maxLocals = 9) (hr : meth.sig.returnType = (some (.object "BayerGateModel$Frame"))) (hts : ∀ w ∈ wsX9_taken, w.before args s = true) (hown : s.vm.findClass RX9 = some m.cls) {G : iG} (hK : KB G s) (hA : ∀ q, H0.size ≤ q → A q) {N : Nat} {ad : Nat → Nat} {C : Nat → va_E}  (hcc : cells ≤ rmX9_taken.cells) (hcs : slots ≤ rmX9_taken.slots) {mo dz : Nat} {th : Int32} (hmod : Mod G N ad C mo dz th) {t1 g1 rj : Nat} {bv : Int32} (ht : 0 < t1 ∧ t1 < 65) (hg : g1 < 9) (hrj : rj < N) (hrm : mo + 7 ≤ rj) (kx : ∀ (H : Heap) (locs : List Loc) (ls : Array Slot), va_P G.1 vwB (wl N ad (va_up C rj (ia G 64 (fun i => nI (flI R0 (fun _ => 0) (64) i))))) H → va_D A (wl N ad (va_up C rj (ia G 64 (fun i => nI (flI R0 (fun _ => 0) (64) i))))) → va_S A H0 H locs → lv_has ls 9 [(5, .int (nI (drN 0 64))), (0, .ref (ad mo)), (1, .int (nI t1)), (2, .int (nI g1)), (3, .int bv), (4, .ref (ad rj))] → W p l e rmX9_taken s m args below meth c H locs cells slots Q (F0 m 151 ls [])) : ∀ (d : Nat) (p1 : Nat) (H : Heap) (locs : List Loc) (ls : Array Slot), 64 - p1 < d → p1 ≤ 64 → va_P G.1 vwB (wl N ad (va_up C rj (ia G 64 (fun i => nI (flI R0 (fun _ => 0) (p1) i))))) H → va_D A (wl N ad (va_up C rj (ia G 64 (fun i => nI (flI R0 (fun _ => 0) (p1) i))))) → va_S A H0 H locs → lv_has ls 9 [(5, .int (nI (drN 0 p1))), (6, .int (nI p1)), (0, .ref (ad mo)), (1, .int (nI t1)), (2, .int (nI g1)), (3, .int bv), (4, .ref (ad rj))] → W p l e rmX9_taken s m args below meth c H locs cells slots Q (F0 m 15 ls []) := by
  intro d
  induction d with
  | zero => intro p1 H locs ls hd; exact absurd hd (Nat.not_lt_zero _)
  | succ d ih =>
    intro p1 H locs ls hd h2 hP hD hS hl
    obtain ⟨hN, gm0, gm1, gm2, gm3, gm4, gm5, gm6⟩ := id hmod
    refine lv_iload hx hb dX9_taken_15 (lv_at hl 1 rfl) ?_
    refine lv_bipush (v := nI 64) hx hb dX9_taken_17 (by decide) ?_
    refine lv_icmp_ge (tgt := 151) hx hb dX9_taken_19 (by decide) (fun c19 => ?_) (fun c19 => ?_)
    · have h5 : p1 = 64 := by have := (nI_leI (by omega) (by omega)).mp c19; omega
      subst h5
      exact kx H locs ls hP hD hS (lv_sub hl [0, 2, 3, 4, 5, 6] rfl)
    · have h4 : p1 < 64 := by have := mt (nI_leI (by omega) (by omega)).mpr c19; omega
      have hcl := colN_lt (p1 % 8) (p1 / 8)
      have hd8 := drN_lt (d := 0) (by omega) p1
      have hd9 := drN_lt (d := 0) (by omega) (p1 + 1)
      refine lv_iconst (v := nI 2) hx hb dX9_taken_22 (by decide) ?_
      refine lv_iload hx hb dX9_taken_23 (lv_at hl 0 rfl) ?_
      refine lv_imul hx hb dX9_taken_25 ?_
      refine lv_asI (y := nI (2 * (drN 0 p1))) (pk_mul _ _) ?_
      refine lv_iconst (v := nI 5) hx hb dX9_taken_26 (by decide) ?_
      refine lv_iadd hx hb dX9_taken_27 ?_
      refine lv_asI (y := nI ((2 * (drN 0 p1)) + 5)) (nI_add _ _) ?_
      refine lv_bipush (v := nI 61) hx hb dX9_taken_28 (by decide) ?_
      refine lv_irem hx hb dX9_taken_30 (by decide) ?_
      refine lv_asI (y := nI (((2 * (drN 0 p1)) + 5) % 61)) (pk_rem (by omega) (by omega) (by omega)) ?_
      refine lv_asI (y := nI (drN 0 (p1 + 1))) rfl ?_
      refine lv_istore (lv' := [(5, .int (nI (drN 0 (p1 + 1)))), (6, .int (nI p1)), (0, .ref (ad mo)), (1, .int (nI t1)), (2, .int (nI g1)), (3, .int bv), (4, .ref (ad rj))]) hx hb dX9_taken_31 hl (by decide) rfl (fun ls hl => ?_)
      refine lv_aload_n hx hb dX9_taken_33 rfl (lv_at hl 2 rfl) ?_
      refine iw_get hx hb hts iu_X9_taken_9 hown hK hP (by omega) ((va_un _ _ (by omega)).trans (gm0)) rfl 1 (by decide) (hts _ il_X9_taken_9) (fun _ h9 => h9) rfl dX9_taken_34 ?_
      refine lv_iconst (v := nI 3) hx hb dX9_taken_37 (by decide) ?_
      refine lv_iload hx hb dX9_taken_38 (lv_at hl 1 rfl) ?_
      refine lv_imul hx hb dX9_taken_40 ?_
      refine lv_asI (y := nI (3 * p1)) (pk_mul _ _) ?_
      refine lv_iload hx hb dX9_taken_41 (lv_at hl 1 rfl) ?_
      refine iw_pi (va_runS (As := [.int (nI p1)]) (rest := [.int (nI (3 * p1)), .ref (ad (mo + 1))]) ⟨hx, hb, hml, hown, hts⟩ (kX9_colour l (p1) (by omega)) (va_cwS 1 hts gX9_taken_X9_colour rfl rfl rfl (by decide +kernel) ⟨Nat.le_of_ble_eq_true rfl, Nat.le_of_ble_eq_true rfl⟩) ⟨fun a U g mk q => q, fun U hU hW => ⟨rfl, trivial⟩⟩ rfl rfl hl.1 rfl (lv_room (Nat.le_of_ble_eq_true rfl)) dX9_taken_43 ⟨hcc, hcs⟩) hP hS (fun r8 u8 H locs hw8 hP hS => ?_)
      refine lv_asI hw8 ?_
      refine lv_iadd hx hb dX9_taken_46 ?_
      refine lv_asI (y := nI ((3 * p1) + (colN (p1 % 8) (p1 / 8)))) (nI_add _ _) ?_
      refine iw_iald (v := nI 0) hx hb hK hP (by omega) ((va_un _ _ (by omega)).trans (gm1)) (vp_in_nI (show (3 * p1) + (colN (p1 % 8) (p1 / 8)) < 192 by omega) (by omega)) (rfl) dX9_taken_47 ?_
      refine lv_i2f hx hb dX9_taken_48 ?_
      refine lv_aload_n hx hb dX9_taken_49 rfl (lv_at hl 2 rfl) ?_
      refine iw_get hx hb hts iu_X9_taken_9 hown hK hP (by omega) ((va_un _ _ (by omega)).trans (gm0)) rfl 2 (by decide) (hts _ il_X9_taken_13) (fun _ h9 => h9) rfl dX9_taken_50 ?_
      refine lv_iload hx hb dX9_taken_53 (lv_at hl 1 rfl) ?_
      refine iw_pi (va_runS (As := [.int (nI p1)]) (rest := [.ref (ad (mo + 2)), .float (FP.i2f (nI 0))]) ⟨hx, hb, hml, hown, hts⟩ (kX9_colour l (p1) (by omega)) (va_cwS 1 hts gX9_taken_X9_colour rfl rfl rfl (by decide +kernel) ⟨Nat.le_of_ble_eq_true rfl, Nat.le_of_ble_eq_true rfl⟩) ⟨fun a U g mk q => q, fun U hU hW => ⟨rfl, trivial⟩⟩ rfl rfl hl.1 rfl (lv_room (Nat.le_of_ble_eq_true rfl)) dX9_taken_55 ⟨hcc, hcs⟩) hP hS (fun r8 u8 H locs hw8 hP hS => ?_)
      refine lv_asI hw8 ?_
      refine iw_iald (v := nI 4) hx hb hK hP (by omega) ((va_un _ _ (by omega)).trans (gm2)) (vp_in_nI (show colN (p1 % 8) (p1 / 8) < 3 by omega) (by omega)) (rfl) dX9_taken_58 ?_
      refine lv_i2f hx hb dX9_taken_59 ?_
      refine lv_ldcf hx hb hown (hts _ il_X9_taken_70) dX9_taken_60 ?_
      refine lv_fdiv hx hb dX9_taken_62 (fdiv_nz (fin32_n (i2f_fin32 _)) f4_ok) ?_
      refine lv_asF (y := FP.fconst1) q4_1 ?_
      refine lv_fmul hx hb dX9_taken_63 (fmul_ff (i2f_fin32 _) (finz32_fin f1_ok)) ?_
      refine lv_iload_n hx hb dX9_taken_64 rfl (lv_at hl 3 rfl) ?_
      refine lv_i2f hx hb dX9_taken_65 ?_
      refine lv_fmul hx hb dX9_taken_66 (fmul_nz (fmul_ff (i2f_fin32 _) (finz32_fin f1_ok)) (i2f_nz ht.1 (by omega))) ?_
      refine lv_ldcf hx hb hown (hts _ il_X9_taken_71) dX9_taken_67 ?_
      refine lv_fdiv hx hb dX9_taken_69 (fdiv_nz (fmul_nz (fmul_ff (i2f_fin32 _) (finz32_fin f1_ok)) (i2f_nz ht.1 (by omega))) f16_ok) ?_
      refine lv_fstore (lv' := [(7, .float (FP.fdiv (FP.fmul (FP.fmul (FP.i2f (nI 0)) FP.fconst1) (FP.i2f (nI t1))) (1098907648))), (5, .int (nI (drN 0 (p1 + 1)))), (6, .int (nI p1)), (0, .ref (ad mo)), (1, .int (nI t1)), (2, .int (nI g1)), (3, .int bv), (4, .ref (ad rj))]) hx hb dX9_taken_70 hl (by decide) rfl (fun ls hl => ?_)
      refine lv_sipush (v := nI 255) hx hb dX9_taken_72 (by decide) ?_
      refine lv_fload hx hb dX9_taken_75 (lv_at hl 0 rfl) ?_
      refine lv_f2i hx hb dX9_taken_77 ?_
      refine lv_asI (y := nI 0) (dk_f2i t1 (by omega)) ?_
      refine va_mmin hx hb (hml.trans hl.1.symm) hown (hts _ il_X9_taken_72) (hts _ il_X9_taken_st_min) (hts _ il_X9_taken_ini_Math) (hts _ il_X9_taken_code_min) (Nat.le_of_ble_eq_true rfl) (Nat.le_of_ble_eq_true rfl) hcc hcs dX9_taken_78 ?_
      refine lv_asI (y := nI 0) (by decide) ?_
      refine lv_istore (lv' := [(8, .int (nI 0)), (7, .float (FP.fdiv (FP.fmul (FP.fmul (FP.i2f (nI 0)) FP.fconst1) (FP.i2f (nI t1))) (1098907648))), (5, .int (nI (drN 0 (p1 + 1)))), (6, .int (nI p1)), (0, .ref (ad mo)), (1, .int (nI t1)), (2, .int (nI g1)), (3, .int bv), (4, .ref (ad rj))]) hx hb dX9_taken_81 hl (by decide) rfl (fun ls hl => ?_)
      refine lv_aload hx hb dX9_taken_83 (lv_at hl 8 rfl) ?_
      refine lv_iload hx hb dX9_taken_85 (lv_at hl 3 rfl) ?_
      refine lv_aload_n hx hb dX9_taken_87 rfl (lv_at hl 4 rfl) ?_
      refine iw_get hx hb hts iu_X9_taken_9 hown hK hP (by omega) ((va_un _ _ (by omega)).trans (gm0)) rfl 3 (by decide) (hts _ il_X9_taken_16) (fun _ h9 => h9) rfl dX9_taken_88 ?_
      refine lv_iload hx hb dX9_taken_91 (lv_at hl 3 rfl) ?_
      refine iw_iald (v := nI 0) hx hb hK hP (by omega) ((va_un _ _ (by omega)).trans (gm3)) (vp_in_nI (show p1 < 64 by omega) (by omega)) (rfl) dX9_taken_93 ?_
      refine lv_iconst (v := nI 1) hx hb dX9_taken_94 (by decide) ?_
      refine lv_icmp_ne (tgt := 102) hx hb dX9_taken_95 (by decide) (fun _ => ?_) (fun c9 => absurd c9 (by decide))
      refine lv_aload_n hx hb dX9_taken_102 rfl (lv_at hl 4 rfl) ?_
      refine iw_get hx hb hts iu_X9_taken_9 hown hK hP (by omega) ((va_un _ _ (by omega)).trans (gm0)) rfl 3 (by decide) (hts _ il_X9_taken_16) (fun _ h9 => h9) rfl dX9_taken_103 ?_
      refine lv_iload hx hb dX9_taken_106 (lv_at hl 3 rfl) ?_
      refine iw_iald (v := nI 0) hx hb hK hP (by omega) ((va_un _ _ (by omega)).trans (gm3)) (vp_in_nI (show p1 < 64 by omega) (by omega)) (rfl) dX9_taken_108 ?_
      refine lv_iconst (v := nI 2) hx hb dX9_taken_109 (by decide) ?_
      refine lv_icmp_ne (tgt := 119) hx hb dX9_taken_110 (by decide) (fun _ => ?_) (fun c9 => absurd c9 (by decide))
      refine lv_iconst (v := nI 0) hx hb dX9_taken_119 (by decide) ?_
      refine lv_sipush (v := nI 255) hx hb dX9_taken_120 (by decide) ?_
      refine lv_bipush (v := nI 16) hx hb dX9_taken_123 (by decide) ?_
      refine lv_iload hx hb dX9_taken_125 (lv_at hl 0 rfl) ?_
      refine lv_iload_n hx hb dX9_taken_127 rfl (lv_at hl 6 rfl) ?_
      refine lv_imul hx hb dX9_taken_128 ?_
      refine lv_asI (y := nI (0 * g1)) (pk_mul _ _) ?_
      refine lv_iadd hx hb dX9_taken_129 ?_
      refine lv_asI (y := nI (16 + (0 * g1))) (nI_add _ _) ?_
      refine lv_iload hx hb dX9_taken_130 (lv_at hl 2 rfl) ?_
      refine lv_bipush (v := nI 8) hx hb dX9_taken_132 (by decide) ?_
      refine lv_irem hx hb dX9_taken_134 (by decide) ?_
      refine lv_asI (y := nI ((drN 0 (p1 + 1)) % 8)) (pk_rem (by omega) (by omega) (by omega)) ?_
      refine lv_iadd hx hb dX9_taken_135 ?_
      refine lv_asI (y := nI ((16 + (0 * g1)) + ((drN 0 (p1 + 1)) % 8))) (nI_add _ _) ?_
      refine lv_iconst (v := nI 4) hx hb dX9_taken_136 (by decide) ?_
      refine lv_isub hx hb dX9_taken_137 ?_
      refine lv_asI (y := nI (((16 + (0 * g1)) + ((drN 0 (p1 + 1)) % 8)) - 4)) (pk_sub (by omega)) ?_
      refine va_mmin hx hb (hml.trans hl.1.symm) hown (hts _ il_X9_taken_72) (hts _ il_X9_taken_st_min) (hts _ il_X9_taken_ini_Math) (hts _ il_X9_taken_code_min) (Nat.le_of_ble_eq_true rfl) (Nat.le_of_ble_eq_true rfl) hcc hcs dX9_taken_138 ?_
      refine lv_asI (y := nI (16 + 0 * g1 + drN 0 (p1 + 1) % 8 - 4)) (if_pos (nI_lt (by omega) (by omega))) ?_
      refine va_mmax hx hb (hml.trans hl.1.symm) hown (hts _ il_X9_taken_77) (hts _ il_X9_taken_st_max) (hts _ il_X9_taken_ini_Math) (hts _ il_X9_taken_code_max) (Nat.le_of_ble_eq_true rfl) (Nat.le_of_ble_eq_true rfl) hcc hcs dX9_taken_141 ?_
      refine lv_asI (y := nI (R0 p1)) ((if_pos (nI_lt (by omega) (by omega))).trans (congrArg nI (by unfold R0; omega))) ?_
      refine iw_iast hx hb hK hP hD hS (by omega) (va_us _ _ _) (vp_in_nI (show p1 < 64 by omega) (by omega)) (nI_clamp (by omega)) dX9_taken_144 (fun H locs hP hD hS => ?_)
      rw [va_uu _ _ _ _] at hP hD
      refine lv_iinc (v := nI (p1 + 1)) (lv' := [(6, .int (nI (p1 + 1))), (8, .int (nI 0)), (7, .float (FP.fdiv (FP.fmul (FP.fmul (FP.i2f (nI 0)) FP.fconst1) (FP.i2f (nI t1))) (1098907648))), (5, .int (nI (drN 0 (p1 + 1)))), (0, .ref (ad mo)), (1, .int (nI t1)), (2, .int (nI g1)), (3, .int bv), (4, .ref (ad rj))]) hx hb dX9_taken_145 hl (k := 3) rfl (iinc_nat _ 1) (by decide) rfl (fun ls hl => ?_)
      refine lv_goto (tgt := 15) hx hb dX9_taken_148 (by decide) ?_
      rw [flI_n] at hP hD
      exact ih (p1 + 1) H locs ls (by omega) (by omega) hP hD hS (lv_sub hl [3, 0, 4, 5, 6, 7, 8] rfl)
set_option maxRecDepth 20000 in
theorem il_X9_taken_arrint : (Cond.arrayClass .int) ∈ wsX9_taken := by decide +kernel
set_option maxRecDepth 20000 in
theorem il_X9_taken_64 : (Cond.fieldLink RX9 64 "BayerGateModel" "draw" "I") ∈ wsX9_taken := by decide +kernel
set_option maxRecDepth 20000 in
theorem il_X9_taken_80 : (Cond.classLink RX9 80 RX7) ∈ wsX9_taken := by decide +kernel
set_option maxRecDepth 20000 in
theorem il_X9_taken_instX7 : (Cond.instantiable RX7 5) ∈ wsX9_taken := by decide +kernel
set_option maxRecDepth 20000 in
theorem il_X9_taken_iniX7 : (Cond.initialized RX7) ∈ wsX9_taken := by decide +kernel
set_option maxRecDepth 20000 in
theorem iu_X9_taken_7 : ∀ w ∈ u_ws RX7 TX7 5, w ∈ wsX9_taken := by decide +kernel
set_option maxRecDepth 20000 in
theorem il_X9_taken_im_X7_init : (Cond.instanceMethod yX7_init) ∈ wsX9_taken := by decide +kernel
set_option maxRecDepth 20000 in
theorem il_X9_taken_82 : (Cond.methodLink RX9 82 yX7_init) ∈ wsX9_taken := by decide +kernel
set_option maxHeartbeats 4000000 in
set_option maxRecDepth 100000 in
theorem kX9_taken_0 (l : Launch) (G : iG) (N : Nat) (ad : Nat → Nat) (C : Nat → va_E) (mo dz : Nat) (th : Int32) (hmod : Mod G N ad C mo dz th) (t1 g1 : Nat) (ht : 0 < t1 ∧ t1 < 65) (hg : g1 < 9) (sz : Nat) : Met l yX9_taken wsX9_taken rmX9_taken (iPreZ G (N) ad C dz sz [.ref (ad mo), .int (nI t1), .int (nI g1), .int (nI 0)]) (va_Qr (fun (u : iU) => (∀ j, j < N → u.1 j = ad j) ∧ (∀ j, j < N → u.2 j = C j) ∧ u.2 mo = ob 9 [.int th, .ref (u.1 (mo + 1)), .ref (u.1 (mo + 2)), .ref (u.1 (mo + 3)), .ref (u.1 (mo + 4)), .int (nI 0), .ref (u.1 (mo + 5)), .ref (u.1 (mo + 6))] ∧ u.2 N = ia G 64 (fun i => nI (R0 i)) ∧ u.2 (N + 1) = ob 7 [.int (nI t1), .int (nI g1), .ref (u.1 N), .int (nI 0), .ref (u.1 (N + 2))]) (fun u a t => iB2 G (N + 3) (iA (N) ad sz) u t ∧ a = u.1 (N + 1)) (iA (N) ad sz)) 3 72 (iA (N) ad sz) := by
  refine Met.ofW (cc := cX9_taken) (maxL := 9) (ret := (some (.object "BayerGateModel$Frame"))) (by decide) rfl ?_
  intro p e s m args below meth c s₁ B hml hv
  obtain ⟨rfl, ⟨⟨hsz, hP, hK, hD0⟩, hV⟩, hZ⟩ := hv
  have hx := B.exec
  have hb := B.bytes
  have hr := B.returns
  have hts := atoms_spec (ws := wsX9_taken) B.pre
  have hown : s.vm.findClass RX9 = some m.cls := findClass_of_methodNamed B.named
  have hlocks := B.notSynchronized
  subst hsz
  have hD := wl_self hD0 s.heap.size
  have hA : ∀ q : Nat, s.heap.size ≤ q → iA (N) ad s.heap.size q := fun q h => Or.inr h
  have hS : va_S (iA (N) ad s.heap.size) s.heap s.heap [] := va_S.rf
  have hP : va_P G.1 vwB (wl (N) ad C) s.heap := hP
  have hl := lv_entry ([.ref (ad mo), .int (nI t1), .int (nI g1), .int (nI 0)]) (n := 9) (Nat.le_of_ble_eq_true rfl)
  rw [lg_entry_eq]
  generalize (lg_sl ([.ref (ad mo), .int (nI t1), .int (nI g1), .int (nI 0)]) ++ List.replicate (9 - (lg_sl ([.ref (ad mo), .int (nI t1), .int (nI g1), .int (nI 0)])).length) Slot.unset).toArray = ls at hl ⊢
  have hl : lv_has ls 9 [(0, .ref (ad mo)), (1, .int (nI t1)), (2, .int (nI g1)), (3, .int (nI 0))] := hl
  obtain ⟨hN, gm0, gm1, gm2, gm3, gm4, gm5, gm6⟩ := id hmod
  refine lv_bipush (v := nI 64) hx hb dX9_taken_0 (by decide) ?_
  refine iw_newI (N' := 64) hx hb (hts _ il_X9_taken_arrint) hK hP hD hS hA (by decide) (by decide) (Nat.le_of_ble_eq_true rfl) (Nat.le_of_ble_eq_true rfl) (Nat.le_of_ble_eq_true rfl) dX9_taken_2 (fun ad1 C1 H e1 c1 n1 hP hD hS => ?_)
  have k1_mo : C1 mo = ob 9 [.int th, .ref (ad1 (mo + 1)), .ref (ad1 (mo + 2)), .ref (ad1 (mo + 3)), .ref (ad1 (mo + 4)), .int (nI 0), .ref (ad1 (mo + 5)), .ref (ad1 (mo + 6))] := (c1 _ (by omega)).trans ((gm0).trans (by first | (rw [e1 (mo + 1) (by omega), e1 (mo + 2) (by omega), e1 (mo + 3) (by omega), e1 (mo + 4) (by omega), e1 (mo + 5) (by omega), e1 (mo + 6) (by omega)]; done) | (rw [e1 (mo + 1) (by omega), e1 (mo + 2) (by omega), e1 (mo + 3) (by omega), e1 (mo + 4) (by omega), e1 (mo + 5) (by omega), e1 (mo + 6) (by omega)]; rfl)))
  have k1_mo_1 : C1 (mo + 1) = ia G 192 (fun _ => nI 0) := (c1 _ (by omega)).trans (gm1)
  have k1_mo_2 : C1 (mo + 2) = ia G 3 (fun _ => nI 4) := (c1 _ (by omega)).trans (gm2)
  have k1_mo_3 : C1 (mo + 3) = ia G 64 (fun _ => nI 0) := (c1 _ (by omega)).trans (gm3)
  have k1_mo_4 : C1 (mo + 4) = za G 64 (fun _ => nI 0) := (c1 _ (by omega)).trans (gm4)
  have k1_mo_5 : C1 (mo + 5) = ob 10 [.int (nI 0), .ref dz, .int (nI 0)] := (c1 _ (by omega)).trans (gm5)
  have k1_mo_6 : C1 (mo + 6) = ob 10 [.int (nI 0), .ref dz, .int (nI 0)] := (c1 _ (by omega)).trans (gm6)
  have ea1 : ∀ j, j < N → ad1 j = ad j := fun j h => e1 j (by omega)
  have ca1 : ∀ j, j < N → C1 j = C j := fun j h => (c1 j (by omega)).trans (rfl)
  have hl : lv_has ls 9 [(0, .ref (ad1 mo)), (1, .int (nI t1)), (2, .int (nI g1)), (3, .int (nI 0))] := by rw [e1 mo (by omega)]; exact hl
  refine lv_astore (lv' := [(4, .ref (ad1 N)), (0, .ref (ad1 mo)), (1, .int (nI t1)), (2, .int (nI g1)), (3, .int (nI 0))]) hx hb dX9_taken_4 hl (by decide) rfl (fun ls hl => ?_)
  refine lv_aload_n hx hb dX9_taken_6 rfl (lv_at hl 1 rfl) ?_
  refine iw_get hx hb hts iu_X9_taken_9 hown hK hP (by omega) (k1_mo) rfl 5 (by decide) (hts _ il_X9_taken_64) (fun _ h9 => h9) rfl dX9_taken_7 ?_
  refine lv_istore (lv' := [(5, .int (nI 0)), (4, .ref (ad1 N)), (0, .ref (ad1 mo)), (1, .int (nI t1)), (2, .int (nI g1)), (3, .int (nI 0))]) hx hb dX9_taken_10 hl (by decide) rfl (fun ls hl => ?_)
  refine lv_iconst (v := nI 0) hx hb dX9_taken_12 (by decide) ?_
  refine lv_istore (lv' := [(6, .int (nI 0)), (5, .int (nI 0)), (4, .ref (ad1 N)), (0, .ref (ad1 mo)), (1, .int (nI t1)), (2, .int (nI g1)), (3, .int (nI 0))]) hx hb dX9_taken_13 hl (by decide) rfl (fun ls hl => ?_)
  have g9 : C1 (N) = ia G 64 (fun i => nI (flI R0 (fun _ => 0) 0 i)) := (n1).trans (by rw [flI_0])
  have hP := wl_selfE hP g9
  have hD := wl_D hD (va_up C1 (N) (ia G 64 (fun i => nI (flI R0 (fun _ => 0) 0 i))))
  have hmod9 : Mod G (N + 1) ad1 C1 mo dz th := ⟨by omega, k1_mo, k1_mo_1, k1_mo_2, k1_mo_3, k1_mo_4, k1_mo_5, k1_mo_6⟩
  refine lX9_taken hx hb hml hr hts hown hK hA (Nat.le_of_ble_eq_true rfl) (Nat.le_of_ble_eq_true rfl) hmod9 (rj := N) ht (by omega) (by omega) (by omega) (fun H locs ls hP hD hS hl => ?_) 65 0 _ _ ls (by omega) (by omega) hP hD hS (lv_sub hl [1, 0, 3, 4, 5, 6, 2] rfl)
  have hP := wl_ia (g := fun i => nI (R0 i)) hP (fun k hk => by simp [flI, show k < 64 from hk])
  have hD := wl_D hD (va_up C1 (N) (ia G 64 (fun i => nI (R0 i))))
  refine lv_iload_n hx hb dX9_taken_151 rfl (lv_at hl 4 rfl) ?_
  refine lv_if_eq (tgt := 161) hx hb dX9_taken_152 (by decide) (fun _ => ?_) (fun c9 => absurd (by decide) c9)
  refine iw_new (ci := 7) (fs := [.int (nI 0), .int (nI 0), .null, .int (nI 0), .null]) (T := TX7) (n := 5) hx hb hts iu_X9_taken_7 tyX7 tyX7_ok hown (hts _ il_X9_taken_80) (hts _ il_X9_taken_instX7) (hts _ il_X9_taken_iniX7) hK hP hD hS hA rfl (fun j hj => by rcases (show j = 0 ∨ j = 1 ∨ j = 2 ∨ j = 3 ∨ j = 4 by omega) with rfl | rfl | rfl | rfl | rfl <;> rfl) (Nat.le_of_ble_eq_true rfl) (Nat.le_of_ble_eq_true rfl) dX9_taken_161 (fun ad2 C2 H e2 c2 n2 hP hD hS => ?_)
  have k2_mo : C2 mo = ob 9 [.int th, .ref (ad2 (mo + 1)), .ref (ad2 (mo + 2)), .ref (ad2 (mo + 3)), .ref (ad2 (mo + 4)), .int (nI 0), .ref (ad2 (mo + 5)), .ref (ad2 (mo + 6))] := (c2 _ (by omega)).trans (((va_un _ _ (by omega)).trans (k1_mo)).trans (by first | (rw [e2 (mo + 1) (by omega), e2 (mo + 2) (by omega), e2 (mo + 3) (by omega), e2 (mo + 4) (by omega), e2 (mo + 5) (by omega), e2 (mo + 6) (by omega)]; done) | (rw [e2 (mo + 1) (by omega), e2 (mo + 2) (by omega), e2 (mo + 3) (by omega), e2 (mo + 4) (by omega), e2 (mo + 5) (by omega), e2 (mo + 6) (by omega)]; rfl)))
  have k2_mo_1 : C2 (mo + 1) = ia G 192 (fun _ => nI 0) := (c2 _ (by omega)).trans ((va_un _ _ (by omega)).trans (k1_mo_1))
  have k2_mo_2 : C2 (mo + 2) = ia G 3 (fun _ => nI 4) := (c2 _ (by omega)).trans ((va_un _ _ (by omega)).trans (k1_mo_2))
  have k2_mo_3 : C2 (mo + 3) = ia G 64 (fun _ => nI 0) := (c2 _ (by omega)).trans ((va_un _ _ (by omega)).trans (k1_mo_3))
  have k2_mo_4 : C2 (mo + 4) = za G 64 (fun _ => nI 0) := (c2 _ (by omega)).trans ((va_un _ _ (by omega)).trans (k1_mo_4))
  have k2_mo_5 : C2 (mo + 5) = ob 10 [.int (nI 0), .ref dz, .int (nI 0)] := (c2 _ (by omega)).trans ((va_un _ _ (by omega)).trans (k1_mo_5))
  have k2_mo_6 : C2 (mo + 6) = ob 10 [.int (nI 0), .ref dz, .int (nI 0)] := (c2 _ (by omega)).trans ((va_un _ _ (by omega)).trans (k1_mo_6))
  have k2_N : C2 N = ia G 64 (fun i => nI (R0 i)) := (c2 _ (by omega)).trans (va_us _ _ _)
  have ea2 : ∀ j, j < N → ad2 j = ad j := fun j h => (e2 j (by omega)).trans (ea1 j h)
  have ca2 : ∀ j, j < N → C2 j = C j := fun j h => (c2 j (by omega)).trans ((va_un _ _ (by omega)).trans (ca1 j h))
  have hl : lv_has ls 9 [(5, .int (nI (drN 0 64))), (0, .ref (ad2 mo)), (1, .int (nI t1)), (2, .int (nI g1)), (3, .int (nI 0)), (4, .ref (ad2 N))] := by rw [e2 mo (by omega), e2 N (by omega)]; exact hl
  refine lv_dup hx hb dX9_taken_164 rfl ?_
  refine lv_iload_n hx hb dX9_taken_165 rfl (lv_at hl 2 rfl) ?_
  refine lv_iload_n hx hb dX9_taken_166 rfl (lv_at hl 3 rfl) ?_
  refine lv_aload hx hb dX9_taken_167 (lv_at hl 5 rfl) ?_
  refine iwg_v (va_runI (As := [.int (nI t1), .int (nI g1), .ref (ad2 N)]) (rest := [.ref (ad2 (N + 1))]) ⟨hx, hb, hml, hown, hts⟩ (kX7_init l G (N + 1) ad2 _ dz (n2) (nI t1) (nI g1) (N) (by omega) _) (cwI 3 hts gX9_taken_X7_init rfl rfl rfl (hts _ il_X9_taken_iniX7) (hts _ il_X9_taken_82) (hts _ il_X9_taken_im_X7_init) rfl (by decide +kernel) ⟨Nat.le_of_ble_eq_true rfl, Nat.le_of_ble_eq_true rfl⟩) (iPSZ hK hV hZ hS hA hP hD [.ref (ad2 (N + 1)), .int (nI t1), .int (nI g1), .ref (ad2 N)])  rfl rfl hl.1 rfl (lv_room (Nat.le_of_ble_eq_true rfl)) dX9_taken_169 ⟨Nat.le_of_ble_eq_true rfl, Nat.le_of_ble_eq_true rfl⟩) hD hS hA (fun ad3 C3 H locs hw8 hP hD hS => ?_)
  dsimp only at hw8
  obtain ⟨e3, c3, q3_f⟩ := hw8
  have k3_mo : C3 mo = ob 9 [.int th, .ref (ad3 (mo + 1)), .ref (ad3 (mo + 2)), .ref (ad3 (mo + 3)), .ref (ad3 (mo + 4)), .int (nI 0), .ref (ad3 (mo + 5)), .ref (ad3 (mo + 6))] := (c3 _ (by omega)).trans ((k2_mo).trans (by first | (rw [e3 (mo + 1) (by omega), e3 (mo + 2) (by omega), e3 (mo + 3) (by omega), e3 (mo + 4) (by omega), e3 (mo + 5) (by omega), e3 (mo + 6) (by omega)]; done) | (rw [e3 (mo + 1) (by omega), e3 (mo + 2) (by omega), e3 (mo + 3) (by omega), e3 (mo + 4) (by omega), e3 (mo + 5) (by omega), e3 (mo + 6) (by omega)]; rfl)))
  have k3_mo_1 : C3 (mo + 1) = ia G 192 (fun _ => nI 0) := (c3 _ (by omega)).trans (k2_mo_1)
  have k3_mo_2 : C3 (mo + 2) = ia G 3 (fun _ => nI 4) := (c3 _ (by omega)).trans (k2_mo_2)
  have k3_mo_3 : C3 (mo + 3) = ia G 64 (fun _ => nI 0) := (c3 _ (by omega)).trans (k2_mo_3)
  have k3_mo_4 : C3 (mo + 4) = za G 64 (fun _ => nI 0) := (c3 _ (by omega)).trans (k2_mo_4)
  have k3_mo_5 : C3 (mo + 5) = ob 10 [.int (nI 0), .ref dz, .int (nI 0)] := (c3 _ (by omega)).trans (k2_mo_5)
  have k3_mo_6 : C3 (mo + 6) = ob 10 [.int (nI 0), .ref dz, .int (nI 0)] := (c3 _ (by omega)).trans (k2_mo_6)
  have k3_N : C3 N = ia G 64 (fun i => nI (R0 i)) := (c3 _ (by omega)).trans (k2_N)
  have ea3 : ∀ j, j < N → ad3 j = ad j := fun j h => (e3 j (by omega)).trans (ea2 j h)
  have ca3 : ∀ j, j < N → C3 j = C j := fun j h => (c3 j (by omega)).trans (ca2 j h)
  have hl : lv_has ls 9 [(5, .int (nI (drN 0 64))), (0, .ref (ad3 mo)), (1, .int (nI t1)), (2, .int (nI g1)), (3, .int (nI 0)), (4, .ref (ad3 N))] := by rw [e3 mo (by omega), e3 N (by omega)]; exact hl
  refine W.eq (g2 := F0 m 172 ls [.ref (ad3 (N + 1))]) (by first | (rw [e3 (N + 1) (by omega)]; done) | (rw [e3 (N + 1) (by omega)]; rfl)) ?_
  refine W.widen (k := 3) (n := 72) (Nat.le_of_ble_eq_true rfl) (Nat.le_of_ble_eq_true rfl) ?_
  exact W.aret hx hb hr (Or.inl ⟨_, rfl⟩) (Or.inr ⟨_, rfl⟩) (fun t ht hW => ⟨⟨(ad3, C3), _, rfl, ⟨ea3, fun j h => ca3 j h, k3_mo, k3_N, q3_f⟩, ⟨by rw [ht]; exact hP, hD⟩, rfl⟩, hS.F ht⟩) hS.2.2 dX9_taken_172
set_option maxHeartbeats 4000000 in
set_option maxRecDepth 100000 in
theorem kX9_taken_1 (l : Launch) (G : iG) (N : Nat) (ad : Nat → Nat) (C : Nat → va_E) (mo dz : Nat) (th : Int32) (hmod : Mod G N ad C mo dz th) (t1 g1 : Nat) (ht : 0 < t1 ∧ t1 < 65) (hg : g1 < 9) (sz : Nat) : Met l yX9_taken wsX9_taken rmX9_taken (iPreZ G (N) ad C dz sz [.ref (ad mo), .int (nI t1), .int (nI g1), .int (nI 1)]) (va_Qr (fun (u : iU) => (∀ j, j < N → u.1 j = ad j) ∧ (∀ j, j < N → j ≠ mo → u.2 j = C j) ∧ u.2 mo = ob 9 [.int th, .ref (u.1 (mo + 1)), .ref (u.1 (mo + 2)), .ref (u.1 (mo + 3)), .ref (u.1 (mo + 4)), .int (nI (drN 0 64)), .ref (u.1 (mo + 5)), .ref (u.1 (mo + 6))] ∧ u.2 N = ia G 64 (fun i => nI (R0 i)) ∧ u.2 (N + 1) = ob 7 [.int (nI t1), .int (nI g1), .ref (u.1 N), .int (nI 0), .ref (u.1 (N + 2))]) (fun u a t => iB2 G (N + 3) (iA (N) ad sz) u t ∧ a = u.1 (N + 1)) (iA (N) ad sz)) 3 72 (iA (N) ad sz) := by
  refine Met.ofW (cc := cX9_taken) (maxL := 9) (ret := (some (.object "BayerGateModel$Frame"))) (by decide) rfl ?_
  intro p e s m args below meth c s₁ B hml hv
  obtain ⟨rfl, ⟨⟨hsz, hP, hK, hD0⟩, hV⟩, hZ⟩ := hv
  have hx := B.exec
  have hb := B.bytes
  have hr := B.returns
  have hts := atoms_spec (ws := wsX9_taken) B.pre
  have hown : s.vm.findClass RX9 = some m.cls := findClass_of_methodNamed B.named
  have hlocks := B.notSynchronized
  subst hsz
  have hD := wl_self hD0 s.heap.size
  have hA : ∀ q : Nat, s.heap.size ≤ q → iA (N) ad s.heap.size q := fun q h => Or.inr h
  have hS : va_S (iA (N) ad s.heap.size) s.heap s.heap [] := va_S.rf
  have hP : va_P G.1 vwB (wl (N) ad C) s.heap := hP
  have hl := lv_entry ([.ref (ad mo), .int (nI t1), .int (nI g1), .int (nI 1)]) (n := 9) (Nat.le_of_ble_eq_true rfl)
  rw [lg_entry_eq]
  generalize (lg_sl ([.ref (ad mo), .int (nI t1), .int (nI g1), .int (nI 1)]) ++ List.replicate (9 - (lg_sl ([.ref (ad mo), .int (nI t1), .int (nI g1), .int (nI 1)])).length) Slot.unset).toArray = ls at hl ⊢
  have hl : lv_has ls 9 [(0, .ref (ad mo)), (1, .int (nI t1)), (2, .int (nI g1)), (3, .int (nI 1))] := hl
  obtain ⟨hN, gm0, gm1, gm2, gm3, gm4, gm5, gm6⟩ := id hmod
  refine lv_bipush (v := nI 64) hx hb dX9_taken_0 (by decide) ?_
  refine iw_newI (N' := 64) hx hb (hts _ il_X9_taken_arrint) hK hP hD hS hA (by decide) (by decide) (Nat.le_of_ble_eq_true rfl) (Nat.le_of_ble_eq_true rfl) (Nat.le_of_ble_eq_true rfl) dX9_taken_2 (fun ad1 C1 H e1 c1 n1 hP hD hS => ?_)
  have k1_mo : C1 mo = ob 9 [.int th, .ref (ad1 (mo + 1)), .ref (ad1 (mo + 2)), .ref (ad1 (mo + 3)), .ref (ad1 (mo + 4)), .int (nI 0), .ref (ad1 (mo + 5)), .ref (ad1 (mo + 6))] := (c1 _ (by omega)).trans ((gm0).trans (by first | (rw [e1 (mo + 1) (by omega), e1 (mo + 2) (by omega), e1 (mo + 3) (by omega), e1 (mo + 4) (by omega), e1 (mo + 5) (by omega), e1 (mo + 6) (by omega)]; done) | (rw [e1 (mo + 1) (by omega), e1 (mo + 2) (by omega), e1 (mo + 3) (by omega), e1 (mo + 4) (by omega), e1 (mo + 5) (by omega), e1 (mo + 6) (by omega)]; rfl)))
  have k1_mo_1 : C1 (mo + 1) = ia G 192 (fun _ => nI 0) := (c1 _ (by omega)).trans (gm1)
  have k1_mo_2 : C1 (mo + 2) = ia G 3 (fun _ => nI 4) := (c1 _ (by omega)).trans (gm2)
  have k1_mo_3 : C1 (mo + 3) = ia G 64 (fun _ => nI 0) := (c1 _ (by omega)).trans (gm3)
  have k1_mo_4 : C1 (mo + 4) = za G 64 (fun _ => nI 0) := (c1 _ (by omega)).trans (gm4)
  have k1_mo_5 : C1 (mo + 5) = ob 10 [.int (nI 0), .ref dz, .int (nI 0)] := (c1 _ (by omega)).trans (gm5)
  have k1_mo_6 : C1 (mo + 6) = ob 10 [.int (nI 0), .ref dz, .int (nI 0)] := (c1 _ (by omega)).trans (gm6)
  have ea1 : ∀ j, j < N → ad1 j = ad j := fun j h => e1 j (by omega)
  have ca1 : ∀ j, j < N → j ≠ mo → C1 j = C j := fun j h hx9 => (c1 j (by omega)).trans (rfl)
  have hl : lv_has ls 9 [(0, .ref (ad1 mo)), (1, .int (nI t1)), (2, .int (nI g1)), (3, .int (nI 1))] := by rw [e1 mo (by omega)]; exact hl
  refine lv_astore (lv' := [(4, .ref (ad1 N)), (0, .ref (ad1 mo)), (1, .int (nI t1)), (2, .int (nI g1)), (3, .int (nI 1))]) hx hb dX9_taken_4 hl (by decide) rfl (fun ls hl => ?_)
  refine lv_aload_n hx hb dX9_taken_6 rfl (lv_at hl 1 rfl) ?_
  refine iw_get hx hb hts iu_X9_taken_9 hown hK hP (by omega) (k1_mo) rfl 5 (by decide) (hts _ il_X9_taken_64) (fun _ h9 => h9) rfl dX9_taken_7 ?_
  refine lv_istore (lv' := [(5, .int (nI 0)), (4, .ref (ad1 N)), (0, .ref (ad1 mo)), (1, .int (nI t1)), (2, .int (nI g1)), (3, .int (nI 1))]) hx hb dX9_taken_10 hl (by decide) rfl (fun ls hl => ?_)
  refine lv_iconst (v := nI 0) hx hb dX9_taken_12 (by decide) ?_
  refine lv_istore (lv' := [(6, .int (nI 0)), (5, .int (nI 0)), (4, .ref (ad1 N)), (0, .ref (ad1 mo)), (1, .int (nI t1)), (2, .int (nI g1)), (3, .int (nI 1))]) hx hb dX9_taken_13 hl (by decide) rfl (fun ls hl => ?_)
  have g9 : C1 (N) = ia G 64 (fun i => nI (flI R0 (fun _ => 0) 0 i)) := (n1).trans (by rw [flI_0])
  have hP := wl_selfE hP g9
  have hD := wl_D hD (va_up C1 (N) (ia G 64 (fun i => nI (flI R0 (fun _ => 0) 0 i))))
  have hmod9 : Mod G (N + 1) ad1 C1 mo dz th := ⟨by omega, k1_mo, k1_mo_1, k1_mo_2, k1_mo_3, k1_mo_4, k1_mo_5, k1_mo_6⟩
  refine lX9_taken hx hb hml hr hts hown hK hA (Nat.le_of_ble_eq_true rfl) (Nat.le_of_ble_eq_true rfl) hmod9 (rj := N) ht (by omega) (by omega) (by omega) (fun H locs ls hP hD hS hl => ?_) 65 0 _ _ ls (by omega) (by omega) hP hD hS (lv_sub hl [1, 0, 3, 4, 5, 6, 2] rfl)
  have hP := wl_ia (g := fun i => nI (R0 i)) hP (fun k hk => by simp [flI, show k < 64 from hk])
  have hD := wl_D hD (va_up C1 (N) (ia G 64 (fun i => nI (R0 i))))
  refine lv_iload_n hx hb dX9_taken_151 rfl (lv_at hl 4 rfl) ?_
  refine lv_if_eq (tgt := 161) hx hb dX9_taken_152 (by decide) (fun c9 => absurd c9 (by decide)) (fun _ => ?_)
  refine lv_aload_n hx hb dX9_taken_155 rfl (lv_at hl 1 rfl) ?_
  refine lv_iload hx hb dX9_taken_156 (lv_at hl 0 rfl) ?_
  refine iw_put (ty := .int) hx hb hts iu_X9_taken_9 tyX9 tyX9_ok nmX9 hown hK hP hD hS (by omega) ((va_un _ _ (by omega)).trans (k1_mo)) rfl 5 (by decide) (hts _ il_X9_taken_64) (fun _ h9 => h9) rfl (by decide +kernel) rfl rfl (Nat.le_of_ble_eq_true rfl) rfl dX9_taken_158 (fun H locs hP hD hS => ?_)
  refine iw_new (ci := 7) (fs := [.int (nI 0), .int (nI 0), .null, .int (nI 0), .null]) (T := TX7) (n := 5) hx hb hts iu_X9_taken_7 tyX7 tyX7_ok hown (hts _ il_X9_taken_80) (hts _ il_X9_taken_instX7) (hts _ il_X9_taken_iniX7) hK hP hD hS hA rfl (fun j hj => by rcases (show j = 0 ∨ j = 1 ∨ j = 2 ∨ j = 3 ∨ j = 4 by omega) with rfl | rfl | rfl | rfl | rfl <;> rfl) (Nat.le_of_ble_eq_true rfl) (Nat.le_of_ble_eq_true rfl) dX9_taken_161 (fun ad2 C2 H e2 c2 n2 hP hD hS => ?_)
  have k2_mo : C2 mo = ob 9 [.int th, .ref (ad2 (mo + 1)), .ref (ad2 (mo + 2)), .ref (ad2 (mo + 3)), .ref (ad2 (mo + 4)), .int (nI (drN 0 64)), .ref (ad2 (mo + 5)), .ref (ad2 (mo + 6))] := (c2 _ (by omega)).trans ((va_us _ _ _).trans (by first | (rw [e2 (mo + 1) (by omega), e2 (mo + 2) (by omega), e2 (mo + 3) (by omega), e2 (mo + 4) (by omega), e2 (mo + 5) (by omega), e2 (mo + 6) (by omega)]; done) | (rw [e2 (mo + 1) (by omega), e2 (mo + 2) (by omega), e2 (mo + 3) (by omega), e2 (mo + 4) (by omega), e2 (mo + 5) (by omega), e2 (mo + 6) (by omega)]; rfl)))
  have k2_mo_1 : C2 (mo + 1) = ia G 192 (fun _ => nI 0) := (c2 _ (by omega)).trans ((va_un _ _ (by omega)).trans ((va_un _ _ (by omega)).trans (k1_mo_1)))
  have k2_mo_2 : C2 (mo + 2) = ia G 3 (fun _ => nI 4) := (c2 _ (by omega)).trans ((va_un _ _ (by omega)).trans ((va_un _ _ (by omega)).trans (k1_mo_2)))
  have k2_mo_3 : C2 (mo + 3) = ia G 64 (fun _ => nI 0) := (c2 _ (by omega)).trans ((va_un _ _ (by omega)).trans ((va_un _ _ (by omega)).trans (k1_mo_3)))
  have k2_mo_4 : C2 (mo + 4) = za G 64 (fun _ => nI 0) := (c2 _ (by omega)).trans ((va_un _ _ (by omega)).trans ((va_un _ _ (by omega)).trans (k1_mo_4)))
  have k2_mo_5 : C2 (mo + 5) = ob 10 [.int (nI 0), .ref dz, .int (nI 0)] := (c2 _ (by omega)).trans ((va_un _ _ (by omega)).trans ((va_un _ _ (by omega)).trans (k1_mo_5)))
  have k2_mo_6 : C2 (mo + 6) = ob 10 [.int (nI 0), .ref dz, .int (nI 0)] := (c2 _ (by omega)).trans ((va_un _ _ (by omega)).trans ((va_un _ _ (by omega)).trans (k1_mo_6)))
  have k2_N : C2 N = ia G 64 (fun i => nI (R0 i)) := (c2 _ (by omega)).trans ((va_un _ _ (by omega)).trans (va_us _ _ _))
  have ea2 : ∀ j, j < N → ad2 j = ad j := fun j h => (e2 j (by omega)).trans (ea1 j h)
  have ca2 : ∀ j, j < N → j ≠ mo → C2 j = C j := fun j h hx9 => (c2 j (by omega)).trans ((va_un _ _ (by omega)).trans ((va_un _ _ (by omega)).trans (ca1 j h hx9)))
  have hl : lv_has ls 9 [(5, .int (nI (drN 0 64))), (0, .ref (ad2 mo)), (1, .int (nI t1)), (2, .int (nI g1)), (3, .int (nI 1)), (4, .ref (ad2 N))] := by rw [e2 mo (by omega), e2 N (by omega)]; exact hl
  refine lv_dup hx hb dX9_taken_164 rfl ?_
  refine lv_iload_n hx hb dX9_taken_165 rfl (lv_at hl 2 rfl) ?_
  refine lv_iload_n hx hb dX9_taken_166 rfl (lv_at hl 3 rfl) ?_
  refine lv_aload hx hb dX9_taken_167 (lv_at hl 5 rfl) ?_
  refine iwg_v (va_runI (As := [.int (nI t1), .int (nI g1), .ref (ad2 N)]) (rest := [.ref (ad2 (N + 1))]) ⟨hx, hb, hml, hown, hts⟩ (kX7_init l G (N + 1) ad2 _ dz (n2) (nI t1) (nI g1) (N) (by omega) _) (cwI 3 hts gX9_taken_X7_init rfl rfl rfl (hts _ il_X9_taken_iniX7) (hts _ il_X9_taken_82) (hts _ il_X9_taken_im_X7_init) rfl (by decide +kernel) ⟨Nat.le_of_ble_eq_true rfl, Nat.le_of_ble_eq_true rfl⟩) (iPSZ hK hV hZ hS hA hP hD [.ref (ad2 (N + 1)), .int (nI t1), .int (nI g1), .ref (ad2 N)])  rfl rfl hl.1 rfl (lv_room (Nat.le_of_ble_eq_true rfl)) dX9_taken_169 ⟨Nat.le_of_ble_eq_true rfl, Nat.le_of_ble_eq_true rfl⟩) hD hS hA (fun ad3 C3 H locs hw8 hP hD hS => ?_)
  dsimp only at hw8
  obtain ⟨e3, c3, q3_f⟩ := hw8
  have k3_mo : C3 mo = ob 9 [.int th, .ref (ad3 (mo + 1)), .ref (ad3 (mo + 2)), .ref (ad3 (mo + 3)), .ref (ad3 (mo + 4)), .int (nI (drN 0 64)), .ref (ad3 (mo + 5)), .ref (ad3 (mo + 6))] := (c3 _ (by omega)).trans ((k2_mo).trans (by first | (rw [e3 (mo + 1) (by omega), e3 (mo + 2) (by omega), e3 (mo + 3) (by omega), e3 (mo + 4) (by omega), e3 (mo + 5) (by omega), e3 (mo + 6) (by omega)]; done) | (rw [e3 (mo + 1) (by omega), e3 (mo + 2) (by omega), e3 (mo + 3) (by omega), e3 (mo + 4) (by omega), e3 (mo + 5) (by omega), e3 (mo + 6) (by omega)]; rfl)))
  have k3_mo_1 : C3 (mo + 1) = ia G 192 (fun _ => nI 0) := (c3 _ (by omega)).trans (k2_mo_1)
  have k3_mo_2 : C3 (mo + 2) = ia G 3 (fun _ => nI 4) := (c3 _ (by omega)).trans (k2_mo_2)
  have k3_mo_3 : C3 (mo + 3) = ia G 64 (fun _ => nI 0) := (c3 _ (by omega)).trans (k2_mo_3)
  have k3_mo_4 : C3 (mo + 4) = za G 64 (fun _ => nI 0) := (c3 _ (by omega)).trans (k2_mo_4)
  have k3_mo_5 : C3 (mo + 5) = ob 10 [.int (nI 0), .ref dz, .int (nI 0)] := (c3 _ (by omega)).trans (k2_mo_5)
  have k3_mo_6 : C3 (mo + 6) = ob 10 [.int (nI 0), .ref dz, .int (nI 0)] := (c3 _ (by omega)).trans (k2_mo_6)
  have k3_N : C3 N = ia G 64 (fun i => nI (R0 i)) := (c3 _ (by omega)).trans (k2_N)
  have ea3 : ∀ j, j < N → ad3 j = ad j := fun j h => (e3 j (by omega)).trans (ea2 j h)
  have ca3 : ∀ j, j < N → j ≠ mo → C3 j = C j := fun j h hx9 => (c3 j (by omega)).trans (ca2 j h hx9)
  have hl : lv_has ls 9 [(5, .int (nI (drN 0 64))), (0, .ref (ad3 mo)), (1, .int (nI t1)), (2, .int (nI g1)), (3, .int (nI 1)), (4, .ref (ad3 N))] := by rw [e3 mo (by omega), e3 N (by omega)]; exact hl
  refine W.eq (g2 := F0 m 172 ls [.ref (ad3 (N + 1))]) (by first | (rw [e3 (N + 1) (by omega)]; done) | (rw [e3 (N + 1) (by omega)]; rfl)) ?_
  refine W.widen (k := 3) (n := 72) (Nat.le_of_ble_eq_true rfl) (Nat.le_of_ble_eq_true rfl) ?_
  exact W.aret hx hb hr (Or.inl ⟨_, rfl⟩) (Or.inr ⟨_, rfl⟩) (fun t ht hW => ⟨⟨(ad3, C3), _, rfl, ⟨ea3, fun j h hx9 => ca3 j h hx9, k3_mo, k3_N, q3_f⟩, ⟨by rw [ht]; exact hP, hD⟩, rfl⟩, hS.F ht⟩) hS.2.2 dX9_taken_172
