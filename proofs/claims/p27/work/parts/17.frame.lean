set_option maxRecDepth 20000 in
theorem ggX1_sumSeen_X6_colourSeen : GoodIn wsX1_sumSeen wsX6_colourSeen := goodIn_r _ [4] (by decide +kernel) (by decide +kernel)
set_option maxRecDepth 20000 in
theorem gX1_sumSeen_X6_colourSeen_n32 : GoodIn wsX1_sumSeen (wsX6_colourSeen) := ggX1_sumSeen_X6_colourSeen
set_option maxRecDepth 20000 in
theorem ggX1_sumSeen_X6_placeOf : GoodIn wsX1_sumSeen wsX6_placeOf := goodIn_r _ [6] (by decide +kernel) (by decide +kernel)
set_option maxRecDepth 20000 in
theorem gX1_sumSeen_X6_placeOf_n36 : GoodIn wsX1_sumSeen (wsX6_placeOf) := ggX1_sumSeen_X6_placeOf
set_option maxRecDepth 20000 in
theorem ggX1_whiteOf_X1_sumSeen : GoodIn wsX1_whiteOf wsX1_sumSeen := goodIn_r _ [12, 13, 14, 15, 16, 17, 18, 19, 20, 21, 22, 23] (by decide +kernel) (by decide +kernel)
set_option maxRecDepth 20000 in
theorem gX1_whiteOf_X1_sumSeen : GoodIn wsX1_whiteOf (wsV RX1 45 RX1 yX1_sumSeen wsX1_sumSeen) := goodIn_app (goodIn_of _ (by decide +kernel)) ggX1_whiteOf_X1_sumSeen
set_option maxRecDepth 20000 in
theorem ggX1_sharpness_X6_colourSeen : GoodIn wsX1_sharpness wsX6_colourSeen := goodIn_r _ [8] (by decide +kernel) (by decide +kernel)
set_option maxRecDepth 20000 in
theorem gX1_sharpness_X6_colourSeen_n32 : GoodIn wsX1_sharpness (wsX6_colourSeen) := ggX1_sharpness_X6_colourSeen
set_option maxRecDepth 20000 in
theorem ggX1_sharpness_X6_placeOf : GoodIn wsX1_sharpness wsX6_placeOf := goodIn_r _ [10] (by decide +kernel) (by decide +kernel)
set_option maxRecDepth 20000 in
theorem gX1_sharpness_X6_placeOf_n36 : GoodIn wsX1_sharpness (wsX6_placeOf) := ggX1_sharpness_X6_placeOf
set_option maxRecDepth 20000 in
theorem ggX1_meanOfZone_X6_colourSeen : GoodIn wsX1_meanOfZone wsX6_colourSeen := goodIn_r _ [5] (by decide +kernel) (by decide +kernel)
set_option maxRecDepth 20000 in
theorem gX1_meanOfZone_X6_colourSeen_n32 : GoodIn wsX1_meanOfZone (wsX6_colourSeen) := ggX1_meanOfZone_X6_colourSeen
set_option maxRecDepth 20000 in
theorem ggX1_meanOfZone_X6_placeOf : GoodIn wsX1_meanOfZone wsX6_placeOf := goodIn_r _ [7] (by decide +kernel) (by decide +kernel)
set_option maxRecDepth 20000 in
theorem gX1_meanOfZone_X6_placeOf_n36 : GoodIn wsX1_meanOfZone (wsX6_placeOf) := ggX1_meanOfZone_X6_placeOf
set_option maxRecDepth 20000 in
theorem ggX1_meanOfZones_X1_meanOfZone : GoodIn wsX1_meanOfZones wsX1_meanOfZone := goodIn_r _ [6, 7, 8, 9, 10, 11, 12, 13, 14, 15, 16, 17, 18] (by decide +kernel) (by decide +kernel)
set_option maxRecDepth 20000 in
theorem gX1_meanOfZones_X1_meanOfZone : GoodIn wsX1_meanOfZones (wsV RX1 56 RX1 yX1_meanOfZone wsX1_meanOfZone) := goodIn_app (goodIn_of _ (by decide +kernel)) ggX1_meanOfZones_X1_meanOfZone
/-- clipped places -/
def clN (rw : Nat → Nat) : Nat → Nat
  | 0 => 0
  | n + 1 => clN rw n + if rw n = 255 then 1 else 0
theorem clN_le (rw : Nat → Nat) : ∀ n, clN rw n ≤ n
  | 0 => Nat.le_refl _
  | n + 1 => by
    have := clN_le rw n
    unfold clN
    split <;> omega
/-- the sum of RAW over the places that see a colour -/
def ssN (rw : Nat → Nat) (k : Nat) : Nat → Nat
  | 0 => 0
  | n + 1 => ssN rw k n + if colN (n % 8) (n / 8) = k then rw n else 0
theorem ssN_le (rw : Nat → Nat) (hr : ∀ i, i < 64 → rw i ≤ 255) (k : Nat) : ∀ n, n ≤ 64 → ssN rw k n ≤ 255 * n
  | 0, _ => Nat.le_refl _
  | n + 1, hn => by
    have := ssN_le rw hr k n (by omega)
    have := hr n (by omega)
    unfold ssN
    split <;> omega
/-- WHITE -/
def whN (rw : Nat → Nat) (k : Nat) : Nat := if ssN rw k 64 = 0 then 16 else max 1 (min 16 (4 * ssN rw 1 64 / (2 * ssN rw k 64)))
theorem wh_eq (q : Nat) (h : q < 2 ^ 31) : (if nI 1 < (if nI q < nI 16 then nI q else nI 16) then (if nI q < nI 16 then nI q else nI 16) else nI 1) = nI (max 1 (min 16 q)) := by
  have e : (if nI q < nI 16 then nI q else nI 16) = nI (min 16 q) := by
    by_cases h1 : q < 16
    · rw [if_pos (nI_lt h1 (by omega)), show min 16 q = q by omega]
    · rw [if_neg (nI_nlt (by omega) (by omega)), show min 16 q = 16 by omega]
  rw [e]
  by_cases h1 : 1 < min 16 q
  · rw [if_pos (nI_lt h1 (by omega)), show max 1 (min 16 q) = min 16 q by omega]
  · rw [if_neg (nI_nlt (by omega) (by omega)), show max 1 (min 16 q) = 1 by omega]
def absI (z : Int32) : Int32 := if 0 ≤ z then z else 0 - z
/-- SHARP: a row, the rows -/
def shX (rw : Nat → Nat) (y : Nat) (a : Int32) : Nat → Int32
  | 0 => a
  | x + 1 => if colN x y = 1 then shX rw y a x + absI (nI (rw (8 * y + x)) - nI (rw (8 * (y + 1) + (x + 1)))) else shX rw y a x
def shY (rw : Nat → Nat) : Nat → Int32
  | 0 => nI 0
  | y + 1 => shX rw y (shY rw y) 7
/-- a zone's sum: a row, the rows -/
def zoX (rw : Nat → Nat) (fx y a : Nat) : Nat → Nat
  | 0 => a
  | x + 1 => zoX rw fx y a x + if colN (fx + x) y = 1 then rw (8 * y + (fx + x)) else 0
def zoY (rw : Nat → Nat) (fx fy : Nat) : Nat → Nat
  | 0 => 0
  | y + 1 => zoX rw fx (fy + y) (zoY rw fx fy y) 4
theorem zoX_le (rw : Nat → Nat) (hr : ∀ i, i < 64 → rw i ≤ 255) {fx y : Nat} (hf : fx ≤ 4) (hy : y < 8) (a : Nat) : ∀ n, n ≤ 4 → zoX rw fx y a n ≤ a + 255 * n
  | 0, _ => Nat.le_refl _
  | n + 1, hn => by
    have := zoX_le rw hr hf hy a n (by omega)
    have := hr (8 * y + (fx + n)) (by omega)
    unfold zoX
    split <;> omega
theorem zoY_le (rw : Nat → Nat) (hr : ∀ i, i < 64 → rw i ≤ 255) {fx fy : Nat} (hf : fx ≤ 4) (hy : fy ≤ 4) : ∀ n, n ≤ 4 → zoY rw fx fy n ≤ 1020 * n
  | 0, _ => Nat.le_refl _
  | n + 1, hn => by
    have := zoY_le rw hr hf hy n (by omega)
    have := zoX_le rw hr hf (show fy + n < 8 by omega) (zoY rw fx fy n) 4 (by omega)
    unfold zoY
    omega
def zoN (rw : Nat → Nat) (z : Nat) : Nat := zoY rw (z % 2 * 4) (z / 2 * 4) 4
theorem zoN_le (rw : Nat → Nat) (hr : ∀ i, i < 64 → rw i ≤ 255) {z : Nat} (hz : z < 4) : zoN rw z ≤ 4080 := zoY_le rw hr (by omega) (by omega) 4 (by omega)
/-- MEAN of a zone, the METER -/
def moF (rw : Nat → Nat) (z : Nat) : UInt64 := FP.ddiv (FP.i2d (nI (zoN rw z))) 4620693217682128896
def meF (rw : Nat → Nat) : UInt64 := FP.ddiv (FP.dadd (FP.dadd (FP.dadd (FP.dadd FP.dconst0 (moF rw 0)) (moF rw 1)) (moF rw 2)) (moF rw 3)) 4616189618054758400
theorem i2d_fin64 (v : Int32) : fin64 (FP.i2d v) := FP.Core.i2d_fin v
theorem moF_fin (rw : Nat → Nat) (z : Nat) : fin64 (moF rw z) := FP.Core.fin_of_lt (FP.Core.ddiv_mag (K := 1056) (L := 1026) (FP.Core.i2d_mag _) (by decide) (by decide) (by decide) (by decide)) (by decide)
def isDz (x : UInt64) : Bool := match FP.Core.val64 x with
  | .fin _ c _ => c != 0
  | _ => false
theorem isDz_ok {x : UInt64} (h : isDz x = true) : finz64 x := by
  unfold isDz at h
  cases hv : FP.Core.val64 x with
  | nan => rw [hv] at h; cases h
  | inf s => rw [hv] at h; cases h
  | fin s c q =>
    rw [hv] at h
    exact ⟨s, c, q, hv, by simpa using h⟩
theorem d8_ok : finz64 4620693217682128896 := isDz_ok (by decide +kernel)
theorem d4_ok : finz64 4616189618054758400 := isDz_ok (by decide +kernel)
theorem d0_ok : fin64 FP.dconst0 := ⟨_, _, _, FP.Core.val64_dconst0⟩
theorem me1_n (rw : Nat → Nat) : vf_n64 (FP.dadd FP.dconst0 (moF rw 0)) := dadd_nf (fin64_n d0_ok) (moF_fin rw 0)
theorem me2_n (rw : Nat → Nat) : vf_n64 (FP.dadd (FP.dadd FP.dconst0 (moF rw 0)) (moF rw 1)) := dadd_nf (me1_n rw) (moF_fin rw 1)
theorem me3_n (rw : Nat → Nat) : vf_n64 (FP.dadd (FP.dadd (FP.dadd FP.dconst0 (moF rw 0)) (moF rw 1)) (moF rw 2)) := dadd_nf (me2_n rw) (moF_fin rw 2)
theorem me4_n (rw : Nat → Nat) : vf_n64 (FP.dadd (FP.dadd (FP.dadd (FP.dadd FP.dconst0 (moF rw 0)) (moF rw 1)) (moF rw 2)) (moF rw 3)) := dadd_nf (me3_n rw) (moF_fin rw 3)
theorem meF_n (rw : Nat → Nat) : vf_n64 (meF rw) := ddiv_nz (me4_n rw) d4_ok
abbrev rmX1_countClipped : Room := { frames := 0, cells := 0, slots := 0, locals := 0 }
set_option maxRecDepth 20000 in
theorem iu_X1_countClipped_1 : ∀ w ∈ u_ws RX1 TX1 5, w ∈ wsX1_countClipped := by decide +kernel
set_option maxRecDepth 20000 in
theorem il_X1_countClipped_9 : (Cond.fieldLink RX1 9 "BayerGate$Frame" "rawRow" "[I") ∈ wsX1_countClipped := by decide +kernel
set_option maxHeartbeats 4000000 in
set_option maxRecDepth 100000 in
theorem lX1_countClipped {p : Program} {l : Launch} {e : Env} {s : State} {m : MethodId} {args : Array Value} {below : List Frame} {meth : Method} {c : Code} {Q : State → Prop} {A : Nat → Prop} {H0 : Heap} {cells slots : Nat} (hx : p.tables.exec = Jvm.exec) (hb : c.code = cX1_countClipped) (hml : c.maxLocals = 3) (hr : meth.sig.returnType = (some .int)) (hts : ∀ w ∈ wsX1_countClipped, w.before args s = true) (hown : s.vm.findClass RX1 = some m.cls) {G : iG} (hK : KB G s) (hA : ∀ q, H0.size ≤ q → A q) {N : Nat} {ad : Nat → Nat} {C : Nat → va_E} {H : Heap} {locs : List Loc} (hP : va_P G.1 vwB (wl N ad C) H) (hD : va_D A (wl N ad C)) (hS : va_S A H0 H locs)  (hcc : cells ≤ rmX1_countClipped.cells) (hcs : slots ≤ rmX1_countClipped.slots) {fb fr fe : Nat} {t0 g0 q0 : Int32} {rw : Nat → Nat} (lfb : fb < N) (lfr : fr < N) (hfb : C fb = ob 1 [.ref (ad fr), .ref (ad fe), .int t0, .int g0, .int q0]) (hfr : C fr = ia G 64 (fun i => nI (rw i))) (hr9 : ∀ i, i < 64 → rw i ≤ 255) (kx : ∀ ls, lv_has ls 3 [(1, .int (nI (clN rw 64)))] → W p l e rmX1_countClipped s m args below meth c H locs cells slots Q (F0 m 31 ls [])) : ∀ (d : Nat) (k : Nat) (ls : Array Slot), 64 - k < d → k ≤ 64 → lv_has ls 3 [(1, .int (nI (clN rw k))), (2, .int (nI k)), (0, .ref (ad fb))] → W p l e rmX1_countClipped s m args below meth c H locs cells slots Q (F0 m 4 ls []) := by
  intro d
  induction d with
  | zero => intro k ls hd; exact absurd hd (Nat.not_lt_zero _)
  | succ d ih =>
    intro k ls hd h2 hl
    refine lv_iload_n hx hb dX1_countClipped_4 rfl (lv_at hl 1 rfl) ?_
    refine lv_bipush (v := nI 64) hx hb dX1_countClipped_5 (by decide) ?_
    refine lv_icmp_ge (tgt := 31) hx hb dX1_countClipped_7 (by decide) (fun c7 => ?_) (fun c7 => ?_)
    · have h5 : k = 64 := by have := (nI_leI (by omega) (by omega)).mp c7; omega
      subst h5
      exact kx ls (lv_sub hl [0] rfl)
    · have h4 : k < 64 := by have := mt (nI_leI (by omega) (by omega)).mpr c7; omega
      have h6 := hr9 k h4
      refine lv_aload_n hx hb dX1_countClipped_10 rfl (lv_at hl 2 rfl) ?_
      refine iw_get hx hb hts iu_X1_countClipped_1 hown hK hP lfb (hfb) rfl 0 (by decide) (hts _ il_X1_countClipped_9) (fun _ h9 => h9) rfl dX1_countClipped_11 ?_
      refine lv_iload_n hx hb dX1_countClipped_14 rfl (lv_at hl 1 rfl) ?_
      refine iw_iald (v := nI (rw k)) hx hb hK hP lfr (hfr) (vp_in_nI (show k < 64 by omega) (by omega)) (congrArg (fun i => nI (rw i)) (nI_clamp (by omega))) dX1_countClipped_15 ?_
      refine lv_sipush (v := nI 255) hx hb dX1_countClipped_16 (by decide) ?_
      refine lv_icmp_ne (tgt := 25) hx hb dX1_countClipped_19 (by decide) (fun c19 => ?_) (fun c19 => ?_)
      · have e8 : rw k ≠ 255 := fun e => c19 (by rw [e])
        refine lv_iinc (v := nI (k + 1)) (lv' := [(2, .int (nI (k + 1))), (1, .int (nI (clN rw k))), (0, .ref (ad fb))]) hx hb dX1_countClipped_25 hl (k := 1) rfl (iinc_nat _ 1) (by decide) rfl (fun ls hl => ?_)
        refine lv_goto (tgt := 4) hx hb dX1_countClipped_28 (by decide) ?_
        have e9 : clN rw (k + 1) = clN rw k := by simp only [clN]; simp [e8]
        exact ih (k + 1) ls (by omega) (by omega) (by rw [e9]; exact (lv_sub hl [1, 0, 2] rfl))
      · have e8 : rw k = 255 := (nI_eq (by omega) (by omega)).mp c19
        refine lv_iinc (v := nI ((clN rw k) + 1)) (lv' := [(1, .int (nI ((clN rw k) + 1))), (2, .int (nI k)), (0, .ref (ad fb))]) hx hb dX1_countClipped_22 hl (k := 0) rfl (iinc_nat _ 1) (by decide) rfl (fun ls hl => ?_)
        refine lv_iinc (v := nI (k + 1)) (lv' := [(2, .int (nI (k + 1))), (1, .int (nI ((clN rw k) + 1))), (0, .ref (ad fb))]) hx hb dX1_countClipped_25 hl (k := 1) rfl (iinc_nat _ 1) (by decide) rfl (fun ls hl => ?_)
        refine lv_goto (tgt := 4) hx hb dX1_countClipped_28 (by decide) ?_
        have e9 : clN rw (k + 1) = (clN rw k) + 1 := by simp only [clN]; simp [e8]
        exact ih (k + 1) ls (by omega) (by omega) (by rw [e9]; exact (lv_sub hl [1, 0, 2] rfl))
set_option maxHeartbeats 4000000 in
set_option maxRecDepth 100000 in
theorem kX1_countClipped (l : Launch) (G : iG) (N : Nat) (ad : Nat → Nat) (C : Nat → va_E) {fb fr fe : Nat} {t0 g0 q0 : Int32} {rw : Nat → Nat} (lfb : fb < N) (lfr : fr < N) (hfb : C fb = ob 1 [.ref (ad fr), .ref (ad fe), .int t0, .int g0, .int q0]) (hfr : C fr = ia G 64 (fun i => nI (rw i))) (hr9 : ∀ i, i < 64 → rw i ≤ 255) (sz : Nat) : Met l yX1_countClipped wsX1_countClipped rmX1_countClipped (iPre G N ad C sz [.ref (ad fb)]) (va_Qi (fun (r : Int32) (u : Nat → va_E) => r = nI (clN rw 64) ∧ u = C) (iB G N ad) (iA N ad sz)) 0 0 (iA N ad sz) := by
  refine Met.ofW (cc := cX1_countClipped) (maxL := 3) (ret := (some .int)) (by decide) rfl ?_
  intro p e s m args below meth c s₁ B hml hv
  obtain ⟨rfl, hsz, hP, hK, hD0⟩ := hv
  have hx := B.exec
  have hb := B.bytes
  have hr := B.returns
  have hts := atoms_spec (ws := wsX1_countClipped) B.pre
  have hown : s.vm.findClass RX1 = some m.cls := findClass_of_methodNamed B.named
  have hlocks := B.notSynchronized
  subst hsz
  have hD := wl_self hD0 s.heap.size
  have hA : ∀ q : Nat, s.heap.size ≤ q → iA N ad s.heap.size q := fun q h => Or.inr h
  have hS : va_S (iA N ad s.heap.size) s.heap s.heap [] := va_S.rf
  have hP : va_P G.1 vwB (wl N ad C) s.heap := hP
  have hl := lv_entry ([.ref (ad fb)]) (n := 3) (Nat.le_of_ble_eq_true rfl)
  rw [lg_entry_eq]
  generalize (lg_sl ([.ref (ad fb)]) ++ List.replicate (3 - (lg_sl ([.ref (ad fb)])).length) Slot.unset).toArray = ls at hl ⊢
  have hl : lv_has ls 3 [(0, .ref (ad fb))] := hl
  refine lv_iconst (v := nI 0) hx hb dX1_countClipped_0 (by decide) ?_
  refine lv_istore_n (lv' := [(1, .int (nI 0)), (0, .ref (ad fb))]) hx hb dX1_countClipped_1 rfl hl (by decide) rfl (fun ls hl => ?_)
  refine lv_iconst (v := nI 0) hx hb dX1_countClipped_2 (by decide) ?_
  refine lv_istore_n (lv' := [(2, .int (nI 0)), (1, .int (nI 0)), (0, .ref (ad fb))]) hx hb dX1_countClipped_3 rfl hl (by decide) rfl (fun ls hl => ?_)
  refine lX1_countClipped hx hb hml hr hts hown hK hA hP hD hS (Nat.le_refl _) (Nat.le_refl _) lfb lfr hfb hfr hr9 (fun ls hl => ?_) 65 0 ls (by omega) (by omega) (lv_sub hl [1, 0, 2] rfl)
  refine lv_iload_n hx hb dX1_countClipped_31 rfl (lv_at hl 0 rfl) ?_
  exact W.iret (v := (nI (clN rw 64))) hx hb hr (fun t ht hW => ⟨⟨_, _, rfl, ⟨rfl, rfl⟩, iB_of ht hP⟩, hS.F ht⟩) hS.2.2 dX1_countClipped_32
abbrev rmX1_sumSeen : Room := { frames := 1, cells := 0, slots := 0, locals := 21 }
set_option maxRecDepth 20000 in
theorem il_X1_sumSeen_iniX6 : (Cond.initialized RX6) ∈ wsX1_sumSeen := by decide +kernel
set_option maxRecDepth 20000 in
theorem il_X1_sumSeen_st_X6_colourSeen : (Cond.static yX6_colourSeen) ∈ wsX1_sumSeen := by decide +kernel
set_option maxRecDepth 20000 in
theorem iu_X1_sumSeen_1 : ∀ w ∈ u_ws RX1 TX1 5, w ∈ wsX1_sumSeen := by decide +kernel
set_option maxRecDepth 20000 in
theorem il_X1_sumSeen_9 : (Cond.fieldLink RX1 9 "BayerGate$Frame" "rawRow" "[I") ∈ wsX1_sumSeen := by decide +kernel
set_option maxRecDepth 20000 in
theorem il_X1_sumSeen_st_X6_placeOf : (Cond.static yX6_placeOf) ∈ wsX1_sumSeen := by decide +kernel
set_option maxHeartbeats 4000000 in
set_option maxRecDepth 100000 in
theorem lX1_sumSeen_x {p : Program} {l : Launch} {e : Env} {s : State} {m : MethodId} {args : Array Value} {below : List Frame} {meth : Method} {c : Code} {Q : State → Prop} {A : Nat → Prop} {H0 : Heap} {cells slots : Nat} (hx : p.tables.exec = Jvm.exec) (hb : c.code = cX1_sumSeen) (hml : c.maxLocals = 5) (hr : meth.sig.returnType = (some .int)) (hts : ∀ w ∈ wsX1_sumSeen, w.before args s = true) (hown : s.vm.findClass RX1 = some m.cls) {G : iG} (hK : KB G s) (hA : ∀ q, H0.size ≤ q → A q) {N : Nat} {ad : Nat → Nat} {C : Nat → va_E}  (hcc : cells ≤ rmX1_sumSeen.cells) (hcs : slots ≤ rmX1_sumSeen.slots) {fb fr fe : Nat} {t0 g0 q0 : Int32} {rw : Nat → Nat} (lfb : fb < N) (lfr : fr < N) (hfb : C fb = ob 1 [.ref (ad fr), .ref (ad fe), .int t0, .int g0, .int q0]) (hfr : C fr = ia G 64 (fun i => nI (rw i))) (hr9 : ∀ i, i < 64 → rw i ≤ 255) {k y : Nat} (hk3 : k < 3) (hy8 : y < 8) (kx : ∀ (H : Heap) (locs : List Loc) (ls : Array Slot), va_P G.1 vwB (wl N ad C) H → va_D A (wl N ad C) → va_S A H0 H locs → lv_has ls 5 [(2, .int (nI (ssN rw k (8 * y + 8)))), (3, .int (nI y)), (0, .ref (ad fb)), (1, .int (nI k))] → W p l e rmX1_sumSeen s m args below meth c H locs cells slots Q (F0 m 50 ls [])) : ∀ (d : Nat) (x : Nat) (H : Heap) (locs : List Loc) (ls : Array Slot), 8 - x < d → x ≤ 8 → va_P G.1 vwB (wl N ad C) H → va_D A (wl N ad C) → va_S A H0 H locs → lv_has ls 5 [(2, .int (nI (ssN rw k (8 * y + x)))), (4, .int (nI x)), (3, .int (nI y)), (0, .ref (ad fb)), (1, .int (nI k))] → W p l e rmX1_sumSeen s m args below meth c H locs cells slots Q (F0 m 13 ls []) := by
  intro d
  induction d with
  | zero => intro x H locs ls hd; exact absurd hd (Nat.not_lt_zero _)
  | succ d ih =>
    intro x H locs ls hd h2 hP hD hS hl
    refine lv_iload hx hb dX1_sumSeen_13 (lv_at hl 1 rfl) ?_
    refine lv_bipush (v := nI 8) hx hb dX1_sumSeen_15 (by decide) ?_
    refine lv_icmp_ge (tgt := 50) hx hb dX1_sumSeen_17 (by decide) (fun c17 => ?_) (fun c17 => ?_)
    · have h5 : x = 8 := by have := (nI_leI (by omega) (by omega)).mp c17; omega
      subst h5
      exact kx H locs ls hP hD hS (lv_sub hl [0, 2, 3, 4] rfl)
    · have h4 : x < 8 := by have := mt (nI_leI (by omega) (by omega)).mpr c17; omega
      refine lv_iload hx hb dX1_sumSeen_20 (lv_at hl 1 rfl) ?_
      refine lv_iload_n hx hb dX1_sumSeen_22 rfl (lv_at hl 2 rfl) ?_
      refine iw_pi (va_runSN (As := [.int (nI x), .int (nI y)]) (rest := []) ⟨hx, hb, hml, hown, hts⟩ (kX6_colourSeen l x y (by omega) (by omega)) ⟨va_cnB (host := RX6) 2 hts gX1_sumSeen_X6_colourSeen_n32 rfl rfl rfl (nw_RX1_32 hK.2) (hts _ il_X1_sumSeen_iniX6) (by decide +kernel) ⟨Nat.le_of_ble_eq_true rfl, Nat.le_of_ble_eq_true rfl⟩, (hts _ il_X1_sumSeen_st_X6_colourSeen), trivial⟩ ⟨fun a U g mk q => q, fun U hU hW => ⟨rfl, trivial⟩⟩ rfl rfl hl.1 rfl (lv_room (Nat.le_of_ble_eq_true rfl)) dX1_sumSeen_23 ⟨hcc, hcs⟩) hP hS (fun r8 u8 H locs hw8 hP hS => ?_)
      refine lv_asI hw8 ?_
      refine lv_iload_n hx hb dX1_sumSeen_26 rfl (lv_at hl 4 rfl) ?_
      refine lv_icmp_ne (tgt := 44) hx hb dX1_sumSeen_27 (by decide) (fun c27 => ?_) (fun c27 => ?_)
      · have e8 : ¬ colN x y = k := fun e => c27 (by rw [e])
        refine lv_iinc (v := nI (x + 1)) (lv' := [(4, .int (nI (x + 1))), (2, .int (nI (ssN rw k (8 * y + x)))), (3, .int (nI y)), (0, .ref (ad fb)), (1, .int (nI k))]) hx hb dX1_sumSeen_44 hl (k := 1) rfl (iinc_nat _ 1) (by decide) rfl (fun ls hl => ?_)
        refine lv_goto (tgt := 13) hx hb dX1_sumSeen_47 (by decide) ?_
        have e9 : ssN rw k (8 * y + (x + 1)) = ssN rw k (8 * y + x) := by show ssN rw k (8 * y + x) + (if colN ((8 * y + x) % 8) ((8 * y + x) / 8) = k then rw (8 * y + x) else 0) = _; rw [show (8 * y + x) % 8 = x by omega, show (8 * y + x) / 8 = y by omega]; simp [e8]
        exact ih (x + 1) H locs ls (by omega) (by omega) hP hD hS (by rw [e9]; exact (lv_sub hl [1, 0, 2, 3, 4] rfl))
      · have e8 : colN x y = k := (nI_eq (by have := colN_lt x y; omega) (by omega)).mp c27
        refine lv_iload_n hx hb dX1_sumSeen_30 rfl (lv_at hl 0 rfl) ?_
        refine lv_aload_n hx hb dX1_sumSeen_31 rfl (lv_at hl 3 rfl) ?_
        refine iw_get hx hb hts iu_X1_sumSeen_1 hown hK hP lfb (hfb) rfl 0 (by decide) (hts _ il_X1_sumSeen_9) (fun _ h9 => h9) rfl dX1_sumSeen_32 ?_
        refine lv_iload hx hb dX1_sumSeen_35 (lv_at hl 1 rfl) ?_
        refine lv_iload_n hx hb dX1_sumSeen_37 rfl (lv_at hl 2 rfl) ?_
        refine iw_pi (va_runSN (As := [.int (nI x), .int (nI y)]) (rest := [.ref (ad fr), .int (nI (ssN rw k (8 * y + x)))]) ⟨hx, hb, hml, hown, hts⟩ (kX6_placeOf l x y) ⟨va_cnB (host := RX6) 2 hts gX1_sumSeen_X6_placeOf_n36 rfl rfl rfl (nw_RX1_36 hK.2) (hts _ il_X1_sumSeen_iniX6) (by decide +kernel) ⟨Nat.le_of_ble_eq_true rfl, Nat.le_of_ble_eq_true rfl⟩, (hts _ il_X1_sumSeen_st_X6_placeOf), trivial⟩ ⟨fun a U g mk q => q, fun U hU hW => ⟨rfl, trivial⟩⟩ rfl rfl hl.1 rfl (lv_room (Nat.le_of_ble_eq_true rfl)) dX1_sumSeen_38 ⟨hcc, hcs⟩) hP hS (fun r8 u8 H locs hw8 hP hS => ?_)
        refine lv_asI hw8 ?_
        refine iw_iald (v := nI (rw (8 * y + x))) hx hb hK hP lfr (hfr) (vp_in_nI (show 8 * y + x < 64 by omega) (by omega)) (congrArg (fun i => nI (rw i)) (nI_clamp (by omega))) dX1_sumSeen_41 ?_
        refine lv_iadd hx hb dX1_sumSeen_42 ?_
        refine lv_asI (y := nI ((ssN rw k (8 * y + x)) + (rw (8 * y + x)))) (nI_add _ _) ?_
        refine lv_istore_n (lv' := [(2, .int (nI ((ssN rw k (8 * y + x)) + (rw (8 * y + x))))), (4, .int (nI x)), (3, .int (nI y)), (0, .ref (ad fb)), (1, .int (nI k))]) hx hb dX1_sumSeen_43 rfl hl (by decide) rfl (fun ls hl => ?_)
        refine lv_iinc (v := nI (x + 1)) (lv' := [(4, .int (nI (x + 1))), (2, .int (nI ((ssN rw k (8 * y + x)) + (rw (8 * y + x))))), (3, .int (nI y)), (0, .ref (ad fb)), (1, .int (nI k))]) hx hb dX1_sumSeen_44 hl (k := 1) rfl (iinc_nat _ 1) (by decide) rfl (fun ls hl => ?_)
        refine lv_goto (tgt := 13) hx hb dX1_sumSeen_47 (by decide) ?_
        have e9 : ssN rw k (8 * y + (x + 1)) = (ssN rw k (8 * y + x)) + (rw (8 * y + x)) := by show ssN rw k (8 * y + x) + (if colN ((8 * y + x) % 8) ((8 * y + x) / 8) = k then rw (8 * y + x) else 0) = _; rw [show (8 * y + x) % 8 = x by omega, show (8 * y + x) / 8 = y by omega]; simp [e8]
        exact ih (x + 1) H locs ls (by omega) (by omega) hP hD hS (by rw [e9]; exact (lv_sub hl [1, 0, 2, 3, 4] rfl))
set_option maxHeartbeats 4000000 in
set_option maxRecDepth 100000 in
theorem lX1_sumSeen_y {p : Program} {l : Launch} {e : Env} {s : State} {m : MethodId} {args : Array Value} {below : List Frame} {meth : Method} {c : Code} {Q : State → Prop} {A : Nat → Prop} {H0 : Heap} {cells slots : Nat} (hx : p.tables.exec = Jvm.exec) (hb : c.code = cX1_sumSeen) (hml : c.maxLocals = 5) (hr : meth.sig.returnType = (some .int)) (hts : ∀ w ∈ wsX1_sumSeen, w.before args s = true) (hown : s.vm.findClass RX1 = some m.cls) {G : iG} (hK : KB G s) (hA : ∀ q, H0.size ≤ q → A q) {N : Nat} {ad : Nat → Nat} {C : Nat → va_E}  (hcc : cells ≤ rmX1_sumSeen.cells) (hcs : slots ≤ rmX1_sumSeen.slots) {fb fr fe : Nat} {t0 g0 q0 : Int32} {rw : Nat → Nat} (lfb : fb < N) (lfr : fr < N) (hfb : C fb = ob 1 [.ref (ad fr), .ref (ad fe), .int t0, .int g0, .int q0]) (hfr : C fr = ia G 64 (fun i => nI (rw i))) (hr9 : ∀ i, i < 64 → rw i ≤ 255) {k : Nat} (hk3 : k < 3) (kx : ∀ (H : Heap) (locs : List Loc) (ls : Array Slot), va_P G.1 vwB (wl N ad C) H → va_D A (wl N ad C) → va_S A H0 H locs → lv_has ls 5 [(2, .int (nI (ssN rw k (8 * 8))))] → W p l e rmX1_sumSeen s m args below meth c H locs cells slots Q (F0 m 56 ls [])) : ∀ (d : Nat) (y : Nat) (H : Heap) (locs : List Loc) (ls : Array Slot), 8 - y < d → y ≤ 8 → va_P G.1 vwB (wl N ad C) H → va_D A (wl N ad C) → va_S A H0 H locs → lv_has ls 5 [(2, .int (nI (ssN rw k (8 * y)))), (3, .int (nI y)), (0, .ref (ad fb)), (1, .int (nI k))] → W p l e rmX1_sumSeen s m args below meth c H locs cells slots Q (F0 m 4 ls []) := by
  intro d
  induction d with
  | zero => intro y H locs ls hd; exact absurd hd (Nat.not_lt_zero _)
  | succ d ih =>
    intro y H locs ls hd h2 hP hD hS hl
    refine lv_iload_n hx hb dX1_sumSeen_4 rfl (lv_at hl 1 rfl) ?_
    refine lv_bipush (v := nI 8) hx hb dX1_sumSeen_5 (by decide) ?_
    refine lv_icmp_ge (tgt := 56) hx hb dX1_sumSeen_7 (by decide) (fun c7 => ?_) (fun c7 => ?_)
    · have h5 : y = 8 := by have := (nI_leI (by omega) (by omega)).mp c7; omega
      subst h5
      exact kx H locs ls hP hD hS (lv_sub hl [0] rfl)
    · have h4 : y < 8 := by have := mt (nI_leI (by omega) (by omega)).mpr c7; omega
      refine lv_iconst (v := nI 0) hx hb dX1_sumSeen_10 (by decide) ?_
      refine lv_istore (lv' := [(4, .int (nI 0)), (2, .int (nI (ssN rw k (8 * y)))), (3, .int (nI y)), (0, .ref (ad fb)), (1, .int (nI k))]) hx hb dX1_sumSeen_11 hl (by decide) rfl (fun ls hl => ?_)
      refine lX1_sumSeen_x hx hb hml hr hts hown hK hA hcc hcs lfb lfr hfb hfr hr9 hk3 h4 (fun H locs ls hP hD hS hl => ?_) 9 0 H locs ls (by omega) (by omega) hP hD hS (lv_sub hl [1, 0, 2, 3, 4] rfl)
      refine lv_iinc (v := nI (y + 1)) (lv' := [(3, .int (nI (y + 1))), (2, .int (nI (ssN rw k (8 * y + 8)))), (0, .ref (ad fb)), (1, .int (nI k))]) hx hb dX1_sumSeen_50 hl (k := 1) rfl (iinc_nat _ 1) (by decide) rfl (fun ls hl => ?_)
      refine lv_goto (tgt := 4) hx hb dX1_sumSeen_53 (by decide) ?_
      exact ih (y + 1) H locs ls (by omega) (by omega) hP hD hS (lv_sub hl [1, 0, 2, 3] rfl)
set_option maxHeartbeats 4000000 in
set_option maxRecDepth 100000 in
theorem kX1_sumSeen (l : Launch) (G : iG) (N : Nat) (ad : Nat → Nat) (C : Nat → va_E) {fb fr fe : Nat} {t0 g0 q0 : Int32} {rw : Nat → Nat} (lfb : fb < N) (lfr : fr < N) (hfb : C fb = ob 1 [.ref (ad fr), .ref (ad fe), .int t0, .int g0, .int q0]) (hfr : C fr = ia G 64 (fun i => nI (rw i))) (hr9 : ∀ i, i < 64 → rw i ≤ 255) (k : Nat) (hk3 : k < 3) (sz : Nat) : Met l yX1_sumSeen wsX1_sumSeen rmX1_sumSeen (iPre G N ad C sz [.ref (ad fb), .int (nI k)]) (va_Qi (fun (r : Int32) (u : Nat → va_E) => r = nI (ssN rw k 64) ∧ u = C) (iB G N ad) (iA N ad sz)) 0 0 (iA N ad sz) := by
  refine Met.ofW (cc := cX1_sumSeen) (maxL := 5) (ret := (some .int)) (by decide) rfl ?_
  intro p e s m args below meth c s₁ B hml hv
  obtain ⟨rfl, hsz, hP, hK, hD0⟩ := hv
  have hx := B.exec
  have hb := B.bytes
  have hr := B.returns
  have hts := atoms_spec (ws := wsX1_sumSeen) B.pre
  have hown : s.vm.findClass RX1 = some m.cls := findClass_of_methodNamed B.named
  have hlocks := B.notSynchronized
  subst hsz
  have hD := wl_self hD0 s.heap.size
  have hA : ∀ q : Nat, s.heap.size ≤ q → iA N ad s.heap.size q := fun q h => Or.inr h
  have hS : va_S (iA N ad s.heap.size) s.heap s.heap [] := va_S.rf
  have hP : va_P G.1 vwB (wl N ad C) s.heap := hP
  have hl := lv_entry ([.ref (ad fb), .int (nI k)]) (n := 5) (Nat.le_of_ble_eq_true rfl)
  rw [lg_entry_eq]
  generalize (lg_sl ([.ref (ad fb), .int (nI k)]) ++ List.replicate (5 - (lg_sl ([.ref (ad fb), .int (nI k)])).length) Slot.unset).toArray = ls at hl ⊢
  have hl : lv_has ls 5 [(0, .ref (ad fb)), (1, .int (nI k))] := hl
  refine lv_iconst (v := nI 0) hx hb dX1_sumSeen_0 (by decide) ?_
  refine lv_istore_n (lv' := [(2, .int (nI 0)), (0, .ref (ad fb)), (1, .int (nI k))]) hx hb dX1_sumSeen_1 rfl hl (by decide) rfl (fun ls hl => ?_)
  refine lv_iconst (v := nI 0) hx hb dX1_sumSeen_2 (by decide) ?_
  refine lv_istore_n (lv' := [(3, .int (nI 0)), (2, .int (nI 0)), (0, .ref (ad fb)), (1, .int (nI k))]) hx hb dX1_sumSeen_3 rfl hl (by decide) rfl (fun ls hl => ?_)
  refine lX1_sumSeen_y hx hb hml hr hts hown hK hA (Nat.le_refl _) (Nat.le_refl _) lfb lfr hfb hfr hr9 hk3 (fun H locs ls hP hD hS hl => ?_) 9 0 _ _ ls (by omega) (by omega) hP hD hS (lv_sub hl [1, 0, 2, 3] rfl)
  refine lv_iload_n hx hb dX1_sumSeen_56 rfl (lv_at hl 0 rfl) ?_
  exact W.iret (v := (nI (ssN rw k 64))) hx hb hr (fun t ht hW => ⟨⟨_, _, rfl, ⟨rfl, rfl⟩, iB_of ht hP⟩, hS.F ht⟩) hS.2.2 dX1_sumSeen_57
abbrev rmX1_whiteOf : Room := { frames := 2, cells := 0, slots := 0, locals := 45 }
set_option maxRecDepth 20000 in
theorem il_X1_whiteOf_48 : (Cond.methodLink RX1 48 Lib.Math.min.name) ∈ wsX1_whiteOf := by decide +kernel
set_option maxRecDepth 20000 in
theorem il_X1_whiteOf_st_min : (Cond.static Lib.Math.min.name) ∈ wsX1_whiteOf := by decide +kernel
set_option maxRecDepth 20000 in
theorem il_X1_whiteOf_ini_Math : (Cond.initialized "java/lang/Math") ∈ wsX1_whiteOf := by decide +kernel
set_option maxRecDepth 20000 in
theorem il_X1_whiteOf_code_min : (Cond.code Lib.Math.min.name Lib.Math.min.code 2 (some .int)) ∈ wsX1_whiteOf := by decide +kernel
set_option maxRecDepth 20000 in
theorem il_X1_whiteOf_51 : (Cond.methodLink RX1 51 Lib.Math.max.name) ∈ wsX1_whiteOf := by decide +kernel
set_option maxRecDepth 20000 in
theorem il_X1_whiteOf_st_max : (Cond.static Lib.Math.max.name) ∈ wsX1_whiteOf := by decide +kernel
set_option maxRecDepth 20000 in
theorem il_X1_whiteOf_code_max : (Cond.code Lib.Math.max.name Lib.Math.max.code 2 (some .int)) ∈ wsX1_whiteOf := by decide +kernel
set_option maxHeartbeats 4000000 in
set_option maxRecDepth 100000 in
theorem kX1_whiteOf (l : Launch) (G : iG) (N : Nat) (ad : Nat → Nat) (C : Nat → va_E) {fb fr fe : Nat} {t0 g0 q0 : Int32} {rw : Nat → Nat} (lfb : fb < N) (lfr : fr < N) (hfb : C fb = ob 1 [.ref (ad fr), .ref (ad fe), .int t0, .int g0, .int q0]) (hfr : C fr = ia G 64 (fun i => nI (rw i))) (hr9 : ∀ i, i < 64 → rw i ≤ 255) (k : Nat) (hk3 : k < 3) (sz : Nat) : Met l yX1_whiteOf wsX1_whiteOf rmX1_whiteOf (iPre G N ad C sz [.ref (ad fb), .int (nI k)]) (va_Qi (fun (r : Int32) (u : Nat → va_E) => r = nI (whN rw k) ∧ u = C) (iB G N ad) (iA N ad sz)) 0 0 (iA N ad sz) := by
  refine Met.ofW (cc := cX1_whiteOf) (maxL := 3) (ret := (some .int)) (by decide) rfl ?_
  intro p e s m args below meth c s₁ B hml hv
  obtain ⟨rfl, hsz, hP, hK, hD0⟩ := hv
  have hx := B.exec
  have hb := B.bytes
  have hr := B.returns
  have hts := atoms_spec (ws := wsX1_whiteOf) B.pre
  have hown : s.vm.findClass RX1 = some m.cls := findClass_of_methodNamed B.named
  have hlocks := B.notSynchronized
  subst hsz
  have hD := wl_self hD0 s.heap.size
  have hA : ∀ q : Nat, s.heap.size ≤ q → iA N ad s.heap.size q := fun q h => Or.inr h
  have hS : va_S (iA N ad s.heap.size) s.heap s.heap [] := va_S.rf
  have hP : va_P G.1 vwB (wl N ad C) s.heap := hP
  have hl := lv_entry ([.ref (ad fb), .int (nI k)]) (n := 3) (Nat.le_of_ble_eq_true rfl)
  rw [lg_entry_eq]
  generalize (lg_sl ([.ref (ad fb), .int (nI k)]) ++ List.replicate (3 - (lg_sl ([.ref (ad fb), .int (nI k)])).length) Slot.unset).toArray = ls at hl ⊢
  have hl : lv_has ls 3 [(0, .ref (ad fb)), (1, .int (nI k))] := hl
  have b0 := ssN_le rw hr9 k 64 (by omega)
  have b1 := ssN_le rw hr9 1 64 (by omega)
  refine lv_aload_n hx hb dX1_whiteOf_0 rfl (lv_at hl 0 rfl) ?_
  refine lv_iload_n hx hb dX1_whiteOf_1 rfl (lv_at hl 1 rfl) ?_
  refine iw_i (va_runV (As := [.int (nI k)]) (rest := []) ⟨hx, hb, hml, hown, hts⟩ (kX1_sumSeen l G N ad C lfb lfr hfb hfr hr9 k (by omega) _) (cwV 1 hts gX1_whiteOf_X1_sumSeen rfl rfl rfl (by decide +kernel) ⟨Nat.le_of_ble_eq_true rfl, Nat.le_of_ble_eq_true rfl⟩) (iPV hK hP hD lfb (hfb) rfl [.int (nI k)]) rfl rfl hl.1 rfl (lv_room (Nat.le_of_ble_eq_true rfl)) dX1_whiteOf_2 ⟨Nat.le_of_ble_eq_true rfl, Nat.le_of_ble_eq_true rfl⟩) hD hS hA (fun r8 u8 H locs hw8 hP hD hS => ?_)
  obtain ⟨hr8, hu8⟩ := hw8
  refine lv_asI hr8 ?_
  rw [hu8] at hP hD
  refine lv_istore_n (lv' := [(2, .int (nI (ssN rw k 64))), (0, .ref (ad fb)), (1, .int (nI k))]) hx hb dX1_whiteOf_5 rfl hl (by decide) rfl (fun ls hl => ?_)
  refine lv_iload_n hx hb dX1_whiteOf_6 rfl (lv_at hl 0 rfl) ?_
  refine lv_if_ne (tgt := 13) hx hb dX1_whiteOf_7 (by decide) (fun c7 => ?_) (fun c7 => ?_)
  · have e8 : ssN rw k 64 ≠ 0 := fun e => c7 (by rw [e]; exact nI_0)
    refine lv_iconst (v := nI 1) hx hb dX1_whiteOf_13 (by decide) ?_
    refine lv_bipush (v := nI 16) hx hb dX1_whiteOf_14 (by decide) ?_
    refine lv_iconst (v := nI 4) hx hb dX1_whiteOf_16 (by decide) ?_
    refine lv_aload_n hx hb dX1_whiteOf_17 rfl (lv_at hl 1 rfl) ?_
    refine lv_iconst (v := nI 1) hx hb dX1_whiteOf_18 (by decide) ?_
    refine iw_i (va_runV (As := [.int (nI 1)]) (rest := [.int (nI 4), .int (nI 16), .int (nI 1)]) ⟨hx, hb, hml, hown, hts⟩ (kX1_sumSeen l G N ad C lfb lfr hfb hfr hr9 1 (by omega) _) (cwV 1 hts gX1_whiteOf_X1_sumSeen rfl rfl rfl (by decide +kernel) ⟨Nat.le_of_ble_eq_true rfl, Nat.le_of_ble_eq_true rfl⟩) (iPV hK hP hD lfb (hfb) rfl [.int (nI 1)]) rfl rfl hl.1 rfl (lv_room (Nat.le_of_ble_eq_true rfl)) dX1_whiteOf_19 ⟨Nat.le_of_ble_eq_true rfl, Nat.le_of_ble_eq_true rfl⟩) hD hS hA (fun r8 u8 H locs hw8 hP hD hS => ?_)
    obtain ⟨hr8, hu8⟩ := hw8
    refine lv_asI hr8 ?_
    rw [hu8] at hP hD
    refine lv_imul hx hb dX1_whiteOf_22 ?_
    refine lv_asI (y := nI (4 * (ssN rw 1 64))) (pk_mul _ _) ?_
    refine lv_iconst (v := nI 2) hx hb dX1_whiteOf_23 (by decide) ?_
    refine lv_iload_n hx hb dX1_whiteOf_24 rfl (lv_at hl 0 rfl) ?_
    refine lv_imul hx hb dX1_whiteOf_25 ?_
    refine lv_asI (y := nI (2 * (ssN rw k 64))) (pk_mul _ _) ?_
    refine lv_idiv hx hb dX1_whiteOf_26 (fun e => by have := (nI_eq (by omega) (by omega)).mp (e.trans nI_0.symm); omega) ?_
    refine lv_asI (y := nI ((4 * (ssN rw 1 64)) / (2 * (ssN rw k 64)))) (pk_div (by omega) (by omega) (by omega)) ?_
    refine va_mmin hx hb (hml.trans hl.1.symm) hown (hts _ il_X1_whiteOf_48) (hts _ il_X1_whiteOf_st_min) (hts _ il_X1_whiteOf_ini_Math) (hts _ il_X1_whiteOf_code_min) (Nat.le_of_ble_eq_true rfl) (Nat.le_of_ble_eq_true rfl) (Nat.le_of_ble_eq_true rfl) (Nat.le_of_ble_eq_true rfl) dX1_whiteOf_27 ?_
    refine va_mmax hx hb (hml.trans hl.1.symm) hown (hts _ il_X1_whiteOf_51) (hts _ il_X1_whiteOf_st_max) (hts _ il_X1_whiteOf_ini_Math) (hts _ il_X1_whiteOf_code_max) (Nat.le_of_ble_eq_true rfl) (Nat.le_of_ble_eq_true rfl) (Nat.le_of_ble_eq_true rfl) (Nat.le_of_ble_eq_true rfl) dX1_whiteOf_30 ?_
    exact W.iret (v := (if (nI 1) < (if (nI ((4 * (ssN rw 1 64)) / (2 * (ssN rw k 64)))) < (nI 16) then (nI ((4 * (ssN rw 1 64)) / (2 * (ssN rw k 64)))) else (nI 16)) then (if (nI ((4 * (ssN rw 1 64)) / (2 * (ssN rw k 64)))) < (nI 16) then (nI ((4 * (ssN rw 1 64)) / (2 * (ssN rw k 64)))) else (nI 16)) else (nI 1))) hx hb hr (fun t ht hW => ⟨⟨_, _, rfl, ⟨by unfold whN; first | rw [if_pos e8] | (rw [if_neg e8]; exact wh_eq _ (by have := Nat.div_le_self (4 * ssN rw 1 64) (2 * ssN rw k 64); omega)), rfl⟩, iB_of ht hP⟩, hS.F ht⟩) hS.2.2 dX1_whiteOf_33
  · have e8 : ssN rw k 64 = 0 := (nI_eq (by omega) (by omega)).mp (c7.trans nI_0.symm)
    refine lv_bipush (v := nI 16) hx hb dX1_whiteOf_10 (by decide) ?_
    exact W.iret (v := (nI 16)) hx hb hr (fun t ht hW => ⟨⟨_, _, rfl, ⟨by unfold whN; first | rw [if_pos e8] | (rw [if_neg e8]; exact wh_eq _ (by have := Nat.div_le_self (4 * ssN rw 1 64) (2 * ssN rw k 64); omega)), rfl⟩, iB_of ht hP⟩, hS.F ht⟩) hS.2.2 dX1_whiteOf_12
abbrev rmX1_sharpness : Room := { frames := 1, cells := 0, slots := 0, locals := 21 }
set_option maxRecDepth 20000 in
theorem il_X1_sharpness_iniX6 : (Cond.initialized RX6) ∈ wsX1_sharpness := by decide +kernel
set_option maxRecDepth 20000 in
theorem il_X1_sharpness_st_X6_colourSeen : (Cond.static yX6_colourSeen) ∈ wsX1_sharpness := by decide +kernel
set_option maxRecDepth 20000 in
theorem iu_X1_sharpness_1 : ∀ w ∈ u_ws RX1 TX1 5, w ∈ wsX1_sharpness := by decide +kernel
set_option maxRecDepth 20000 in
theorem il_X1_sharpness_9 : (Cond.fieldLink RX1 9 "BayerGate$Frame" "rawRow" "[I") ∈ wsX1_sharpness := by decide +kernel
set_option maxRecDepth 20000 in
theorem il_X1_sharpness_st_X6_placeOf : (Cond.static yX6_placeOf) ∈ wsX1_sharpness := by decide +kernel
set_option maxRecDepth 20000 in
theorem il_X1_sharpness_39 : (Cond.methodLink RX1 39 Lib.Math.abs.name) ∈ wsX1_sharpness := by decide +kernel
set_option maxRecDepth 20000 in
theorem il_X1_sharpness_st_abs : (Cond.static Lib.Math.abs.name) ∈ wsX1_sharpness := by decide +kernel
set_option maxRecDepth 20000 in
theorem il_X1_sharpness_ini_Math : (Cond.initialized "java/lang/Math") ∈ wsX1_sharpness := by decide +kernel
set_option maxRecDepth 20000 in
theorem il_X1_sharpness_code_abs : (Cond.code Lib.Math.abs.name Lib.Math.abs.code 1 (some .int)) ∈ wsX1_sharpness := by decide +kernel
set_option maxHeartbeats 4000000 in
set_option maxRecDepth 100000 in
theorem lX1_sharpness_x {p : Program} {l : Launch} {e : Env} {s : State} {m : MethodId} {args : Array Value} {below : List Frame} {meth : Method} {c : Code} {Q : State → Prop} {A : Nat → Prop} {H0 : Heap} {cells slots : Nat} (hx : p.tables.exec = Jvm.exec) (hb : c.code = cX1_sharpness) (hml : c.maxLocals = 4) (hr : meth.sig.returnType = (some .int)) (hts : ∀ w ∈ wsX1_sharpness, w.before args s = true) (hown : s.vm.findClass RX1 = some m.cls) {G : iG} (hK : KB G s) (hA : ∀ q, H0.size ≤ q → A q) {N : Nat} {ad : Nat → Nat} {C : Nat → va_E}  (hcc : cells ≤ rmX1_sharpness.cells) (hcs : slots ≤ rmX1_sharpness.slots) {fb fr fe : Nat} {t0 g0 q0 : Int32} {rw : Nat → Nat} (lfb : fb < N) (lfr : fr < N) (hfb : C fb = ob 1 [.ref (ad fr), .ref (ad fe), .int t0, .int g0, .int q0]) (hfr : C fr = ia G 64 (fun i => nI (rw i))) {y : Nat} {a : Int32} (hy8 : y < 7) (kx : ∀ (H : Heap) (locs : List Loc) (ls : Array Slot), va_P G.1 vwB (wl N ad C) H → va_D A (wl N ad C) → va_S A H0 H locs → lv_has ls 4 [(1, .int (shX rw y a 7)), (2, .int (nI y)), (0, .ref (ad fb))] → W p l e rmX1_sharpness s m args below meth c H locs cells slots Q (F0 m 64 ls [])) : ∀ (d : Nat) (x : Nat) (H : Heap) (locs : List Loc) (ls : Array Slot), 7 - x < d → x ≤ 7 → va_P G.1 vwB (wl N ad C) H → va_D A (wl N ad C) → va_S A H0 H locs → lv_has ls 4 [(1, .int (shX rw y a x)), (3, .int (nI x)), (2, .int (nI y)), (0, .ref (ad fb))] → W p l e rmX1_sharpness s m args below meth c H locs cells slots Q (F0 m 12 ls []) := by
  intro d
  induction d with
  | zero => intro x H locs ls hd; exact absurd hd (Nat.not_lt_zero _)
  | succ d ih =>
    intro x H locs ls hd h2 hP hD hS hl
    refine lv_iload_n hx hb dX1_sharpness_12 rfl (lv_at hl 1 rfl) ?_
    refine lv_bipush (v := nI 7) hx hb dX1_sharpness_13 (by decide) ?_
    refine lv_icmp_ge (tgt := 64) hx hb dX1_sharpness_15 (by decide) (fun c15 => ?_) (fun c15 => ?_)
    · have h5 : x = 7 := by have := (nI_leI (by omega) (by omega)).mp c15; omega
      subst h5
      exact kx H locs ls hP hD hS (lv_sub hl [0, 2, 3] rfl)
    · have h4 : x < 7 := by have := mt (nI_leI (by omega) (by omega)).mpr c15; omega
      refine lv_iload_n hx hb dX1_sharpness_18 rfl (lv_at hl 1 rfl) ?_
      refine lv_iload_n hx hb dX1_sharpness_19 rfl (lv_at hl 2 rfl) ?_
      refine iw_pi (va_runSN (As := [.int (nI x), .int (nI y)]) (rest := []) ⟨hx, hb, hml, hown, hts⟩ (kX6_colourSeen l x y (by omega) (by omega)) ⟨va_cnB (host := RX6) 2 hts gX1_sharpness_X6_colourSeen_n32 rfl rfl rfl (nw_RX1_32 hK.2) (hts _ il_X1_sharpness_iniX6) (by decide +kernel) ⟨Nat.le_of_ble_eq_true rfl, Nat.le_of_ble_eq_true rfl⟩, (hts _ il_X1_sharpness_st_X6_colourSeen), trivial⟩ ⟨fun a U g mk q => q, fun U hU hW => ⟨rfl, trivial⟩⟩ rfl rfl hl.1 rfl (lv_room (Nat.le_of_ble_eq_true rfl)) dX1_sharpness_20 ⟨hcc, hcs⟩) hP hS (fun r8 u8 H locs hw8 hP hS => ?_)
      refine lv_asI hw8 ?_
      refine lv_iconst (v := nI 1) hx hb dX1_sharpness_23 (by decide) ?_
      refine lv_icmp_ne (tgt := 58) hx hb dX1_sharpness_24 (by decide) (fun c24 => ?_) (fun c24 => ?_)
      · have e8 : ¬ colN x y = 1 := fun e => c24 (by rw [e])
        refine lv_iinc (v := nI (x + 1)) (lv' := [(3, .int (nI (x + 1))), (1, .int (shX rw y a x)), (2, .int (nI y)), (0, .ref (ad fb))]) hx hb dX1_sharpness_58 hl (k := 1) rfl (iinc_nat _ 1) (by decide) rfl (fun ls hl => ?_)
        refine lv_goto (tgt := 12) hx hb dX1_sharpness_61 (by decide) ?_
        have e9 : shX rw y a (x + 1) = shX rw y a x := by simp only [shX]; rw [if_neg e8]
        exact ih (x + 1) H locs ls (by omega) (by omega) hP hD hS (by rw [e9]; exact (lv_sub hl [1, 0, 2, 3] rfl))
      · have e8 : colN x y = 1 := (nI_eq (by have := colN_lt x y; omega) (by omega)).mp c24
        refine lv_iload_n hx hb dX1_sharpness_27 rfl (lv_at hl 0 rfl) ?_
        refine lv_aload_n hx hb dX1_sharpness_28 rfl (lv_at hl 3 rfl) ?_
        refine iw_get hx hb hts iu_X1_sharpness_1 hown hK hP lfb (hfb) rfl 0 (by decide) (hts _ il_X1_sharpness_9) (fun _ h9 => h9) rfl dX1_sharpness_29 ?_
        refine lv_iload_n hx hb dX1_sharpness_32 rfl (lv_at hl 1 rfl) ?_
        refine lv_iload_n hx hb dX1_sharpness_33 rfl (lv_at hl 2 rfl) ?_
        refine iw_pi (va_runSN (As := [.int (nI x), .int (nI y)]) (rest := [.ref (ad fr), .int (shX rw y a x)]) ⟨hx, hb, hml, hown, hts⟩ (kX6_placeOf l (x) (y)) ⟨va_cnB (host := RX6) 2 hts gX1_sharpness_X6_placeOf_n36 rfl rfl rfl (nw_RX1_36 hK.2) (hts _ il_X1_sharpness_iniX6) (by decide +kernel) ⟨Nat.le_of_ble_eq_true rfl, Nat.le_of_ble_eq_true rfl⟩, (hts _ il_X1_sharpness_st_X6_placeOf), trivial⟩ ⟨fun a U g mk q => q, fun U hU hW => ⟨rfl, trivial⟩⟩ rfl rfl hl.1 rfl (lv_room (Nat.le_of_ble_eq_true rfl)) dX1_sharpness_34 ⟨hcc, hcs⟩) hP hS (fun r8 u8 H locs hw8 hP hS => ?_)
        refine lv_asI hw8 ?_
        refine iw_iald (v := nI (rw (8 * y + x))) hx hb hK hP lfr (hfr) (vp_in_nI (show 8 * y + x < 64 by omega) (by omega)) (congrArg (fun i => nI (rw i)) (nI_clamp (by omega))) dX1_sharpness_37 ?_
        refine lv_aload_n hx hb dX1_sharpness_38 rfl (lv_at hl 3 rfl) ?_
        refine iw_get hx hb hts iu_X1_sharpness_1 hown hK hP lfb (hfb) rfl 0 (by decide) (hts _ il_X1_sharpness_9) (fun _ h9 => h9) rfl dX1_sharpness_39 ?_
        refine lv_iload_n hx hb dX1_sharpness_42 rfl (lv_at hl 1 rfl) ?_
        refine lv_iconst (v := nI 1) hx hb dX1_sharpness_43 (by decide) ?_
        refine lv_iadd hx hb dX1_sharpness_44 ?_
        refine lv_asI (y := nI (x + 1)) (nI_add _ _) ?_
        refine lv_iload_n hx hb dX1_sharpness_45 rfl (lv_at hl 2 rfl) ?_
        refine lv_iconst (v := nI 1) hx hb dX1_sharpness_46 (by decide) ?_
        refine lv_iadd hx hb dX1_sharpness_47 ?_
        refine lv_asI (y := nI (y + 1)) (nI_add _ _) ?_
        refine iw_pi (va_runSN (As := [.int (nI (x + 1)), .int (nI (y + 1))]) (rest := [.ref (ad fr), .int (nI (rw (8 * y + x))), .int (shX rw y a x)]) ⟨hx, hb, hml, hown, hts⟩ (kX6_placeOf l (x + 1) (y + 1)) ⟨va_cnB (host := RX6) 2 hts gX1_sharpness_X6_placeOf_n36 rfl rfl rfl (nw_RX1_36 hK.2) (hts _ il_X1_sharpness_iniX6) (by decide +kernel) ⟨Nat.le_of_ble_eq_true rfl, Nat.le_of_ble_eq_true rfl⟩, (hts _ il_X1_sharpness_st_X6_placeOf), trivial⟩ ⟨fun a U g mk q => q, fun U hU hW => ⟨rfl, trivial⟩⟩ rfl rfl hl.1 rfl (lv_room (Nat.le_of_ble_eq_true rfl)) dX1_sharpness_48 ⟨hcc, hcs⟩) hP hS (fun r8 u8 H locs hw8 hP hS => ?_)
        refine lv_asI hw8 ?_
        refine iw_iald (v := nI (rw (8 * (y + 1) + (x + 1)))) hx hb hK hP lfr (hfr) (vp_in_nI (show 8 * (y + 1) + (x + 1) < 64 by omega) (by omega)) (congrArg (fun i => nI (rw i)) (nI_clamp (by omega))) dX1_sharpness_51 ?_
        refine lv_isub hx hb dX1_sharpness_52 ?_
        refine va_mabs hx hb (hml.trans hl.1.symm) hown (hts _ il_X1_sharpness_39) (hts _ il_X1_sharpness_st_abs) (hts _ il_X1_sharpness_ini_Math) (hts _ il_X1_sharpness_code_abs) (Nat.le_of_ble_eq_true rfl) (Nat.le_of_ble_eq_true rfl) hcc hcs dX1_sharpness_53 ?_
        refine lv_iadd hx hb dX1_sharpness_56 ?_
        refine lv_istore_n (lv' := [(1, .int ((shX rw y a x) + (if 0 ≤ ((nI (rw (8 * y + x))) - (nI (rw (8 * (y + 1) + (x + 1))))) then ((nI (rw (8 * y + x))) - (nI (rw (8 * (y + 1) + (x + 1))))) else 0 - ((nI (rw (8 * y + x))) - (nI (rw (8 * (y + 1) + (x + 1)))))))), (3, .int (nI x)), (2, .int (nI y)), (0, .ref (ad fb))]) hx hb dX1_sharpness_57 rfl hl (by decide) rfl (fun ls hl => ?_)
        refine lv_iinc (v := nI (x + 1)) (lv' := [(3, .int (nI (x + 1))), (1, .int ((shX rw y a x) + (if 0 ≤ ((nI (rw (8 * y + x))) - (nI (rw (8 * (y + 1) + (x + 1))))) then ((nI (rw (8 * y + x))) - (nI (rw (8 * (y + 1) + (x + 1))))) else 0 - ((nI (rw (8 * y + x))) - (nI (rw (8 * (y + 1) + (x + 1)))))))), (2, .int (nI y)), (0, .ref (ad fb))]) hx hb dX1_sharpness_58 hl (k := 1) rfl (iinc_nat _ 1) (by decide) rfl (fun ls hl => ?_)
        refine lv_goto (tgt := 12) hx hb dX1_sharpness_61 (by decide) ?_
        have e9 : shX rw y a (x + 1) = (shX rw y a x) + (if 0 ≤ ((nI (rw (8 * y + x))) - (nI (rw (8 * (y + 1) + (x + 1))))) then ((nI (rw (8 * y + x))) - (nI (rw (8 * (y + 1) + (x + 1))))) else 0 - ((nI (rw (8 * y + x))) - (nI (rw (8 * (y + 1) + (x + 1)))))) := by simp only [shX]; rw [if_pos e8]; rfl
        exact ih (x + 1) H locs ls (by omega) (by omega) hP hD hS (by rw [e9]; exact (lv_sub hl [1, 0, 2, 3] rfl))
set_option maxHeartbeats 4000000 in
set_option maxRecDepth 100000 in
theorem lX1_sharpness_y {p : Program} {l : Launch} {e : Env} {s : State} {m : MethodId} {args : Array Value} {below : List Frame} {meth : Method} {c : Code} {Q : State → Prop} {A : Nat → Prop} {H0 : Heap} {cells slots : Nat} (hx : p.tables.exec = Jvm.exec) (hb : c.code = cX1_sharpness) (hml : c.maxLocals = 4) (hr : meth.sig.returnType = (some .int)) (hts : ∀ w ∈ wsX1_sharpness, w.before args s = true) (hown : s.vm.findClass RX1 = some m.cls) {G : iG} (hK : KB G s) (hA : ∀ q, H0.size ≤ q → A q) {N : Nat} {ad : Nat → Nat} {C : Nat → va_E}  (hcc : cells ≤ rmX1_sharpness.cells) (hcs : slots ≤ rmX1_sharpness.slots) {fb fr fe : Nat} {t0 g0 q0 : Int32} {rw : Nat → Nat} (lfb : fb < N) (lfr : fr < N) (hfb : C fb = ob 1 [.ref (ad fr), .ref (ad fe), .int t0, .int g0, .int q0]) (hfr : C fr = ia G 64 (fun i => nI (rw i))) (kx : ∀ (H : Heap) (locs : List Loc) (ls : Array Slot), va_P G.1 vwB (wl N ad C) H → va_D A (wl N ad C) → va_S A H0 H locs → lv_has ls 4 [(1, .int (shY rw 7))] → W p l e rmX1_sharpness s m args below meth c H locs cells slots Q (F0 m 70 ls [])) : ∀ (d : Nat) (y : Nat) (H : Heap) (locs : List Loc) (ls : Array Slot), 7 - y < d → y ≤ 7 → va_P G.1 vwB (wl N ad C) H → va_D A (wl N ad C) → va_S A H0 H locs → lv_has ls 4 [(1, .int (shY rw y)), (2, .int (nI y)), (0, .ref (ad fb))] → W p l e rmX1_sharpness s m args below meth c H locs cells slots Q (F0 m 4 ls []) := by
  intro d
  induction d with
  | zero => intro y H locs ls hd; exact absurd hd (Nat.not_lt_zero _)
  | succ d ih =>
    intro y H locs ls hd h2 hP hD hS hl
    refine lv_iload_n hx hb dX1_sharpness_4 rfl (lv_at hl 1 rfl) ?_
    refine lv_bipush (v := nI 7) hx hb dX1_sharpness_5 (by decide) ?_
    refine lv_icmp_ge (tgt := 70) hx hb dX1_sharpness_7 (by decide) (fun c7 => ?_) (fun c7 => ?_)
    · have h5 : y = 7 := by have := (nI_leI (by omega) (by omega)).mp c7; omega
      subst h5
      exact kx H locs ls hP hD hS (lv_sub hl [0] rfl)
    · have h4 : y < 7 := by have := mt (nI_leI (by omega) (by omega)).mpr c7; omega
      refine lv_iconst (v := nI 0) hx hb dX1_sharpness_10 (by decide) ?_
      refine lv_istore_n (lv' := [(3, .int (nI 0)), (1, .int (shY rw y)), (2, .int (nI y)), (0, .ref (ad fb))]) hx hb dX1_sharpness_11 rfl hl (by decide) rfl (fun ls hl => ?_)
      refine lX1_sharpness_x hx hb hml hr hts hown hK hA hcc hcs lfb lfr hfb hfr h4 (fun H locs ls hP hD hS hl => ?_) 8 0 H locs ls (by omega) (by omega) hP hD hS (lv_sub hl [1, 0, 2, 3] rfl)
      refine lv_iinc (v := nI (y + 1)) (lv' := [(2, .int (nI (y + 1))), (1, .int (shX rw y (shY rw y) 7)), (0, .ref (ad fb))]) hx hb dX1_sharpness_64 hl (k := 1) rfl (iinc_nat _ 1) (by decide) rfl (fun ls hl => ?_)
      refine lv_goto (tgt := 4) hx hb dX1_sharpness_67 (by decide) ?_
      exact ih (y + 1) H locs ls (by omega) (by omega) hP hD hS (lv_sub hl [1, 0, 2] rfl)
set_option maxHeartbeats 4000000 in
set_option maxRecDepth 100000 in
theorem kX1_sharpness (l : Launch) (G : iG) (N : Nat) (ad : Nat → Nat) (C : Nat → va_E) {fb fr fe : Nat} {t0 g0 q0 : Int32} {rw : Nat → Nat} (lfb : fb < N) (lfr : fr < N) (hfb : C fb = ob 1 [.ref (ad fr), .ref (ad fe), .int t0, .int g0, .int q0]) (hfr : C fr = ia G 64 (fun i => nI (rw i))) (sz : Nat) : Met l yX1_sharpness wsX1_sharpness rmX1_sharpness (iPre G N ad C sz [.ref (ad fb)]) (va_Qi (fun (r : Int32) (u : Nat → va_E) => r = shY rw 7 ∧ u = C) (iB G N ad) (iA N ad sz)) 0 0 (iA N ad sz) := by
  refine Met.ofW (cc := cX1_sharpness) (maxL := 4) (ret := (some .int)) (by decide) rfl ?_
  intro p e s m args below meth c s₁ B hml hv
  obtain ⟨rfl, hsz, hP, hK, hD0⟩ := hv
  have hx := B.exec
  have hb := B.bytes
  have hr := B.returns
  have hts := atoms_spec (ws := wsX1_sharpness) B.pre
  have hown : s.vm.findClass RX1 = some m.cls := findClass_of_methodNamed B.named
  have hlocks := B.notSynchronized
  subst hsz
  have hD := wl_self hD0 s.heap.size
  have hA : ∀ q : Nat, s.heap.size ≤ q → iA N ad s.heap.size q := fun q h => Or.inr h
  have hS : va_S (iA N ad s.heap.size) s.heap s.heap [] := va_S.rf
  have hP : va_P G.1 vwB (wl N ad C) s.heap := hP
  have hl := lv_entry ([.ref (ad fb)]) (n := 4) (Nat.le_of_ble_eq_true rfl)
  rw [lg_entry_eq]
  generalize (lg_sl ([.ref (ad fb)]) ++ List.replicate (4 - (lg_sl ([.ref (ad fb)])).length) Slot.unset).toArray = ls at hl ⊢
  have hl : lv_has ls 4 [(0, .ref (ad fb))] := hl
  refine lv_iconst (v := nI 0) hx hb dX1_sharpness_0 (by decide) ?_
  refine lv_istore_n (lv' := [(1, .int (nI 0)), (0, .ref (ad fb))]) hx hb dX1_sharpness_1 rfl hl (by decide) rfl (fun ls hl => ?_)
  refine lv_iconst (v := nI 0) hx hb dX1_sharpness_2 (by decide) ?_
  refine lv_istore_n (lv' := [(2, .int (nI 0)), (1, .int (nI 0)), (0, .ref (ad fb))]) hx hb dX1_sharpness_3 rfl hl (by decide) rfl (fun ls hl => ?_)
  refine lX1_sharpness_y hx hb hml hr hts hown hK hA (Nat.le_refl _) (Nat.le_refl _) lfb lfr hfb hfr (fun H locs ls hP hD hS hl => ?_) 8 0 _ _ ls (by omega) (by omega) hP hD hS (lv_sub hl [1, 0, 2] rfl)
  refine lv_iload_n hx hb dX1_sharpness_70 rfl (lv_at hl 0 rfl) ?_
  exact W.iret (v := (shY rw 7)) hx hb hr (fun t ht hW => ⟨⟨_, _, rfl, ⟨rfl, rfl⟩, iB_of ht hP⟩, hS.F ht⟩) hS.2.2 dX1_sharpness_71
abbrev rmX1_meanOfZone : Room := { frames := 1, cells := 0, slots := 0, locals := 21 }
set_option maxRecDepth 20000 in
theorem il_X1_meanOfZone_iniX6 : (Cond.initialized RX6) ∈ wsX1_meanOfZone := by decide +kernel
set_option maxRecDepth 20000 in
theorem il_X1_meanOfZone_st_X6_colourSeen : (Cond.static yX6_colourSeen) ∈ wsX1_meanOfZone := by decide +kernel
set_option maxRecDepth 20000 in
theorem iu_X1_meanOfZone_1 : ∀ w ∈ u_ws RX1 TX1 5, w ∈ wsX1_meanOfZone := by decide +kernel
set_option maxRecDepth 20000 in
theorem il_X1_meanOfZone_9 : (Cond.fieldLink RX1 9 "BayerGate$Frame" "rawRow" "[I") ∈ wsX1_meanOfZone := by decide +kernel
set_option maxRecDepth 20000 in
theorem il_X1_meanOfZone_st_X6_placeOf : (Cond.static yX6_placeOf) ∈ wsX1_meanOfZone := by decide +kernel
set_option maxHeartbeats 4000000 in
set_option maxRecDepth 100000 in
theorem lX1_meanOfZone_x {p : Program} {l : Launch} {e : Env} {s : State} {m : MethodId} {args : Array Value} {below : List Frame} {meth : Method} {c : Code} {Q : State → Prop} {A : Nat → Prop} {H0 : Heap} {cells slots : Nat} (hx : p.tables.exec = Jvm.exec) (hb : c.code = cX1_meanOfZone) (hml : c.maxLocals = 7) (hr : meth.sig.returnType = (some .double)) (hts : ∀ w ∈ wsX1_meanOfZone, w.before args s = true) (hown : s.vm.findClass RX1 = some m.cls) {G : iG} (hK : KB G s) (hA : ∀ q, H0.size ≤ q → A q) {N : Nat} {ad : Nat → Nat} {C : Nat → va_E}  (hcc : cells ≤ rmX1_meanOfZone.cells) (hcs : slots ≤ rmX1_meanOfZone.slots) {fb fr fe : Nat} {t0 g0 q0 : Int32} {rw : Nat → Nat} (lfb : fb < N) (lfr : fr < N) (hfb : C fb = ob 1 [.ref (ad fr), .ref (ad fe), .int t0, .int g0, .int q0]) (hfr : C fr = ia G 64 (fun i => nI (rw i))) (hr9 : ∀ i, i < 64 → rw i ≤ 255) {fx fy y a : Nat} (hfx : fx ≤ 4) (hfy : fy ≤ 4) (hy4 : y < 4) (kx : ∀ (H : Heap) (locs : List Loc) (ls : Array Slot), va_P G.1 vwB (wl N ad C) H → va_D A (wl N ad C) → va_S A H0 H locs → lv_has ls 7 [(4, .int (nI (zoX rw fx (fy + y) a 4))), (5, .int (nI (fy + y))), (0, .ref (ad fb)), (2, .int (nI fx)), (3, .int (nI fy))] → W p l e rmX1_meanOfZone s m args below meth c H locs cells slots Q (F0 m 71 ls [])) : ∀ (d : Nat) (x : Nat) (H : Heap) (locs : List Loc) (ls : Array Slot), 4 - x < d → x ≤ 4 → va_P G.1 vwB (wl N ad C) H → va_D A (wl N ad C) → va_S A H0 H locs → lv_has ls 7 [(4, .int (nI (zoX rw fx (fy + y) a x))), (6, .int (nI (fx + x))), (5, .int (nI (fy + y))), (0, .ref (ad fb)), (2, .int (nI fx)), (3, .int (nI fy))] → W p l e rmX1_meanOfZone s m args below meth c H locs cells slots Q (F0 m 29 ls []) := by
  intro d
  induction d with
  | zero => intro x H locs ls hd; exact absurd hd (Nat.not_lt_zero _)
  | succ d ih =>
    intro x H locs ls hd h2 hP hD hS hl
    refine lv_iload hx hb dX1_meanOfZone_29 (lv_at hl 1 rfl) ?_
    refine lv_iload_n hx hb dX1_meanOfZone_31 rfl (lv_at hl 4 rfl) ?_
    refine lv_iconst (v := nI 4) hx hb dX1_meanOfZone_32 (by decide) ?_
    refine lv_iadd hx hb dX1_meanOfZone_33 ?_
    refine lv_asI (y := nI (fx + 4)) (nI_add _ _) ?_
    refine lv_icmp_ge (tgt := 71) hx hb dX1_meanOfZone_34 (by decide) (fun c34 => ?_) (fun c34 => ?_)
    · have h5 : x = 4 := by have := (nI_leI (by omega) (by omega)).mp c34; omega
      subst h5
      exact kx H locs ls hP hD hS (lv_sub hl [0, 2, 3, 4, 5] rfl)
    · have h4 : x < 4 := by have := mt (nI_leI (by omega) (by omega)).mpr c34; omega
      refine lv_iload hx hb dX1_meanOfZone_37 (lv_at hl 1 rfl) ?_
      refine lv_iload hx hb dX1_meanOfZone_39 (lv_at hl 2 rfl) ?_
      refine iw_pi (va_runSN (As := [.int (nI (fx + x)), .int (nI (fy + y))]) (rest := []) ⟨hx, hb, hml, hown, hts⟩ (kX6_colourSeen l (fx + x) (fy + y) (by omega) (by omega)) ⟨va_cnB (host := RX6) 2 hts gX1_meanOfZone_X6_colourSeen_n32 rfl rfl rfl (nw_RX1_32 hK.2) (hts _ il_X1_meanOfZone_iniX6) (by decide +kernel) ⟨Nat.le_of_ble_eq_true rfl, Nat.le_of_ble_eq_true rfl⟩, (hts _ il_X1_meanOfZone_st_X6_colourSeen), trivial⟩ ⟨fun a U g mk q => q, fun U hU hW => ⟨rfl, trivial⟩⟩ rfl rfl hl.1 rfl (lv_room (Nat.le_of_ble_eq_true rfl)) dX1_meanOfZone_41 ⟨hcc, hcs⟩) hP hS (fun r8 u8 H locs hw8 hP hS => ?_)
      refine lv_asI hw8 ?_
      refine lv_iconst (v := nI 1) hx hb dX1_meanOfZone_44 (by decide) ?_
      refine lv_icmp_ne (tgt := 65) hx hb dX1_meanOfZone_45 (by decide) (fun c45 => ?_) (fun c45 => ?_)
      · have e8 : ¬ colN (fx + x) (fy + y) = 1 := fun e => c45 (by rw [e])
        refine lv_iinc (v := nI ((fx + x) + 1)) (lv' := [(6, .int (nI ((fx + x) + 1))), (4, .int (nI (zoX rw fx (fy + y) a x))), (5, .int (nI (fy + y))), (0, .ref (ad fb)), (2, .int (nI fx)), (3, .int (nI fy))]) hx hb dX1_meanOfZone_65 hl (k := 1) rfl (iinc_nat _ 1) (by decide) rfl (fun ls hl => ?_)
        refine lv_goto (tgt := 29) hx hb dX1_meanOfZone_68 (by decide) ?_
        have e9 : zoX rw fx (fy + y) a (x + 1) = zoX rw fx (fy + y) a x := by simp only [zoX]; simp [e8]
        exact ih (x + 1) H locs ls (by omega) (by omega) hP hD hS (by rw [e9]; exact (lv_sub hl [1, 0, 2, 3, 4, 5] rfl))
      · have e8 : colN (fx + x) (fy + y) = 1 := (nI_eq (by have := colN_lt (fx + x) (fy + y); omega) (by omega)).mp c45
        refine lv_iload hx hb dX1_meanOfZone_48 (lv_at hl 0 rfl) ?_
        refine lv_aload_n hx hb dX1_meanOfZone_50 rfl (lv_at hl 3 rfl) ?_
        refine iw_get hx hb hts iu_X1_meanOfZone_1 hown hK hP lfb (hfb) rfl 0 (by decide) (hts _ il_X1_meanOfZone_9) (fun _ h9 => h9) rfl dX1_meanOfZone_51 ?_
        refine lv_iload hx hb dX1_meanOfZone_54 (lv_at hl 1 rfl) ?_
        refine lv_iload hx hb dX1_meanOfZone_56 (lv_at hl 2 rfl) ?_
        refine iw_pi (va_runSN (As := [.int (nI (fx + x)), .int (nI (fy + y))]) (rest := [.ref (ad fr), .int (nI (zoX rw fx (fy + y) a x))]) ⟨hx, hb, hml, hown, hts⟩ (kX6_placeOf l (fx + x) (fy + y)) ⟨va_cnB (host := RX6) 2 hts gX1_meanOfZone_X6_placeOf_n36 rfl rfl rfl (nw_RX1_36 hK.2) (hts _ il_X1_meanOfZone_iniX6) (by decide +kernel) ⟨Nat.le_of_ble_eq_true rfl, Nat.le_of_ble_eq_true rfl⟩, (hts _ il_X1_meanOfZone_st_X6_placeOf), trivial⟩ ⟨fun a U g mk q => q, fun U hU hW => ⟨rfl, trivial⟩⟩ rfl rfl hl.1 rfl (lv_room (Nat.le_of_ble_eq_true rfl)) dX1_meanOfZone_58 ⟨hcc, hcs⟩) hP hS (fun r8 u8 H locs hw8 hP hS => ?_)
        refine lv_asI hw8 ?_
        refine iw_iald (v := nI (rw (8 * (fy + y) + (fx + x)))) hx hb hK hP lfr (hfr) (vp_in_nI (show 8 * (fy + y) + (fx + x) < 64 by omega) (by omega)) (congrArg (fun i => nI (rw i)) (nI_clamp (by omega))) dX1_meanOfZone_61 ?_
        refine lv_iadd hx hb dX1_meanOfZone_62 ?_
        refine lv_asI (y := nI ((zoX rw fx (fy + y) a x) + (rw (8 * (fy + y) + (fx + x))))) (nI_add _ _) ?_
        refine lv_istore (lv' := [(4, .int (nI ((zoX rw fx (fy + y) a x) + (rw (8 * (fy + y) + (fx + x)))))), (6, .int (nI (fx + x))), (5, .int (nI (fy + y))), (0, .ref (ad fb)), (2, .int (nI fx)), (3, .int (nI fy))]) hx hb dX1_meanOfZone_63 hl (by decide) rfl (fun ls hl => ?_)
        refine lv_iinc (v := nI ((fx + x) + 1)) (lv' := [(6, .int (nI ((fx + x) + 1))), (4, .int (nI ((zoX rw fx (fy + y) a x) + (rw (8 * (fy + y) + (fx + x)))))), (5, .int (nI (fy + y))), (0, .ref (ad fb)), (2, .int (nI fx)), (3, .int (nI fy))]) hx hb dX1_meanOfZone_65 hl (k := 1) rfl (iinc_nat _ 1) (by decide) rfl (fun ls hl => ?_)
        refine lv_goto (tgt := 29) hx hb dX1_meanOfZone_68 (by decide) ?_
        have e9 : zoX rw fx (fy + y) a (x + 1) = (zoX rw fx (fy + y) a x) + (rw (8 * (fy + y) + (fx + x))) := by simp only [zoX]; simp [e8]
        exact ih (x + 1) H locs ls (by omega) (by omega) hP hD hS (by rw [e9]; exact (lv_sub hl [1, 0, 2, 3, 4, 5] rfl))
set_option maxHeartbeats 4000000 in
set_option maxRecDepth 100000 in
theorem lX1_meanOfZone_y {p : Program} {l : Launch} {e : Env} {s : State} {m : MethodId} {args : Array Value} {below : List Frame} {meth : Method} {c : Code} {Q : State → Prop} {A : Nat → Prop} {H0 : Heap} {cells slots : Nat} (hx : p.tables.exec = Jvm.exec) (hb : c.code = cX1_meanOfZone) (hml : c.maxLocals = 7) (hr : meth.sig.returnType = (some .double)) (hts : ∀ w ∈ wsX1_meanOfZone, w.before args s = true) (hown : s.vm.findClass RX1 = some m.cls) {G : iG} (hK : KB G s) (hA : ∀ q, H0.size ≤ q → A q) {N : Nat} {ad : Nat → Nat} {C : Nat → va_E}  (hcc : cells ≤ rmX1_meanOfZone.cells) (hcs : slots ≤ rmX1_meanOfZone.slots) {fb fr fe : Nat} {t0 g0 q0 : Int32} {rw : Nat → Nat} (lfb : fb < N) (lfr : fr < N) (hfb : C fb = ob 1 [.ref (ad fr), .ref (ad fe), .int t0, .int g0, .int q0]) (hfr : C fr = ia G 64 (fun i => nI (rw i))) (hr9 : ∀ i, i < 64 → rw i ≤ 255) {fx fy : Nat} (hfx : fx ≤ 4) (hfy : fy ≤ 4) (kx : ∀ (H : Heap) (locs : List Loc) (ls : Array Slot), va_P G.1 vwB (wl N ad C) H → va_D A (wl N ad C) → va_S A H0 H locs → lv_has ls 7 [(4, .int (nI (zoY rw fx fy 4)))] → W p l e rmX1_meanOfZone s m args below meth c H locs cells slots Q (F0 m 77 ls [])) : ∀ (d : Nat) (y : Nat) (H : Heap) (locs : List Loc) (ls : Array Slot), 4 - y < d → y ≤ 4 → va_P G.1 vwB (wl N ad C) H → va_D A (wl N ad C) → va_S A H0 H locs → lv_has ls 7 [(4, .int (nI (zoY rw fx fy y))), (5, .int (nI (fy + y))), (0, .ref (ad fb)), (2, .int (nI fx)), (3, .int (nI fy))] → W p l e rmX1_meanOfZone s m args below meth c H locs cells slots Q (F0 m 18 ls []) := by
  intro d
  induction d with
  | zero => intro y H locs ls hd; exact absurd hd (Nat.not_lt_zero _)
  | succ d ih =>
    intro y H locs ls hd h2 hP hD hS hl
    refine lv_iload hx hb dX1_meanOfZone_18 (lv_at hl 1 rfl) ?_
    refine lv_iload_n hx hb dX1_meanOfZone_20 rfl (lv_at hl 4 rfl) ?_
    refine lv_iconst (v := nI 4) hx hb dX1_meanOfZone_21 (by decide) ?_
    refine lv_iadd hx hb dX1_meanOfZone_22 ?_
    refine lv_asI (y := nI (fy + 4)) (nI_add _ _) ?_
    refine lv_icmp_ge (tgt := 77) hx hb dX1_meanOfZone_23 (by decide) (fun c23 => ?_) (fun c23 => ?_)
    · have h5 : y = 4 := by have := (nI_leI (by omega) (by omega)).mp c23; omega
      subst h5
      exact kx H locs ls hP hD hS (lv_sub hl [0] rfl)
    · have h4 : y < 4 := by have := mt (nI_leI (by omega) (by omega)).mpr c23; omega
      refine lv_iload_n hx hb dX1_meanOfZone_26 rfl (lv_at hl 3 rfl) ?_
      refine lv_istore (lv' := [(6, .int (nI fx)), (4, .int (nI (zoY rw fx fy y))), (5, .int (nI (fy + y))), (0, .ref (ad fb)), (2, .int (nI fx)), (3, .int (nI fy))]) hx hb dX1_meanOfZone_27 hl (by decide) rfl (fun ls hl => ?_)
      refine lX1_meanOfZone_x hx hb hml hr hts hown hK hA hcc hcs lfb lfr hfb hfr hr9 hfx hfy h4 (fun H locs ls hP hD hS hl => ?_) 5 0 H locs ls (by omega) (by omega) hP hD hS (lv_sub hl [1, 0, 2, 3, 4, 5] rfl)
      refine lv_iinc (v := nI ((fy + y) + 1)) (lv' := [(5, .int (nI ((fy + y) + 1))), (4, .int (nI (zoX rw fx (fy + y) (zoY rw fx fy y) 4))), (0, .ref (ad fb)), (2, .int (nI fx)), (3, .int (nI fy))]) hx hb dX1_meanOfZone_71 hl (k := 1) rfl (iinc_nat _ 1) (by decide) rfl (fun ls hl => ?_)
      refine lv_goto (tgt := 18) hx hb dX1_meanOfZone_74 (by decide) ?_
      exact ih (y + 1) H locs ls (by omega) (by omega) hP hD hS (lv_sub hl [1, 0, 2, 3, 4] rfl)
set_option maxRecDepth 20000 in
theorem il_X1_meanOfZone_54 : (Cond.constantDouble RX1 54 (4620693217682128896)) ∈ wsX1_meanOfZone := by decide +kernel
set_option maxHeartbeats 4000000 in
set_option maxRecDepth 100000 in
theorem kX1_meanOfZone (l : Launch) (G : iG) (N : Nat) (ad : Nat → Nat) (C : Nat → va_E) {fb fr fe : Nat} {t0 g0 q0 : Int32} {rw : Nat → Nat} (lfb : fb < N) (lfr : fr < N) (hfb : C fb = ob 1 [.ref (ad fr), .ref (ad fe), .int t0, .int g0, .int q0]) (hfr : C fr = ia G 64 (fun i => nI (rw i))) (hr9 : ∀ i, i < 64 → rw i ≤ 255) (z : Nat) (hz4 : z < 4) (sz : Nat) : Met l yX1_meanOfZone wsX1_meanOfZone rmX1_meanOfZone (iPre G N ad C sz [.ref (ad fb), .int (nI z)]) (va_Qd (fun (r : UInt64) (u : Nat → va_E) => r = moF rw z ∧ u = C) (iB G N ad) (iA N ad sz)) 0 0 (iA N ad sz) := by
  refine Met.ofW (cc := cX1_meanOfZone) (maxL := 7) (ret := (some .double)) (by decide) rfl ?_
  intro p e s m args below meth c s₁ B hml hv
  obtain ⟨rfl, hsz, hP, hK, hD0⟩ := hv
  have hx := B.exec
  have hb := B.bytes
  have hr := B.returns
  have hts := atoms_spec (ws := wsX1_meanOfZone) B.pre
  have hown : s.vm.findClass RX1 = some m.cls := findClass_of_methodNamed B.named
  have hlocks := B.notSynchronized
  subst hsz
  have hD := wl_self hD0 s.heap.size
  have hA : ∀ q : Nat, s.heap.size ≤ q → iA N ad s.heap.size q := fun q h => Or.inr h
  have hS : va_S (iA N ad s.heap.size) s.heap s.heap [] := va_S.rf
  have hP : va_P G.1 vwB (wl N ad C) s.heap := hP
  have hl := lv_entry ([.ref (ad fb), .int (nI z)]) (n := 7) (Nat.le_of_ble_eq_true rfl)
  rw [lg_entry_eq]
  generalize (lg_sl ([.ref (ad fb), .int (nI z)]) ++ List.replicate (7 - (lg_sl ([.ref (ad fb), .int (nI z)])).length) Slot.unset).toArray = ls at hl ⊢
  have hl : lv_has ls 7 [(0, .ref (ad fb)), (1, .int (nI z))] := hl
  refine lv_iload_n hx hb dX1_meanOfZone_0 rfl (lv_at hl 1 rfl) ?_
  refine lv_iconst (v := nI 2) hx hb dX1_meanOfZone_1 (by decide) ?_
  refine lv_irem hx hb dX1_meanOfZone_2 (by decide) ?_
  refine lv_asI (y := nI (z % 2)) (pk_rem (by omega) (by omega) (by omega)) ?_
  refine lv_iconst (v := nI 4) hx hb dX1_meanOfZone_3 (by decide) ?_
  refine lv_imul hx hb dX1_meanOfZone_4 ?_
  refine lv_asI (y := nI ((z % 2) * 4)) (pk_mul _ _) ?_
  refine lv_istore_n (lv' := [(2, .int (nI ((z % 2) * 4))), (0, .ref (ad fb)), (1, .int (nI z))]) hx hb dX1_meanOfZone_5 rfl hl (by decide) rfl (fun ls hl => ?_)
  refine lv_iload_n hx hb dX1_meanOfZone_6 rfl (lv_at hl 2 rfl) ?_
  refine lv_iconst (v := nI 2) hx hb dX1_meanOfZone_7 (by decide) ?_
  refine lv_idiv hx hb dX1_meanOfZone_8 (by decide) ?_
  refine lv_asI (y := nI (z / 2)) (pk_div (by omega) (by omega) (by omega)) ?_
  refine lv_iconst (v := nI 4) hx hb dX1_meanOfZone_9 (by decide) ?_
  refine lv_imul hx hb dX1_meanOfZone_10 ?_
  refine lv_asI (y := nI ((z / 2) * 4)) (pk_mul _ _) ?_
  refine lv_istore_n (lv' := [(3, .int (nI ((z / 2) * 4))), (2, .int (nI ((z % 2) * 4))), (0, .ref (ad fb)), (1, .int (nI z))]) hx hb dX1_meanOfZone_11 rfl hl (by decide) rfl (fun ls hl => ?_)
  refine lv_iconst (v := nI 0) hx hb dX1_meanOfZone_12 (by decide) ?_
  refine lv_istore (lv' := [(4, .int (nI 0)), (3, .int (nI ((z / 2) * 4))), (2, .int (nI ((z % 2) * 4))), (0, .ref (ad fb)), (1, .int (nI z))]) hx hb dX1_meanOfZone_13 hl (by decide) rfl (fun ls hl => ?_)
  refine lv_iload_n hx hb dX1_meanOfZone_15 rfl (lv_at hl 1 rfl) ?_
  refine lv_istore (lv' := [(5, .int (nI ((z / 2) * 4))), (4, .int (nI 0)), (3, .int (nI ((z / 2) * 4))), (2, .int (nI ((z % 2) * 4))), (0, .ref (ad fb)), (1, .int (nI z))]) hx hb dX1_meanOfZone_16 hl (by decide) rfl (fun ls hl => ?_)
  refine lX1_meanOfZone_y hx hb hml hr hts hown hK hA (Nat.le_refl _) (Nat.le_refl _) lfb lfr hfb hfr hr9 (fx := z % 2 * 4) (fy := z / 2 * 4) (by omega) (by omega) (fun H locs ls hP hD hS hl => ?_) 5 0 _ _ ls (by omega) (by omega) hP hD hS (lv_sub hl [1, 0, 4, 3, 2] rfl)
  refine lv_iload hx hb dX1_meanOfZone_77 (lv_at hl 0 rfl) ?_
  refine lv_i2d hx hb dX1_meanOfZone_79 ?_
  refine lv_ldc2d hx hb hown (hts _ il_X1_meanOfZone_54) dX1_meanOfZone_80 ?_
  refine lv_ddiv hx hb dX1_meanOfZone_83 (fin64_n (moF_fin rw z)) ?_
  exact W.dret (v := (FP.ddiv (FP.i2d (nI (zoN rw z))) (4620693217682128896))) hx hb hr (fun t ht hW => ⟨⟨_, _, rfl, ⟨rfl, rfl⟩, iB_of ht hP⟩, hS.F ht⟩) hS.2.2 dX1_meanOfZone_84
abbrev rmX1_meanOfZones : Room := { frames := 2, cells := 0, slots := 0, locals := 47 }
set_option maxRecDepth 20000 in
theorem il_X1_meanOfZones_60 : (Cond.constantDouble RX1 60 (4616189618054758400)) ∈ wsX1_meanOfZones := by decide +kernel
set_option maxHeartbeats 4000000 in
set_option maxRecDepth 100000 in
theorem kX1_meanOfZones (l : Launch) (G : iG) (N : Nat) (ad : Nat → Nat) (C : Nat → va_E) {fb fr fe : Nat} {t0 g0 q0 : Int32} {rw : Nat → Nat} (lfb : fb < N) (lfr : fr < N) (hfb : C fb = ob 1 [.ref (ad fr), .ref (ad fe), .int t0, .int g0, .int q0]) (hfr : C fr = ia G 64 (fun i => nI (rw i))) (hr9 : ∀ i, i < 64 → rw i ≤ 255) (sz : Nat) : Met l yX1_meanOfZones wsX1_meanOfZones rmX1_meanOfZones (iPre G N ad C sz [.ref (ad fb)]) (va_Qd (fun (r : UInt64) (u : Nat → va_E) => r = meF rw ∧ u = C) (iB G N ad) (iA N ad sz)) 0 0 (iA N ad sz) := by
  refine Met.ofW (cc := cX1_meanOfZones) (maxL := 4) (ret := (some .double)) (by decide) rfl ?_
  intro p e s m args below meth c s₁ B hml hv
  obtain ⟨rfl, hsz, hP, hK, hD0⟩ := hv
  have hx := B.exec
  have hb := B.bytes
  have hr := B.returns
  have hts := atoms_spec (ws := wsX1_meanOfZones) B.pre
  have hown : s.vm.findClass RX1 = some m.cls := findClass_of_methodNamed B.named
  have hlocks := B.notSynchronized
  subst hsz
  have hD := wl_self hD0 s.heap.size
  have hA : ∀ q : Nat, s.heap.size ≤ q → iA N ad s.heap.size q := fun q h => Or.inr h
  have hS : va_S (iA N ad s.heap.size) s.heap s.heap [] := va_S.rf
  have hP : va_P G.1 vwB (wl N ad C) s.heap := hP
  have hl := lv_entry ([.ref (ad fb)]) (n := 4) (Nat.le_of_ble_eq_true rfl)
  rw [lg_entry_eq]
  generalize (lg_sl ([.ref (ad fb)]) ++ List.replicate (4 - (lg_sl ([.ref (ad fb)])).length) Slot.unset).toArray = ls at hl ⊢
  have hl : lv_has ls 4 [(0, .ref (ad fb))] := hl
  refine lv_dconst0 hx hb dX1_meanOfZones_0 ?_
  refine lv_dstore_n (lv' := [(1, .double FP.dconst0), (0, .ref (ad fb))]) hx hb dX1_meanOfZones_1 rfl hl (by decide) rfl (fun ls hl => ?_)
  refine lv_iconst (v := nI 0) hx hb dX1_meanOfZones_2 (by decide) ?_
  refine lv_istore_n (lv' := [(3, .int (nI 0)), (1, .double FP.dconst0), (0, .ref (ad fb))]) hx hb dX1_meanOfZones_3 rfl hl (by decide) rfl (fun ls hl => ?_)
  refine lv_iload_n hx hb dX1_meanOfZones_4 rfl (lv_at hl 0 rfl) ?_
  refine lv_iconst (v := nI 4) hx hb dX1_meanOfZones_5 (by decide) ?_
  refine lv_icmp_ge (tgt := 23) hx hb dX1_meanOfZones_6 (by decide) (fun c9 => absurd c9 (by decide)) (fun _ => ?_)
  refine lv_dload_n hx hb dX1_meanOfZones_9 rfl (lv_at hl 1 rfl) ?_
  refine lv_aload_n hx hb dX1_meanOfZones_10 rfl (lv_at hl 2 rfl) ?_
  refine lv_iload_n hx hb dX1_meanOfZones_11 rfl (lv_at hl 0 rfl) ?_
  refine iw_d (va_runV (As := [.int (nI 0)]) (rest := [.double FP.dconst0]) ⟨hx, hb, hml, hown, hts⟩ (kX1_meanOfZone l G N ad C lfb lfr hfb hfr hr9 0 (by omega) _) (cwV 1 hts gX1_meanOfZones_X1_meanOfZone rfl rfl rfl (by decide +kernel) ⟨Nat.le_of_ble_eq_true rfl, Nat.le_of_ble_eq_true rfl⟩) (iPV hK hP hD lfb (hfb) rfl [.int (nI 0)]) rfl rfl hl.1 rfl (lv_room (Nat.le_of_ble_eq_true rfl)) dX1_meanOfZones_12 ⟨Nat.le_of_ble_eq_true rfl, Nat.le_of_ble_eq_true rfl⟩) hD hS hA (fun r8 u8 H locs hw8 hP hD hS => ?_)
  obtain ⟨hr8, hu8⟩ := hw8
  refine lv_asD hr8 ?_
  rw [hu8] at hP hD
  refine lv_dadd hx hb dX1_meanOfZones_15 (me1_n rw) ?_
  refine lv_dstore_n (lv' := [(1, .double (FP.dadd FP.dconst0 (moF rw 0))), (3, .int (nI 0)), (0, .ref (ad fb))]) hx hb dX1_meanOfZones_16 rfl hl (by decide) rfl (fun ls hl => ?_)
  refine lv_iinc (v := nI 1) (lv' := [(3, .int (nI 1)), (1, .double (FP.dadd FP.dconst0 (moF rw 0))), (0, .ref (ad fb))]) hx hb dX1_meanOfZones_17 hl (k := 1) rfl (iinc_nat _ 1) (by decide) rfl (fun ls hl => ?_)
  refine lv_goto (tgt := 4) hx hb dX1_meanOfZones_20 (by decide) ?_
  refine lv_iload_n hx hb dX1_meanOfZones_4 rfl (lv_at hl 0 rfl) ?_
  refine lv_iconst (v := nI 4) hx hb dX1_meanOfZones_5 (by decide) ?_
  refine lv_icmp_ge (tgt := 23) hx hb dX1_meanOfZones_6 (by decide) (fun c9 => absurd c9 (by decide)) (fun _ => ?_)
  refine lv_dload_n hx hb dX1_meanOfZones_9 rfl (lv_at hl 1 rfl) ?_
  refine lv_aload_n hx hb dX1_meanOfZones_10 rfl (lv_at hl 2 rfl) ?_
  refine lv_iload_n hx hb dX1_meanOfZones_11 rfl (lv_at hl 0 rfl) ?_
  refine iw_d (va_runV (As := [.int (nI 1)]) (rest := [.double (FP.dadd FP.dconst0 (moF rw 0))]) ⟨hx, hb, hml, hown, hts⟩ (kX1_meanOfZone l G N ad C lfb lfr hfb hfr hr9 1 (by omega) _) (cwV 1 hts gX1_meanOfZones_X1_meanOfZone rfl rfl rfl (by decide +kernel) ⟨Nat.le_of_ble_eq_true rfl, Nat.le_of_ble_eq_true rfl⟩) (iPV hK hP hD lfb (hfb) rfl [.int (nI 1)]) rfl rfl hl.1 rfl (lv_room (Nat.le_of_ble_eq_true rfl)) dX1_meanOfZones_12 ⟨Nat.le_of_ble_eq_true rfl, Nat.le_of_ble_eq_true rfl⟩) hD hS hA (fun r8 u8 H locs hw8 hP hD hS => ?_)
  obtain ⟨hr8, hu8⟩ := hw8
  refine lv_asD hr8 ?_
  rw [hu8] at hP hD
  refine lv_dadd hx hb dX1_meanOfZones_15 (me2_n rw) ?_
  refine lv_dstore_n (lv' := [(1, .double (FP.dadd (FP.dadd FP.dconst0 (moF rw 0)) (moF rw 1))), (3, .int (nI 1)), (0, .ref (ad fb))]) hx hb dX1_meanOfZones_16 rfl hl (by decide) rfl (fun ls hl => ?_)
  refine lv_iinc (v := nI 2) (lv' := [(3, .int (nI 2)), (1, .double (FP.dadd (FP.dadd FP.dconst0 (moF rw 0)) (moF rw 1))), (0, .ref (ad fb))]) hx hb dX1_meanOfZones_17 hl (k := 1) rfl (iinc_nat _ 1) (by decide) rfl (fun ls hl => ?_)
  refine lv_goto (tgt := 4) hx hb dX1_meanOfZones_20 (by decide) ?_
  refine lv_iload_n hx hb dX1_meanOfZones_4 rfl (lv_at hl 0 rfl) ?_
  refine lv_iconst (v := nI 4) hx hb dX1_meanOfZones_5 (by decide) ?_
  refine lv_icmp_ge (tgt := 23) hx hb dX1_meanOfZones_6 (by decide) (fun c9 => absurd c9 (by decide)) (fun _ => ?_)
  refine lv_dload_n hx hb dX1_meanOfZones_9 rfl (lv_at hl 1 rfl) ?_
  refine lv_aload_n hx hb dX1_meanOfZones_10 rfl (lv_at hl 2 rfl) ?_
  refine lv_iload_n hx hb dX1_meanOfZones_11 rfl (lv_at hl 0 rfl) ?_
  refine iw_d (va_runV (As := [.int (nI 2)]) (rest := [.double (FP.dadd (FP.dadd FP.dconst0 (moF rw 0)) (moF rw 1))]) ⟨hx, hb, hml, hown, hts⟩ (kX1_meanOfZone l G N ad C lfb lfr hfb hfr hr9 2 (by omega) _) (cwV 1 hts gX1_meanOfZones_X1_meanOfZone rfl rfl rfl (by decide +kernel) ⟨Nat.le_of_ble_eq_true rfl, Nat.le_of_ble_eq_true rfl⟩) (iPV hK hP hD lfb (hfb) rfl [.int (nI 2)]) rfl rfl hl.1 rfl (lv_room (Nat.le_of_ble_eq_true rfl)) dX1_meanOfZones_12 ⟨Nat.le_of_ble_eq_true rfl, Nat.le_of_ble_eq_true rfl⟩) hD hS hA (fun r8 u8 H locs hw8 hP hD hS => ?_)
  obtain ⟨hr8, hu8⟩ := hw8
  refine lv_asD hr8 ?_
  rw [hu8] at hP hD
  refine lv_dadd hx hb dX1_meanOfZones_15 (me3_n rw) ?_
  refine lv_dstore_n (lv' := [(1, .double (FP.dadd (FP.dadd (FP.dadd FP.dconst0 (moF rw 0)) (moF rw 1)) (moF rw 2))), (3, .int (nI 2)), (0, .ref (ad fb))]) hx hb dX1_meanOfZones_16 rfl hl (by decide) rfl (fun ls hl => ?_)
  refine lv_iinc (v := nI 3) (lv' := [(3, .int (nI 3)), (1, .double (FP.dadd (FP.dadd (FP.dadd FP.dconst0 (moF rw 0)) (moF rw 1)) (moF rw 2))), (0, .ref (ad fb))]) hx hb dX1_meanOfZones_17 hl (k := 1) rfl (iinc_nat _ 1) (by decide) rfl (fun ls hl => ?_)
  refine lv_goto (tgt := 4) hx hb dX1_meanOfZones_20 (by decide) ?_
  refine lv_iload_n hx hb dX1_meanOfZones_4 rfl (lv_at hl 0 rfl) ?_
  refine lv_iconst (v := nI 4) hx hb dX1_meanOfZones_5 (by decide) ?_
  refine lv_icmp_ge (tgt := 23) hx hb dX1_meanOfZones_6 (by decide) (fun c9 => absurd c9 (by decide)) (fun _ => ?_)
  refine lv_dload_n hx hb dX1_meanOfZones_9 rfl (lv_at hl 1 rfl) ?_
  refine lv_aload_n hx hb dX1_meanOfZones_10 rfl (lv_at hl 2 rfl) ?_
  refine lv_iload_n hx hb dX1_meanOfZones_11 rfl (lv_at hl 0 rfl) ?_
  refine iw_d (va_runV (As := [.int (nI 3)]) (rest := [.double (FP.dadd (FP.dadd (FP.dadd FP.dconst0 (moF rw 0)) (moF rw 1)) (moF rw 2))]) ⟨hx, hb, hml, hown, hts⟩ (kX1_meanOfZone l G N ad C lfb lfr hfb hfr hr9 3 (by omega) _) (cwV 1 hts gX1_meanOfZones_X1_meanOfZone rfl rfl rfl (by decide +kernel) ⟨Nat.le_of_ble_eq_true rfl, Nat.le_of_ble_eq_true rfl⟩) (iPV hK hP hD lfb (hfb) rfl [.int (nI 3)]) rfl rfl hl.1 rfl (lv_room (Nat.le_of_ble_eq_true rfl)) dX1_meanOfZones_12 ⟨Nat.le_of_ble_eq_true rfl, Nat.le_of_ble_eq_true rfl⟩) hD hS hA (fun r8 u8 H locs hw8 hP hD hS => ?_)
  obtain ⟨hr8, hu8⟩ := hw8
  refine lv_asD hr8 ?_
  rw [hu8] at hP hD
  refine lv_dadd hx hb dX1_meanOfZones_15 (me4_n rw) ?_
  refine lv_dstore_n (lv' := [(1, .double (FP.dadd (FP.dadd (FP.dadd (FP.dadd FP.dconst0 (moF rw 0)) (moF rw 1)) (moF rw 2)) (moF rw 3))), (3, .int (nI 3)), (0, .ref (ad fb))]) hx hb dX1_meanOfZones_16 rfl hl (by decide) rfl (fun ls hl => ?_)
  refine lv_iinc (v := nI 4) (lv' := [(3, .int (nI 4)), (1, .double (FP.dadd (FP.dadd (FP.dadd (FP.dadd FP.dconst0 (moF rw 0)) (moF rw 1)) (moF rw 2)) (moF rw 3))), (0, .ref (ad fb))]) hx hb dX1_meanOfZones_17 hl (k := 1) rfl (iinc_nat _ 1) (by decide) rfl (fun ls hl => ?_)
  refine lv_goto (tgt := 4) hx hb dX1_meanOfZones_20 (by decide) ?_
  refine lv_iload_n hx hb dX1_meanOfZones_4 rfl (lv_at hl 0 rfl) ?_
  refine lv_iconst (v := nI 4) hx hb dX1_meanOfZones_5 (by decide) ?_
  refine lv_icmp_ge (tgt := 23) hx hb dX1_meanOfZones_6 (by decide) (fun _ => ?_) (fun c9 => absurd (by decide) c9)
  refine lv_dload_n hx hb dX1_meanOfZones_23 rfl (lv_at hl 1 rfl) ?_
  refine lv_ldc2d hx hb hown (hts _ il_X1_meanOfZones_60) dX1_meanOfZones_24 ?_
  refine lv_ddiv hx hb dX1_meanOfZones_27 (meF_n rw) ?_
  exact W.dret (v := (FP.ddiv (FP.dadd (FP.dadd (FP.dadd (FP.dadd FP.dconst0 (moF rw 0)) (moF rw 1)) (moF rw 2)) (moF rw 3)) (4616189618054758400))) hx hb hr (fun t ht hW => ⟨⟨_, _, rfl, ⟨rfl, rfl⟩, iB_of ht hP⟩, hS.F ht⟩) hS.2.2 dX1_meanOfZones_28
