set_option maxRecDepth 20000 in
theorem ggX2_mendAll_X6_placeOf : GoodIn wsX2_mendAll wsX6_placeOf := goodIn_r _ [4] (by decide +kernel) (by decide +kernel)
set_option maxRecDepth 20000 in
theorem gX2_mendAll_X6_placeOf_n54 : GoodIn wsX2_mendAll (wsX6_placeOf) := ggX2_mendAll_X6_placeOf
set_option maxRecDepth 20000 in
theorem ggX2_mendAll_X2_mendedAt : GoodIn wsX2_mendAll wsX2_mendedAt := goodIn_r _ [8, 9, 3, 10, 2, 4] (by decide +kernel) (by decide +kernel)
set_option maxRecDepth 20000 in
theorem gX2_mendAll_X2_mendedAt : GoodIn wsX2_mendAll (va_wsS RX2 57 yX2_mendedAt wsX2_mendedAt) := goodIn_app (goodIn_of _ (by decide +kernel)) ggX2_mendAll_X2_mendedAt
set_option maxRecDepth 20000 in
theorem ggX2_meanAround_X6_isPlace : GoodIn wsX2_meanAround wsX6_isPlace := goodIn_r _ [4] (by decide +kernel) (by decide +kernel)
set_option maxRecDepth 20000 in
theorem gX2_meanAround_X6_isPlace_n61 : GoodIn wsX2_meanAround (wsX6_isPlace) := ggX2_meanAround_X6_isPlace
set_option maxRecDepth 20000 in
theorem ggX2_meanAround_X6_colourSeen : GoodIn wsX2_meanAround wsX6_colourSeen := goodIn_r _ [6] (by decide +kernel) (by decide +kernel)
set_option maxRecDepth 20000 in
theorem gX2_meanAround_X6_colourSeen_n65 : GoodIn wsX2_meanAround (wsX6_colourSeen) := ggX2_meanAround_X6_colourSeen
set_option maxRecDepth 20000 in
theorem ggX2_meanAround_X6_placeOf : GoodIn wsX2_meanAround wsX6_placeOf := goodIn_r _ [8] (by decide +kernel) (by decide +kernel)
set_option maxRecDepth 20000 in
theorem gX2_meanAround_X6_placeOf_n54 : GoodIn wsX2_meanAround (wsX6_placeOf) := ggX2_meanAround_X6_placeOf
/-- around a place: a row of three, three rows -/
def arX (md : Nat → Nat) (x y k j a : Nat) : Nat → Nat
  | 0 => a
  | i + 1 => arX md x y k j a i + if (1 ≤ x + i ∧ x + i ≤ 8 ∧ 1 ≤ y + j ∧ y + j ≤ 8) ∧ colN (x + i - 1) (y + j - 1) = k then md (8 * (y + j - 1) + (x + i - 1)) else 0
def arY (md : Nat → Nat) (x y k : Nat) : Nat → Nat
  | 0 => 0
  | j + 1 => arX md x y k j (arY md x y k j) 3
theorem arX_le (md : Nat → Nat) (m : Nat) (hm : ∀ i, i < 64 → md i ≤ m) (x y k j a : Nat) : ∀ n, arX md x y k j a n ≤ a + m * n
  | 0 => Nat.le_refl _
  | n + 1 => by
    have h1 := arX_le md m hm x y k j a n
    unfold arX
    split
    · rename_i h
      have := hm (8 * (y + j - 1) + (x + n - 1)) (by omega)
      rw [Nat.mul_add]
      omega
    · rw [Nat.mul_add]
      omega
theorem arY_le (md : Nat → Nat) (m : Nat) (hm : ∀ i, i < 64 → md i ≤ m) (x y k : Nat) : ∀ n, arY md x y k n ≤ m * 3 * n
  | 0 => Nat.le_refl _
  | n + 1 => by
    have h1 := arY_le md m hm x y k n
    have h2 := arX_le md m hm x y k n (arY md x y k n) 3
    unfold arY
    rw [Nat.mul_add]
    omega
/-- the mean around a place -/
def arF (md : Nat → Nat) (x y k : Nat) : UInt32 := if arY (fun _ => 1) x y k 3 = 0 then FP.fconst0 else FP.fdiv (FP.i2f (nI (arY md x y k 3))) (FP.i2f (nI (arY (fun _ => 1) x y k 3)))
/-- a number of the picture ahead of the edits -/
def whF (md : Nat → Nat) (i : Nat) : UInt32 := if i % 3 = colN (i / 3 % 8) (i / 3 / 8) then FP.i2f (nI (md (i / 3))) else arF md (i / 3 % 8) (i / 3 / 8) (i % 3)
theorem arF_n (md : Nat → Nat) (x y k : Nat) : vf_n32 (arF md x y k) := by
  unfold arF
  split
  · exact fin32_n f0_ok
  · rename_i h
    have := arY_le (fun _ => 1) 1 (fun _ _ => Nat.le_refl _) x y k 3
    exact fdiv_nz (fin32_n (i2f_fin32 _)) (i2f_nz (by omega) (by omega))
theorem whF_n (md : Nat → Nat) (i : Nat) : vf_n32 (whF md i) := by
  unfold whF
  split
  · exact fin32_n (i2f_fin32 _)
  · exact arF_n md _ _ _
theorem cmp_gt {a : Nat} (ha : a < 8) {j : Nat} (hj : j < 4) : nI (a + 1) < nI (a + j) - nI 1 ↔ j = 3 := by
  rw [Int32.lt_iff_toInt_lt, pk_sub_toInt (by omega) (by omega), nI_toInt (by omega)]
  omega
theorem inc_m1 (a : Nat) : nI a - nI 1 + Int32.ofInt 1 = nI (a + 1) - nI 1 := by
  have e : Int32.ofInt 1 = nI 1 := rfl
  rw [e, ← nI_add a 1, Int32.sub_eq_add_neg, Int32.sub_eq_add_neg, Int32.add_assoc, Int32.add_assoc, Int32.add_comm (-nI 1) (nI 1)]
theorem isPl_m1 {a b : Nat} (ha : a < 11) (hb : b < 11) : isPl (nI a - nI 1) (nI b - nI 1) = decide (1 ≤ a ∧ a ≤ 8 ∧ 1 ≤ b ∧ b ≤ 8) := by
  have e1 : (nI a - nI 1 < 0) ↔ a < 1 := by
    rw [Int32.lt_iff_toInt_lt, pk_sub_toInt (by omega) (by omega)]
    show (a : Int) - (1 : Nat) < 0 ↔ _
    omega
  have e2 : (nI b - nI 1 < 0) ↔ b < 1 := by
    rw [Int32.lt_iff_toInt_lt, pk_sub_toInt (by omega) (by omega)]
    show (b : Int) - (1 : Nat) < 0 ↔ _
    omega
  have e3 : (nI 8 ≤ nI a - nI 1) ↔ 9 ≤ a := by
    rw [Int32.le_iff_toInt_le, pk_sub_toInt (by omega) (by omega), nI_toInt (by omega)]
    omega
  have e4 : (nI 8 ≤ nI b - nI 1) ↔ 9 ≤ b := by
    rw [Int32.le_iff_toInt_le, pk_sub_toInt (by omega) (by omega), nI_toInt (by omega)]
    omega
  unfold isPl
  simp only [e1, e2, e3, e4]
  rw [Bool.eq_iff_iff]
  simp only [Bool.and_eq_true, Bool.not_eq_true', decide_eq_false_iff_not, decide_eq_true_eq]
  omega
abbrev rmX2_mendAll : Room := { frames := 2, cells := 0, slots := 0, locals := 50 }
set_option maxRecDepth 20000 in
theorem il_X2_mendAll_iniX6 : (Cond.initialized RX6) ∈ wsX2_mendAll := by decide +kernel
set_option maxRecDepth 20000 in
theorem il_X2_mendAll_st_X6_placeOf : (Cond.static yX6_placeOf) ∈ wsX2_mendAll := by decide +kernel
set_option maxRecDepth 20000 in
theorem iu_X2_mendAll_2 : ∀ w ∈ u_ws RX2 TX2 2, w ∈ wsX2_mendAll := by decide +kernel
set_option maxRecDepth 20000 in
theorem il_X2_mendAll_15 : (Cond.fieldLink RX2 15 "BayerGate$Picture" "mended" "[I") ∈ wsX2_mendAll := by decide +kernel
set_option maxHeartbeats 4000000 in
set_option maxRecDepth 100000 in
theorem lX2_mendAll_x {p : Program} {l : Launch} {e : Env} {s : State} {m : MethodId} {args : Array Value} {below : List Frame} {meth : Method} {c : Code} {Q : State → Prop} {A : Nat → Prop} {H0 : Heap} {cells slots : Nat} (hx : p.tables.exec = Jvm.exec) (hb : c.code = cX2_mendAll) (hml : c.maxLocals = 8) (hr : meth.sig.returnType = none) (hts : ∀ w ∈ wsX2_mendAll, w.before args s = true) (hown : s.vm.findClass RX2 = some m.cls) {G : iG} (hK : KB G s) (hA : ∀ q, H0.size ≤ q → A q) {N : Nat} {ad : Nat → Nat} {C : Nat → va_E}  (hcc : cells ≤ rmX2_mendAll.cells) (hcs : slots ≤ rmX2_mendAll.slots) {pb pn pm : Nat} {nu : Nat → UInt32} {md : Nat → Nat} (lpb : pb < N) (lpn : pn < N) (lpm : pm < N) (hpb : C pb = ob 2 [.ref (ad pn), .ref (ad pm)]) (hpn : C pn = fa G 192 nu) (hpm : C pm = ia G 64 (fun i => nI (md i))) {ri mi : Nat} {rw : Nat → Nat} {mp : Nat → Bool} (lri : ri < N) (lmi : mi < N) (hri : C ri = ia G 64 (fun i => nI (rw i))) (hmi : C mi = za G 64 (bI mp)) (hr9 : ∀ i, i < 64 → rw i ≤ 255) (dpr : pm ≠ ri) (dpi : pm ≠ mi) {b1 : Bool} {y : Nat} (hy8 : y < 8) (kx : ∀ (H : Heap) (locs : List Loc) (ls : Array Slot), va_P G.1 vwB (wl N ad (va_up C pm (ia G 64 (fun i => nI (flI (mmN rw mp b1) md (8 * y + 8) i))))) H → va_D A (wl N ad (va_up C pm (ia G 64 (fun i => nI (flI (mmN rw mp b1) md (8 * y + 8) i))))) → va_S A H0 H locs → lv_has ls 8 [(4, .int (nI y)), (0, .ref (ad pb)), (1, .ref (ad ri)), (2, .ref (ad mi)), (3, .int (if b1 then nI 1 else nI 0))] → W p l e rmX2_mendAll s m args below meth c H locs cells slots Q (F0 m 81 ls [])) : ∀ (d : Nat) (x : Nat) (H : Heap) (locs : List Loc) (ls : Array Slot), 8 - x < d → x ≤ 8 → va_P G.1 vwB (wl N ad (va_up C pm (ia G 64 (fun i => nI (flI (mmN rw mp b1) md (8 * y + x) i))))) H → va_D A (wl N ad (va_up C pm (ia G 64 (fun i => nI (flI (mmN rw mp b1) md (8 * y + x) i))))) → va_S A H0 H locs → lv_has ls 8 [(5, .int (nI x)), (4, .int (nI y)), (0, .ref (ad pb)), (1, .ref (ad ri)), (2, .ref (ad mi)), (3, .int (if b1 then nI 1 else nI 0))] → W p l e rmX2_mendAll s m args below meth c H locs cells slots Q (F0 m 13 ls []) := by
  intro d
  induction d with
  | zero => intro x H locs ls hd; exact absurd hd (Nat.not_lt_zero _)
  | succ d ih =>
    intro x H locs ls hd h2 hP hD hS hl
    have n_pb_pn : pb ≠ pn := fun h => by rw [h, hpn] at hpb; simp at hpb
    have n_pb_pm : pb ≠ pm := fun h => by rw [h, hpm] at hpb; simp at hpb
    have n_pn_pm : pn ≠ pm := fun h => by rw [h, hpm] at hpn; simp at hpn
    refine lv_iload hx hb dX2_mendAll_13 (lv_at hl 0 rfl) ?_
    refine lv_bipush (v := nI 8) hx hb dX2_mendAll_15 (by decide) ?_
    refine lv_icmp_ge (tgt := 81) hx hb dX2_mendAll_17 (by decide) (fun c17 => ?_) (fun c17 => ?_)
    · have h5 : x = 8 := by have := (nI_leI (by omega) (by omega)).mp c17; omega
      subst h5
      exact kx H locs ls hP hD hS (lv_sub hl [1, 2, 3, 4, 5] rfl)
    · have h4 : x < 8 := by have := mt (nI_leI (by omega) (by omega)).mpr c17; omega
      refine lv_iload hx hb dX2_mendAll_20 (lv_at hl 0 rfl) ?_
      refine lv_iload hx hb dX2_mendAll_22 (lv_at hl 1 rfl) ?_
      refine iw_pi (va_runSN (As := [.int (nI x), .int (nI y)]) (rest := []) ⟨hx, hb, hml, hown, hts⟩ (kX6_placeOf l x y) ⟨va_cnB (host := RX6) 2 hts gX2_mendAll_X6_placeOf_n54 rfl rfl rfl (nw_RX2_54 hK.2) (hts _ il_X2_mendAll_iniX6) (by decide +kernel) ⟨Nat.le_of_ble_eq_true rfl, Nat.le_of_ble_eq_true rfl⟩, (hts _ il_X2_mendAll_st_X6_placeOf), trivial⟩ ⟨fun a U g mk q => q, fun U hU hW => ⟨rfl, trivial⟩⟩ rfl rfl hl.1 rfl (lv_room (Nat.le_of_ble_eq_true rfl)) dX2_mendAll_24 ⟨hcc, hcs⟩) hP hS (fun r8 u8 H locs hw8 hP hS => ?_)
      refine lv_asI hw8 ?_
      refine lv_istore (lv' := [(6, .int (nI (8 * y + x))), (5, .int (nI x)), (4, .int (nI y)), (0, .ref (ad pb)), (1, .ref (ad ri)), (2, .ref (ad mi)), (3, .int (if b1 then nI 1 else nI 0))]) hx hb dX2_mendAll_27 hl (by decide) rfl (fun ls hl => ?_)
      refine lv_iload_n hx hb dX2_mendAll_29 rfl (lv_at hl 6 rfl) ?_
      refine lv_if_eq (tgt := 44) hx hb dX2_mendAll_30 (by decide) (fun c30 => ?_) (fun c30 => ?_)
      · have e7 : b1 = false := by cases hq9 : b1 <;> simp [hq9, nI] at c30 ⊢
        refine lv_iconst (v := nI 0) hx hb dX2_mendAll_44 (by decide) ?_
        refine lv_istore (lv' := [(7, .int (nI 0)), (6, .int (nI (8 * y + x))), (5, .int (nI x)), (4, .int (nI y)), (0, .ref (ad pb)), (1, .ref (ad ri)), (2, .ref (ad mi)), (3, .int (if b1 then nI 1 else nI 0))]) hx hb dX2_mendAll_45 hl (by decide) rfl (fun ls hl => ?_)
        refine lv_aload_n hx hb dX2_mendAll_47 rfl (lv_at hl 4 rfl) ?_
        refine iw_get hx hb hts iu_X2_mendAll_2 hown hK hP lpb ((va_un _ _ n_pb_pm).trans (hpb)) rfl 1 (by decide) (hts _ il_X2_mendAll_15) (fun _ h9 => h9) rfl dX2_mendAll_48 ?_
        refine lv_iload hx hb dX2_mendAll_51 (lv_at hl 1 rfl) ?_
        refine lv_iload hx hb dX2_mendAll_53 (lv_at hl 0 rfl) ?_
        refine lv_if_eq (tgt := 70) hx hb dX2_mendAll_55 (by decide) (fun _ => ?_) (fun c9 => absurd (by decide) c9)
        refine lv_aload_n hx hb dX2_mendAll_70 rfl (lv_at hl 5 rfl) ?_
        refine lv_iload hx hb dX2_mendAll_71 (lv_at hl 1 rfl) ?_
        refine iw_iald (v := nI (rw (8 * y + x))) hx hb hK hP lri ((va_un _ _ (Ne.symm dpr)).trans (hri)) (vp_in_nI (show 8 * y + x < 64 by omega) (by omega)) (congrArg (fun i => nI (rw i)) (nI_clamp (by omega))) dX2_mendAll_73 ?_
        refine lv_asI (y := nI (mmN rw mp b1 (8 * y + x))) (by unfold mmN; rw [show (8 * y + x) % 8 = x by omega, show (8 * y + x) / 8 = y by omega]; rw [if_neg (fun h => by rw [e7] at h; cases h.1)]) ?_
        refine iw_iast hx hb hK hP hD hS lpm (va_us _ _ _) (vp_in_nI (show 8 * y + x < 64 by omega) (by omega)) (nI_clamp (by omega)) dX2_mendAll_74 (fun H locs hP hD hS => ?_)
        rw [va_uu _ _ _ _] at hP hD
        refine lv_iinc (v := nI (x + 1)) (lv' := [(5, .int (nI (x + 1))), (7, .int (nI 0)), (6, .int (nI (8 * y + x))), (4, .int (nI y)), (0, .ref (ad pb)), (1, .ref (ad ri)), (2, .ref (ad mi)), (3, .int (if b1 then nI 1 else nI 0))]) hx hb dX2_mendAll_75 hl (k := 2) rfl (iinc_nat _ 1) (by decide) rfl (fun ls hl => ?_)
        refine lv_goto (tgt := 13) hx hb dX2_mendAll_78 (by decide) ?_
        rw [flI_n] at hP hD
        exact ih (x + 1) H locs ls (by omega) (by omega) hP hD hS (lv_sub hl [0, 3, 4, 5, 6, 7] rfl)
      · have e7 : b1 = true := by cases hq9 : b1 <;> simp [hq9, nI] at c30 ⊢
        refine lv_aload_n hx hb dX2_mendAll_33 rfl (lv_at hl 5 rfl) ?_
        refine lv_iload hx hb dX2_mendAll_34 (lv_at hl 0 rfl) ?_
        refine iw_zald (v := (bI mp) (8 * y + x)) hx hb hK hP lmi ((va_un _ _ (Ne.symm dpi)).trans (hmi)) (vp_in_nI (show 8 * y + x < 64 by omega) (by omega)) (congrArg (bI mp) (nI_clamp (by omega))) dX2_mendAll_36 ?_
        refine lv_if_eq (tgt := 44) hx hb dX2_mendAll_37 (by decide) (fun c37 => ?_) (fun c37 => ?_)
        · have e8 : mp (8 * y + x) = false := by cases hq9 : mp (8 * y + x) <;> simp [bI, hq9, nI] at c37 ⊢
          refine lv_iconst (v := nI 0) hx hb dX2_mendAll_44 (by decide) ?_
          refine lv_istore (lv' := [(7, .int (nI 0)), (6, .int (nI (8 * y + x))), (5, .int (nI x)), (4, .int (nI y)), (0, .ref (ad pb)), (1, .ref (ad ri)), (2, .ref (ad mi)), (3, .int (if b1 then nI 1 else nI 0))]) hx hb dX2_mendAll_45 hl (by decide) rfl (fun ls hl => ?_)
          refine lv_aload_n hx hb dX2_mendAll_47 rfl (lv_at hl 4 rfl) ?_
          refine iw_get hx hb hts iu_X2_mendAll_2 hown hK hP lpb ((va_un _ _ n_pb_pm).trans (hpb)) rfl 1 (by decide) (hts _ il_X2_mendAll_15) (fun _ h9 => h9) rfl dX2_mendAll_48 ?_
          refine lv_iload hx hb dX2_mendAll_51 (lv_at hl 1 rfl) ?_
          refine lv_iload hx hb dX2_mendAll_53 (lv_at hl 0 rfl) ?_
          refine lv_if_eq (tgt := 70) hx hb dX2_mendAll_55 (by decide) (fun _ => ?_) (fun c9 => absurd (by decide) c9)
          refine lv_aload_n hx hb dX2_mendAll_70 rfl (lv_at hl 5 rfl) ?_
          refine lv_iload hx hb dX2_mendAll_71 (lv_at hl 1 rfl) ?_
          refine iw_iald (v := nI (rw (8 * y + x))) hx hb hK hP lri ((va_un _ _ (Ne.symm dpr)).trans (hri)) (vp_in_nI (show 8 * y + x < 64 by omega) (by omega)) (congrArg (fun i => nI (rw i)) (nI_clamp (by omega))) dX2_mendAll_73 ?_
          refine lv_asI (y := nI (mmN rw mp b1 (8 * y + x))) (by unfold mmN; rw [show (8 * y + x) % 8 = x by omega, show (8 * y + x) / 8 = y by omega]; rw [if_neg (fun h => by rw [e8] at h; cases h.2)]) ?_
          refine iw_iast hx hb hK hP hD hS lpm (va_us _ _ _) (vp_in_nI (show 8 * y + x < 64 by omega) (by omega)) (nI_clamp (by omega)) dX2_mendAll_74 (fun H locs hP hD hS => ?_)
          rw [va_uu _ _ _ _] at hP hD
          refine lv_iinc (v := nI (x + 1)) (lv' := [(5, .int (nI (x + 1))), (7, .int (nI 0)), (6, .int (nI (8 * y + x))), (4, .int (nI y)), (0, .ref (ad pb)), (1, .ref (ad ri)), (2, .ref (ad mi)), (3, .int (if b1 then nI 1 else nI 0))]) hx hb dX2_mendAll_75 hl (k := 2) rfl (iinc_nat _ 1) (by decide) rfl (fun ls hl => ?_)
          refine lv_goto (tgt := 13) hx hb dX2_mendAll_78 (by decide) ?_
          rw [flI_n] at hP hD
          exact ih (x + 1) H locs ls (by omega) (by omega) hP hD hS (lv_sub hl [0, 3, 4, 5, 6, 7] rfl)
        · have e8 : mp (8 * y + x) = true := by cases hq9 : mp (8 * y + x) <;> simp [bI, hq9, nI] at c37 ⊢
          refine lv_iconst (v := nI 1) hx hb dX2_mendAll_40 (by decide) ?_
          refine lv_goto (tgt := 45) hx hb dX2_mendAll_41 (by decide) ?_
          refine lv_istore (lv' := [(7, .int (nI 1)), (6, .int (nI (8 * y + x))), (5, .int (nI x)), (4, .int (nI y)), (0, .ref (ad pb)), (1, .ref (ad ri)), (2, .ref (ad mi)), (3, .int (if b1 then nI 1 else nI 0))]) hx hb dX2_mendAll_45 hl (by decide) rfl (fun ls hl => ?_)
          refine lv_aload_n hx hb dX2_mendAll_47 rfl (lv_at hl 4 rfl) ?_
          refine iw_get hx hb hts iu_X2_mendAll_2 hown hK hP lpb ((va_un _ _ n_pb_pm).trans (hpb)) rfl 1 (by decide) (hts _ il_X2_mendAll_15) (fun _ h9 => h9) rfl dX2_mendAll_48 ?_
          refine lv_iload hx hb dX2_mendAll_51 (lv_at hl 1 rfl) ?_
          refine lv_iload hx hb dX2_mendAll_53 (lv_at hl 0 rfl) ?_
          refine lv_if_eq (tgt := 70) hx hb dX2_mendAll_55 (by decide) (fun c9 => absurd c9 (by decide)) (fun _ => ?_)
          refine lv_aload_n hx hb dX2_mendAll_58 rfl (lv_at hl 5 rfl) ?_
          refine lv_aload_n hx hb dX2_mendAll_59 rfl (lv_at hl 6 rfl) ?_
          refine lv_iload hx hb dX2_mendAll_60 (lv_at hl 2 rfl) ?_
          refine lv_iload hx hb dX2_mendAll_62 (lv_at hl 3 rfl) ?_
          refine iw_i (va_runS (As := [.ref (ad ri), .ref (ad mi), .int (nI x), .int (nI y)]) (rest := [.int (nI (8 * y + x)), .ref (ad pm)]) ⟨hx, hb, hml, hown, hts⟩ (kX2_mendedAt l G N ad _ lri lmi ((va_un _ _ (Ne.symm dpr)).trans (hri)) ((va_un _ _ (Ne.symm dpi)).trans (hmi)) hr9 x y (by omega) hy8 _) (va_cwS 4 hts gX2_mendAll_X2_mendedAt rfl rfl rfl (by decide +kernel) ⟨Nat.le_of_ble_eq_true rfl, Nat.le_of_ble_eq_true rfl⟩) (iPS hK hP hD [.ref (ad ri), .ref (ad mi), .int (nI x), .int (nI y)]) rfl rfl hl.1 rfl (lv_room (Nat.le_of_ble_eq_true rfl)) dX2_mendAll_64 ⟨hcc, hcs⟩) hD hS hA (fun r8 u8 H locs hw8 hP hD hS => ?_)
          obtain ⟨hr8, hu8⟩ := hw8
          refine lv_asI hr8 ?_
          rw [hu8] at hP hD
          refine lv_goto (tgt := 74) hx hb dX2_mendAll_67 (by decide) ?_
          refine lv_asI (y := nI (mmN rw mp b1 (8 * y + x))) (by unfold mmN; rw [show (8 * y + x) % 8 = x by omega, show (8 * y + x) / 8 = y by omega]; rw [if_pos ⟨e7, e8⟩]) ?_
          refine iw_iast hx hb hK hP hD hS lpm (va_us _ _ _) (vp_in_nI (show 8 * y + x < 64 by omega) (by omega)) (nI_clamp (by omega)) dX2_mendAll_74 (fun H locs hP hD hS => ?_)
          rw [va_uu _ _ _ _] at hP hD
          refine lv_iinc (v := nI (x + 1)) (lv' := [(5, .int (nI (x + 1))), (7, .int (nI 1)), (6, .int (nI (8 * y + x))), (4, .int (nI y)), (0, .ref (ad pb)), (1, .ref (ad ri)), (2, .ref (ad mi)), (3, .int (if b1 then nI 1 else nI 0))]) hx hb dX2_mendAll_75 hl (k := 2) rfl (iinc_nat _ 1) (by decide) rfl (fun ls hl => ?_)
          refine lv_goto (tgt := 13) hx hb dX2_mendAll_78 (by decide) ?_
          rw [flI_n] at hP hD
          exact ih (x + 1) H locs ls (by omega) (by omega) hP hD hS (lv_sub hl [0, 3, 4, 5, 6, 7] rfl)
set_option maxHeartbeats 4000000 in
set_option maxRecDepth 100000 in
theorem lX2_mendAll_y {p : Program} {l : Launch} {e : Env} {s : State} {m : MethodId} {args : Array Value} {below : List Frame} {meth : Method} {c : Code} {Q : State → Prop} {A : Nat → Prop} {H0 : Heap} {cells slots : Nat} (hx : p.tables.exec = Jvm.exec) (hb : c.code = cX2_mendAll) (hml : c.maxLocals = 8) (hr : meth.sig.returnType = none) (hts : ∀ w ∈ wsX2_mendAll, w.before args s = true) (hown : s.vm.findClass RX2 = some m.cls) {G : iG} (hK : KB G s) (hA : ∀ q, H0.size ≤ q → A q) {N : Nat} {ad : Nat → Nat} {C : Nat → va_E}  (hcc : cells ≤ rmX2_mendAll.cells) (hcs : slots ≤ rmX2_mendAll.slots) {pb pn pm : Nat} {nu : Nat → UInt32} {md : Nat → Nat} (lpb : pb < N) (lpn : pn < N) (lpm : pm < N) (hpb : C pb = ob 2 [.ref (ad pn), .ref (ad pm)]) (hpn : C pn = fa G 192 nu) (hpm : C pm = ia G 64 (fun i => nI (md i))) {ri mi : Nat} {rw : Nat → Nat} {mp : Nat → Bool} (lri : ri < N) (lmi : mi < N) (hri : C ri = ia G 64 (fun i => nI (rw i))) (hmi : C mi = za G 64 (bI mp)) (hr9 : ∀ i, i < 64 → rw i ≤ 255) (dpr : pm ≠ ri) (dpi : pm ≠ mi) {b1 : Bool} (kx : ∀ (H : Heap) (locs : List Loc) (ls : Array Slot), va_P G.1 vwB (wl N ad (va_up C pm (ia G 64 (fun i => nI (flI (mmN rw mp b1) md (8 * 8) i))))) H → va_D A (wl N ad (va_up C pm (ia G 64 (fun i => nI (flI (mmN rw mp b1) md (8 * 8) i))))) → va_S A H0 H locs → lv_has ls 8 [(0, .ref (ad pb))] → W p l e rmX2_mendAll s m args below meth c H locs cells slots Q (F0 m 87 ls [])) : ∀ (d : Nat) (y : Nat) (H : Heap) (locs : List Loc) (ls : Array Slot), 8 - y < d → y ≤ 8 → va_P G.1 vwB (wl N ad (va_up C pm (ia G 64 (fun i => nI (flI (mmN rw mp b1) md (8 * y) i))))) H → va_D A (wl N ad (va_up C pm (ia G 64 (fun i => nI (flI (mmN rw mp b1) md (8 * y) i))))) → va_S A H0 H locs → lv_has ls 8 [(4, .int (nI y)), (0, .ref (ad pb)), (1, .ref (ad ri)), (2, .ref (ad mi)), (3, .int (if b1 then nI 1 else nI 0))] → W p l e rmX2_mendAll s m args below meth c H locs cells slots Q (F0 m 3 ls []) := by
  intro d
  induction d with
  | zero => intro y H locs ls hd; exact absurd hd (Nat.not_lt_zero _)
  | succ d ih =>
    intro y H locs ls hd h2 hP hD hS hl
    refine lv_iload hx hb dX2_mendAll_3 (lv_at hl 0 rfl) ?_
    refine lv_bipush (v := nI 8) hx hb dX2_mendAll_5 (by decide) ?_
    refine lv_icmp_ge (tgt := 87) hx hb dX2_mendAll_7 (by decide) (fun c7 => ?_) (fun c7 => ?_)
    · have h5 : y = 8 := by have := (nI_leI (by omega) (by omega)).mp c7; omega
      subst h5
      exact kx H locs ls hP hD hS (lv_sub hl [1] rfl)
    · have h4 : y < 8 := by have := mt (nI_leI (by omega) (by omega)).mpr c7; omega
      refine lv_iconst (v := nI 0) hx hb dX2_mendAll_10 (by decide) ?_
      refine lv_istore (lv' := [(5, .int (nI 0)), (4, .int (nI y)), (0, .ref (ad pb)), (1, .ref (ad ri)), (2, .ref (ad mi)), (3, .int (if b1 then nI 1 else nI 0))]) hx hb dX2_mendAll_11 hl (by decide) rfl (fun ls hl => ?_)
      refine lX2_mendAll_x hx hb hml hr hts hown hK hA hcc hcs lpb lpn lpm hpb hpn hpm lri lmi hri hmi hr9 dpr dpi h4 (fun H locs ls hP hD hS hl => ?_) 9 0 H locs ls (by omega) (by omega) hP hD hS (lv_sub hl [0, 1, 2, 3, 4, 5] rfl)
      refine lv_iinc (v := nI (y + 1)) (lv' := [(4, .int (nI (y + 1))), (0, .ref (ad pb)), (1, .ref (ad ri)), (2, .ref (ad mi)), (3, .int (if b1 then nI 1 else nI 0))]) hx hb dX2_mendAll_81 hl (k := 0) rfl (iinc_nat _ 1) (by decide) rfl (fun ls hl => ?_)
      refine lv_goto (tgt := 3) hx hb dX2_mendAll_84 (by decide) ?_
      exact ih (y + 1) H locs ls (by omega) (by omega) hP hD hS (lv_sub hl [0, 1, 2, 3, 4] rfl)
set_option maxHeartbeats 4000000 in
set_option maxRecDepth 100000 in
theorem kX2_mendAll (l : Launch) (G : iG) (N : Nat) (ad : Nat → Nat) (C : Nat → va_E) {pb pn pm : Nat} {nu : Nat → UInt32} {md : Nat → Nat} (lpb : pb < N) (lpn : pn < N) (lpm : pm < N) (hpb : C pb = ob 2 [.ref (ad pn), .ref (ad pm)]) (hpn : C pn = fa G 192 nu) (hpm : C pm = ia G 64 (fun i => nI (md i))) {ri mi : Nat} {rw : Nat → Nat} {mp : Nat → Bool} (lri : ri < N) (lmi : mi < N) (hri : C ri = ia G 64 (fun i => nI (rw i))) (hmi : C mi = za G 64 (bI mp)) (hr9 : ∀ i, i < 64 → rw i ≤ 255) (dpr : pm ≠ ri) (dpi : pm ≠ mi) {b1 : Bool} (sz : Nat) : Met l yX2_mendAll wsX2_mendAll rmX2_mendAll (iPre G N ad C sz [.ref (ad pb), .ref (ad ri), .ref (ad mi), .int (if b1 then nI 1 else nI 0)]) (va_Qv (fun (u : Nat → va_E) => u = va_up C pm (ia G 64 (fun i => nI (mmN rw mp b1 i)))) (iB G N ad) (iA N ad sz)) 0 0 (iA N ad sz) := by
  refine Met.ofW (cc := cX2_mendAll) (maxL := 8) (ret := none) (by decide) rfl ?_
  intro p e s m args below meth c s₁ B hml hv
  obtain ⟨rfl, hsz, hP, hK, hD0⟩ := hv
  have hx := B.exec
  have hb := B.bytes
  have hr := B.returns
  have hts := atoms_spec (ws := wsX2_mendAll) B.pre
  have hown : s.vm.findClass RX2 = some m.cls := findClass_of_methodNamed B.named
  have hlocks := B.notSynchronized
  subst hsz
  have hD := wl_self hD0 s.heap.size
  have hA : ∀ q : Nat, s.heap.size ≤ q → iA N ad s.heap.size q := fun q h => Or.inr h
  have hS : va_S (iA N ad s.heap.size) s.heap s.heap [] := va_S.rf
  have hP : va_P G.1 vwB (wl N ad C) s.heap := hP
  have hl := lv_entry ([.ref (ad pb), .ref (ad ri), .ref (ad mi), .int (if b1 then nI 1 else nI 0)]) (n := 8) (Nat.le_of_ble_eq_true rfl)
  rw [lg_entry_eq]
  generalize (lg_sl ([.ref (ad pb), .ref (ad ri), .ref (ad mi), .int (if b1 then nI 1 else nI 0)]) ++ List.replicate (8 - (lg_sl ([.ref (ad pb), .ref (ad ri), .ref (ad mi), .int (if b1 then nI 1 else nI 0)])).length) Slot.unset).toArray = ls at hl ⊢
  have hl : lv_has ls 8 [(0, .ref (ad pb)), (1, .ref (ad ri)), (2, .ref (ad mi)), (3, .int (if b1 then nI 1 else nI 0))] := hl
  have n_pb_pn : pb ≠ pn := fun h => by rw [h, hpn] at hpb; simp at hpb
  have n_pb_pm : pb ≠ pm := fun h => by rw [h, hpm] at hpb; simp at hpb
  have n_pn_pm : pn ≠ pm := fun h => by rw [h, hpm] at hpn; simp at hpn
  refine lv_iconst (v := nI 0) hx hb dX2_mendAll_0 (by decide) ?_
  refine lv_istore (lv' := [(4, .int (nI 0)), (0, .ref (ad pb)), (1, .ref (ad ri)), (2, .ref (ad mi)), (3, .int (if b1 then nI 1 else nI 0))]) hx hb dX2_mendAll_1 hl (by decide) rfl (fun ls hl => ?_)
  have hP := wl_selfE hP hpm
  have hD := wl_D hD (va_up C pm (ia G 64 (fun i => nI (md i))))
  refine lX2_mendAll_y hx hb hml hr hts hown hK hA (Nat.le_refl _) (Nat.le_refl _) lpb lpn lpm hpb hpn hpm lri lmi hri hmi hr9 dpr dpi (fun H locs ls hP hD hS hl => ?_) 9 0 _ _ ls (by omega) (by omega) hP hD hS (lv_sub hl [0, 1, 2, 3, 4] rfl)
  have hP := wl_ia (g := fun i => nI (mmN rw mp b1 i)) hP (fun k hk => by simp [flI, show k < 64 from hk])
  exact W.vret hx hb hr (fun t ht hW => ⟨⟨_, rfl, rfl, iB_of ht hP⟩, hS.F ht⟩) hS.2.2 dX2_mendAll_87
abbrev rmX2_meanAround : Room := { frames := 1, cells := 0, slots := 0, locals := 21 }
set_option maxRecDepth 20000 in
theorem il_X2_meanAround_iniX6 : (Cond.initialized RX6) ∈ wsX2_meanAround := by decide +kernel
set_option maxRecDepth 20000 in
theorem il_X2_meanAround_st_X6_isPlace : (Cond.static yX6_isPlace) ∈ wsX2_meanAround := by decide +kernel
set_option maxRecDepth 20000 in
theorem il_X2_meanAround_st_X6_colourSeen : (Cond.static yX6_colourSeen) ∈ wsX2_meanAround := by decide +kernel
set_option maxRecDepth 20000 in
theorem iu_X2_meanAround_2 : ∀ w ∈ u_ws RX2 TX2 2, w ∈ wsX2_meanAround := by decide +kernel
set_option maxRecDepth 20000 in
theorem il_X2_meanAround_15 : (Cond.fieldLink RX2 15 "BayerGate$Picture" "mended" "[I") ∈ wsX2_meanAround := by decide +kernel
set_option maxRecDepth 20000 in
theorem il_X2_meanAround_st_X6_placeOf : (Cond.static yX6_placeOf) ∈ wsX2_meanAround := by decide +kernel
set_option maxHeartbeats 4000000 in
set_option maxRecDepth 100000 in
theorem lX2_meanAround_x {p : Program} {l : Launch} {e : Env} {s : State} {m : MethodId} {args : Array Value} {below : List Frame} {meth : Method} {c : Code} {Q : State → Prop} {A : Nat → Prop} {H0 : Heap} {cells slots : Nat} (hx : p.tables.exec = Jvm.exec) (hb : c.code = cX2_meanAround) (hml : c.maxLocals = 8) (hr : meth.sig.returnType = (some .float)) (hts : ∀ w ∈ wsX2_meanAround, w.before args s = true) (hown : s.vm.findClass RX2 = some m.cls) {G : iG} (hK : KB G s) (hA : ∀ q, H0.size ≤ q → A q) {N : Nat} {ad : Nat → Nat} {C : Nat → va_E}  (hcc : cells ≤ rmX2_meanAround.cells) (hcs : slots ≤ rmX2_meanAround.slots) {pb pn pm : Nat} {nu : Nat → UInt32} {md : Nat → Nat} (lpb : pb < N) (lpn : pn < N) (lpm : pm < N) (hpb : C pb = ob 2 [.ref (ad pn), .ref (ad pm)]) (hpn : C pn = fa G 192 nu) (hpm : C pm = ia G 64 (fun i => nI (md i))) (hm9 : ∀ i, i < 64 → md i ≤ 255) {x y k j a1 a2 : Nat} (hx8 : x < 8) (hy8 : y < 8) (hk3 : k < 3) (hj3 : j < 3) (kx : ∀ (H : Heap) (locs : List Loc) (ls : Array Slot), va_P G.1 vwB (wl N ad (C)) H → va_D A (wl N ad (C)) → va_S A H0 H locs → lv_has ls 8 [(4, .int (nI (arX md x y k j a1 3))), (5, .int (nI (arX (fun _ => 1) x y k j a2 3))), (6, .int (nI (y + j) - nI 1)), (0, .ref (ad pb)), (1, .int (nI x)), (2, .int (nI y)), (3, .int (nI k))] → W p l e rmX2_meanAround s m args below meth c H locs cells slots Q (F0 m 79 ls [])) : ∀ (d : Nat) (i : Nat) (H : Heap) (locs : List Loc) (ls : Array Slot), 3 - i < d → i ≤ 3 → va_P G.1 vwB (wl N ad C) H → va_D A (wl N ad C) → va_S A H0 H locs → lv_has ls 8 [(4, .int (nI (arX md x y k j a1 i))), (5, .int (nI (arX (fun _ => 1) x y k j a2 i))), (7, .int (nI (x + i) - nI 1)), (6, .int (nI (y + j) - nI 1)), (0, .ref (ad pb)), (1, .int (nI x)), (2, .int (nI y)), (3, .int (nI k))] → W p l e rmX2_meanAround s m args below meth c H locs cells slots Q (F0 m 24 ls []) := by
  intro d
  induction d with
  | zero => intro i H locs ls hd; exact absurd hd (Nat.not_lt_zero _)
  | succ d ih =>
    intro i H locs ls hd h2 hP hD hS hl
    refine lv_iload hx hb dX2_meanAround_24 (lv_at hl 2 rfl) ?_
    refine lv_iload_n hx hb dX2_meanAround_26 rfl (lv_at hl 5 rfl) ?_
    refine lv_iconst (v := nI 1) hx hb dX2_meanAround_27 (by decide) ?_
    refine lv_iadd hx hb dX2_meanAround_28 ?_
    refine lv_asI (y := nI (x + 1)) (nI_add _ _) ?_
    refine lv_icmp_gt (tgt := 79) hx hb dX2_meanAround_29 (by decide) (fun c29 => ?_) (fun c29 => ?_)
    · have h5 : i = 3 := (cmp_gt hx8 (by omega)).mp c29
      subst h5
      exact kx H locs ls hP hD hS (lv_sub hl [0, 1, 3, 4, 5, 6, 7] rfl)
    · have h4 : i < 3 := by have := mt (cmp_gt hx8 (by omega)).mpr c29; omega
      refine lv_iload hx hb dX2_meanAround_32 (lv_at hl 2 rfl) ?_
      refine lv_iload hx hb dX2_meanAround_34 (lv_at hl 3 rfl) ?_
      refine iw_pi (va_runSN (As := [.int (nI (x + i) - nI 1), .int (nI (y + j) - nI 1)]) (rest := []) ⟨hx, hb, hml, hown, hts⟩ (kX6_isPlace l (nI (x + i) - nI 1) (nI (y + j) - nI 1)) ⟨va_cnB (host := RX6) 2 hts gX2_meanAround_X6_isPlace_n61 rfl rfl rfl (nw_RX2_61 hK.2) (hts _ il_X2_meanAround_iniX6) (by decide +kernel) ⟨Nat.le_of_ble_eq_true rfl, Nat.le_of_ble_eq_true rfl⟩, (hts _ il_X2_meanAround_st_X6_isPlace), trivial⟩ ⟨fun a U g mk q => q, fun U hU hW => ⟨rfl, trivial⟩⟩ rfl rfl hl.1 rfl (lv_room (Nat.le_of_ble_eq_true rfl)) dX2_meanAround_36 ⟨hcc, hcs⟩) hP hS (fun r8 u8 H locs hw8 hP hS => ?_)
      refine lv_asI hw8 ?_
      refine lv_if_eq (tgt := 73) hx hb dX2_meanAround_39 (by decide) (fun c39 => ?_) (fun c39 => ?_)
      · have e7 : ¬ (1 ≤ x + i ∧ x + i ≤ 8 ∧ 1 ≤ y + j ∧ y + j ≤ 8) := by rw [isPl_m1 (by omega) (by omega)] at c39; intro h9; simp [h9, nI] at c39
        refine lv_iinc (v := nI (x + i + 1) - nI 1) (lv' := [(7, .int (nI (x + i + 1) - nI 1)), (4, .int (nI (arX md x y k j a1 i))), (5, .int (nI (arX (fun _ => 1) x y k j a2 i))), (6, .int (nI (y + j) - nI 1)), (0, .ref (ad pb)), (1, .int (nI x)), (2, .int (nI y)), (3, .int (nI k))]) hx hb dX2_meanAround_73 hl (k := 2) rfl (inc_m1 _) (by decide) rfl (fun ls hl => ?_)
        refine lv_goto (tgt := 24) hx hb dX2_meanAround_76 (by decide) ?_
        have e9 : arX md x y k j a1 (i + 1) = arX md x y k j a1 i := by show arX md x y k j a1 i + _ = _; simp [*]
        have e10 : arX (fun _ => 1) x y k j a2 (i + 1) = arX (fun _ => 1) x y k j a2 i := by show arX (fun _ => 1) x y k j a2 i + _ = _; simp [*]
        exact ih (i + 1) H locs ls (by omega) (by omega) hP hD hS (by rw [e9, e10]; exact (lv_sub hl [1, 2, 0, 3, 4, 5, 6, 7] rfl))
      · have e7 : 1 ≤ x + i ∧ x + i ≤ 8 ∧ 1 ≤ y + j ∧ y + j ≤ 8 := by rw [isPl_m1 (by omega) (by omega)] at c39; by_cases h9 : 1 ≤ x + i ∧ x + i ≤ 8 ∧ 1 ≤ y + j ∧ y + j ≤ 8; exact h9; simp [h9, nI] at c39
        refine lv_iload hx hb dX2_meanAround_42 (lv_at hl 2 rfl) ?_
        refine lv_asI (y := nI (x + i - 1)) (pk_sub (by omega)) ?_
        refine lv_iload hx hb dX2_meanAround_44 (lv_at hl 3 rfl) ?_
        refine lv_asI (y := nI (y + j - 1)) (pk_sub (by omega)) ?_
        refine iw_pi (va_runSN (As := [.int (nI (x + i - 1)), .int (nI (y + j - 1))]) (rest := []) ⟨hx, hb, hml, hown, hts⟩ (kX6_colourSeen l (x + i - 1) (y + j - 1) (by omega) (by omega)) ⟨va_cnB (host := RX6) 2 hts gX2_meanAround_X6_colourSeen_n65 rfl rfl rfl (nw_RX2_65 hK.2) (hts _ il_X2_meanAround_iniX6) (by decide +kernel) ⟨Nat.le_of_ble_eq_true rfl, Nat.le_of_ble_eq_true rfl⟩, (hts _ il_X2_meanAround_st_X6_colourSeen), trivial⟩ ⟨fun a U g mk q => q, fun U hU hW => ⟨rfl, trivial⟩⟩ rfl rfl hl.1 rfl (lv_room (Nat.le_of_ble_eq_true rfl)) dX2_meanAround_46 ⟨hcc, hcs⟩) hP hS (fun r8 u8 H locs hw8 hP hS => ?_)
        refine lv_asI hw8 ?_
        refine lv_iload_n hx hb dX2_meanAround_49 rfl (lv_at hl 7 rfl) ?_
        refine lv_icmp_ne (tgt := 73) hx hb dX2_meanAround_50 (by decide) (fun c50 => ?_) (fun c50 => ?_)
        · have e8 : ¬ colN (x + i - 1) (y + j - 1) = k := fun e => c50 (by rw [e])
          refine lv_iinc (v := nI (x + i + 1) - nI 1) (lv' := [(7, .int (nI (x + i + 1) - nI 1)), (4, .int (nI (arX md x y k j a1 i))), (5, .int (nI (arX (fun _ => 1) x y k j a2 i))), (6, .int (nI (y + j) - nI 1)), (0, .ref (ad pb)), (1, .int (nI x)), (2, .int (nI y)), (3, .int (nI k))]) hx hb dX2_meanAround_73 hl (k := 2) rfl (inc_m1 _) (by decide) rfl (fun ls hl => ?_)
          refine lv_goto (tgt := 24) hx hb dX2_meanAround_76 (by decide) ?_
          have e9 : arX md x y k j a1 (i + 1) = arX md x y k j a1 i := by show arX md x y k j a1 i + _ = _; simp [*]
          have e10 : arX (fun _ => 1) x y k j a2 (i + 1) = arX (fun _ => 1) x y k j a2 i := by show arX (fun _ => 1) x y k j a2 i + _ = _; simp [*]
          exact ih (i + 1) H locs ls (by omega) (by omega) hP hD hS (by rw [e9, e10]; exact (lv_sub hl [1, 2, 0, 3, 4, 5, 6, 7] rfl))
        · have e8 : colN (x + i - 1) (y + j - 1) = k := (nI_eq (by have := colN_lt (x + i - 1) (y + j - 1); omega) (by omega)).mp c50
          refine lv_iload hx hb dX2_meanAround_53 (lv_at hl 0 rfl) ?_
          refine lv_aload_n hx hb dX2_meanAround_55 rfl (lv_at hl 4 rfl) ?_
          refine iw_get hx hb hts iu_X2_meanAround_2 hown hK hP lpb (hpb) rfl 1 (by decide) (hts _ il_X2_meanAround_15) (fun _ h9 => h9) rfl dX2_meanAround_56 ?_
          refine lv_iload hx hb dX2_meanAround_59 (lv_at hl 2 rfl) ?_
          refine lv_asI (y := nI (x + i - 1)) (pk_sub (by omega)) ?_
          refine lv_iload hx hb dX2_meanAround_61 (lv_at hl 3 rfl) ?_
          refine lv_asI (y := nI (y + j - 1)) (pk_sub (by omega)) ?_
          refine iw_pi (va_runSN (As := [.int (nI (x + i - 1)), .int (nI (y + j - 1))]) (rest := [.ref (ad pm), .int (nI (arX md x y k j a1 i))]) ⟨hx, hb, hml, hown, hts⟩ (kX6_placeOf l (x + i - 1) (y + j - 1)) ⟨va_cnB (host := RX6) 2 hts gX2_meanAround_X6_placeOf_n54 rfl rfl rfl (nw_RX2_54 hK.2) (hts _ il_X2_meanAround_iniX6) (by decide +kernel) ⟨Nat.le_of_ble_eq_true rfl, Nat.le_of_ble_eq_true rfl⟩, (hts _ il_X2_meanAround_st_X6_placeOf), trivial⟩ ⟨fun a U g mk q => q, fun U hU hW => ⟨rfl, trivial⟩⟩ rfl rfl hl.1 rfl (lv_room (Nat.le_of_ble_eq_true rfl)) dX2_meanAround_63 ⟨hcc, hcs⟩) hP hS (fun r8 u8 H locs hw8 hP hS => ?_)
          refine lv_asI hw8 ?_
          refine iw_iald (v := nI (md (8 * (y + j - 1) + (x + i - 1)))) hx hb hK hP lpm (hpm) (vp_in_nI (show 8 * (y + j - 1) + (x + i - 1) < 64 by omega) (by omega)) (congrArg (fun i => nI (md i)) (nI_clamp (by omega))) dX2_meanAround_66 ?_
          refine lv_iadd hx hb dX2_meanAround_67 ?_
          refine lv_asI (y := nI ((arX md x y k j a1 i) + (md (8 * (y + j - 1) + (x + i - 1))))) (nI_add _ _) ?_
          refine lv_istore (lv' := [(4, .int (nI ((arX md x y k j a1 i) + (md (8 * (y + j - 1) + (x + i - 1)))))), (5, .int (nI (arX (fun _ => 1) x y k j a2 i))), (7, .int (nI (x + i) - nI 1)), (6, .int (nI (y + j) - nI 1)), (0, .ref (ad pb)), (1, .int (nI x)), (2, .int (nI y)), (3, .int (nI k))]) hx hb dX2_meanAround_68 hl (by decide) rfl (fun ls hl => ?_)
          refine lv_iinc (v := nI ((arX (fun _ => 1) x y k j a2 i) + 1)) (lv' := [(5, .int (nI ((arX (fun _ => 1) x y k j a2 i) + 1))), (4, .int (nI ((arX md x y k j a1 i) + (md (8 * (y + j - 1) + (x + i - 1)))))), (7, .int (nI (x + i) - nI 1)), (6, .int (nI (y + j) - nI 1)), (0, .ref (ad pb)), (1, .int (nI x)), (2, .int (nI y)), (3, .int (nI k))]) hx hb dX2_meanAround_70 hl (k := 1) rfl (iinc_nat _ 1) (by decide) rfl (fun ls hl => ?_)
          refine lv_iinc (v := nI (x + i + 1) - nI 1) (lv' := [(7, .int (nI (x + i + 1) - nI 1)), (5, .int (nI ((arX (fun _ => 1) x y k j a2 i) + 1))), (4, .int (nI ((arX md x y k j a1 i) + (md (8 * (y + j - 1) + (x + i - 1)))))), (6, .int (nI (y + j) - nI 1)), (0, .ref (ad pb)), (1, .int (nI x)), (2, .int (nI y)), (3, .int (nI k))]) hx hb dX2_meanAround_73 hl (k := 2) rfl (inc_m1 _) (by decide) rfl (fun ls hl => ?_)
          refine lv_goto (tgt := 24) hx hb dX2_meanAround_76 (by decide) ?_
          have e9 : arX md x y k j a1 (i + 1) = (arX md x y k j a1 i) + (md (8 * (y + j - 1) + (x + i - 1))) := by show arX md x y k j a1 i + _ = _; simp [*]
          have e10 : arX (fun _ => 1) x y k j a2 (i + 1) = (arX (fun _ => 1) x y k j a2 i) + 1 := by show arX (fun _ => 1) x y k j a2 i + _ = _; simp [*]
          exact ih (i + 1) H locs ls (by omega) (by omega) hP hD hS (by rw [e9, e10]; exact (lv_sub hl [2, 1, 0, 3, 4, 5, 6, 7] rfl))
set_option maxHeartbeats 4000000 in
set_option maxRecDepth 100000 in
theorem lX2_meanAround_y {p : Program} {l : Launch} {e : Env} {s : State} {m : MethodId} {args : Array Value} {below : List Frame} {meth : Method} {c : Code} {Q : State → Prop} {A : Nat → Prop} {H0 : Heap} {cells slots : Nat} (hx : p.tables.exec = Jvm.exec) (hb : c.code = cX2_meanAround) (hml : c.maxLocals = 8) (hr : meth.sig.returnType = (some .float)) (hts : ∀ w ∈ wsX2_meanAround, w.before args s = true) (hown : s.vm.findClass RX2 = some m.cls) {G : iG} (hK : KB G s) (hA : ∀ q, H0.size ≤ q → A q) {N : Nat} {ad : Nat → Nat} {C : Nat → va_E}  (hcc : cells ≤ rmX2_meanAround.cells) (hcs : slots ≤ rmX2_meanAround.slots) {pb pn pm : Nat} {nu : Nat → UInt32} {md : Nat → Nat} (lpb : pb < N) (lpn : pn < N) (lpm : pm < N) (hpb : C pb = ob 2 [.ref (ad pn), .ref (ad pm)]) (hpn : C pn = fa G 192 nu) (hpm : C pm = ia G 64 (fun i => nI (md i))) (hm9 : ∀ i, i < 64 → md i ≤ 255) {x y k : Nat} (hx8 : x < 8) (hy8 : y < 8) (hk3 : k < 3) (kx : ∀ (H : Heap) (locs : List Loc) (ls : Array Slot), va_P G.1 vwB (wl N ad (C)) H → va_D A (wl N ad (C)) → va_S A H0 H locs → lv_has ls 8 [(4, .int (nI (arY md x y k 3))), (5, .int (nI (arY (fun _ => 1) x y k 3)))] → W p l e rmX2_meanAround s m args below meth c H locs cells slots Q (F0 m 85 ls [])) : ∀ (d : Nat) (j : Nat) (H : Heap) (locs : List Loc) (ls : Array Slot), 3 - j < d → j ≤ 3 → va_P G.1 vwB (wl N ad C) H → va_D A (wl N ad C) → va_S A H0 H locs → lv_has ls 8 [(4, .int (nI (arY md x y k j))), (5, .int (nI (arY (fun _ => 1) x y k j))), (6, .int (nI (y + j) - nI 1)), (0, .ref (ad pb)), (1, .int (nI x)), (2, .int (nI y)), (3, .int (nI k))] → W p l e rmX2_meanAround s m args below meth c H locs cells slots Q (F0 m 11 ls []) := by
  intro d
  induction d with
  | zero => intro j H locs ls hd; exact absurd hd (Nat.not_lt_zero _)
  | succ d ih =>
    intro j H locs ls hd h2 hP hD hS hl
    refine lv_iload hx hb dX2_meanAround_11 (lv_at hl 2 rfl) ?_
    refine lv_iload_n hx hb dX2_meanAround_13 rfl (lv_at hl 5 rfl) ?_
    refine lv_iconst (v := nI 1) hx hb dX2_meanAround_14 (by decide) ?_
    refine lv_iadd hx hb dX2_meanAround_15 ?_
    refine lv_asI (y := nI (y + 1)) (nI_add _ _) ?_
    refine lv_icmp_gt (tgt := 85) hx hb dX2_meanAround_16 (by decide) (fun c16 => ?_) (fun c16 => ?_)
    · have h5 : j = 3 := (cmp_gt hy8 (by omega)).mp c16
      subst h5
      exact kx H locs ls hP hD hS (lv_sub hl [0, 1] rfl)
    · have h4 : j < 3 := by have := mt (cmp_gt hy8 (by omega)).mpr c16; omega
      refine lv_iload_n hx hb dX2_meanAround_19 rfl (lv_at hl 4 rfl) ?_
      refine lv_iconst (v := nI 1) hx hb dX2_meanAround_20 (by decide) ?_
      refine lv_isub hx hb dX2_meanAround_21 ?_
      refine lv_istore (lv' := [(7, .int ((nI x) - (nI 1))), (4, .int (nI (arY md x y k j))), (5, .int (nI (arY (fun _ => 1) x y k j))), (6, .int (nI (y + j) - nI 1)), (0, .ref (ad pb)), (1, .int (nI x)), (2, .int (nI y)), (3, .int (nI k))]) hx hb dX2_meanAround_22 hl (by decide) rfl (fun ls hl => ?_)
      refine lX2_meanAround_x hx hb hml hr hts hown hK hA hcc hcs lpb lpn lpm hpb hpn hpm hm9 hx8 hy8 hk3 h4 (fun H locs ls hP hD hS hl => ?_) 4 0 H locs ls (by omega) (by omega) hP hD hS (lv_sub hl [1, 2, 0, 3, 4, 5, 6, 7] rfl)
      refine lv_iinc (v := nI (y + j + 1) - nI 1) (lv' := [(6, .int (nI (y + j + 1) - nI 1)), (4, .int (nI (arX md x y k j (arY md x y k j) 3))), (5, .int (nI (arX (fun _ => 1) x y k j (arY (fun _ => 1) x y k j) 3))), (0, .ref (ad pb)), (1, .int (nI x)), (2, .int (nI y)), (3, .int (nI k))]) hx hb dX2_meanAround_79 hl (k := 2) rfl (inc_m1 _) (by decide) rfl (fun ls hl => ?_)
      refine lv_goto (tgt := 11) hx hb dX2_meanAround_82 (by decide) ?_
      exact ih (j + 1) H locs ls (by omega) (by omega) hP hD hS (lv_sub hl [1, 2, 0, 3, 4, 5, 6] rfl)
set_option maxHeartbeats 4000000 in
set_option maxRecDepth 100000 in
theorem kX2_meanAround (l : Launch) (G : iG) (N : Nat) (ad : Nat → Nat) (C : Nat → va_E) {pb pn pm : Nat} {nu : Nat → UInt32} {md : Nat → Nat} (lpb : pb < N) (lpn : pn < N) (lpm : pm < N) (hpb : C pb = ob 2 [.ref (ad pn), .ref (ad pm)]) (hpn : C pn = fa G 192 nu) (hpm : C pm = ia G 64 (fun i => nI (md i))) (hm9 : ∀ i, i < 64 → md i ≤ 255) (x y k : Nat) (hx8 : x < 8) (hy8 : y < 8) (hk3 : k < 3) (sz : Nat) : Met l yX2_meanAround wsX2_meanAround rmX2_meanAround (iPre G N ad C sz [.ref (ad pb), .int (nI x), .int (nI y), .int (nI k)]) (va_Qf (fun (r : UInt32) (u : Nat → va_E) => r = arF md x y k ∧ u = C) (iB G N ad) (iA N ad sz)) 0 0 (iA N ad sz) := by
  refine Met.ofW (cc := cX2_meanAround) (maxL := 8) (ret := (some .float)) (by decide) rfl ?_
  intro p e s m args below meth c s₁ B hml hv
  obtain ⟨rfl, hsz, hP, hK, hD0⟩ := hv
  have hx := B.exec
  have hb := B.bytes
  have hr := B.returns
  have hts := atoms_spec (ws := wsX2_meanAround) B.pre
  have hown : s.vm.findClass RX2 = some m.cls := findClass_of_methodNamed B.named
  have hlocks := B.notSynchronized
  subst hsz
  have hD := wl_self hD0 s.heap.size
  have hA : ∀ q : Nat, s.heap.size ≤ q → iA N ad s.heap.size q := fun q h => Or.inr h
  have hS : va_S (iA N ad s.heap.size) s.heap s.heap [] := va_S.rf
  have hP : va_P G.1 vwB (wl N ad C) s.heap := hP
  have hl := lv_entry ([.ref (ad pb), .int (nI x), .int (nI y), .int (nI k)]) (n := 8) (Nat.le_of_ble_eq_true rfl)
  rw [lg_entry_eq]
  generalize (lg_sl ([.ref (ad pb), .int (nI x), .int (nI y), .int (nI k)]) ++ List.replicate (8 - (lg_sl ([.ref (ad pb), .int (nI x), .int (nI y), .int (nI k)])).length) Slot.unset).toArray = ls at hl ⊢
  have hl : lv_has ls 8 [(0, .ref (ad pb)), (1, .int (nI x)), (2, .int (nI y)), (3, .int (nI k))] := hl
  have b1 := arY_le md 255 hm9 x y k 3
  have b2 := arY_le (fun _ => 1) 1 (fun _ _ => Nat.le_refl _) x y k 3
  refine lv_iconst (v := nI 0) hx hb dX2_meanAround_0 (by decide) ?_
  refine lv_istore (lv' := [(4, .int (nI 0)), (0, .ref (ad pb)), (1, .int (nI x)), (2, .int (nI y)), (3, .int (nI k))]) hx hb dX2_meanAround_1 hl (by decide) rfl (fun ls hl => ?_)
  refine lv_iconst (v := nI 0) hx hb dX2_meanAround_3 (by decide) ?_
  refine lv_istore (lv' := [(5, .int (nI 0)), (4, .int (nI 0)), (0, .ref (ad pb)), (1, .int (nI x)), (2, .int (nI y)), (3, .int (nI k))]) hx hb dX2_meanAround_4 hl (by decide) rfl (fun ls hl => ?_)
  refine lv_iload_n hx hb dX2_meanAround_6 rfl (lv_at hl 4 rfl) ?_
  refine lv_iconst (v := nI 1) hx hb dX2_meanAround_7 (by decide) ?_
  refine lv_isub hx hb dX2_meanAround_8 ?_
  refine lv_istore (lv' := [(6, .int ((nI y) - (nI 1))), (5, .int (nI 0)), (4, .int (nI 0)), (0, .ref (ad pb)), (1, .int (nI x)), (2, .int (nI y)), (3, .int (nI k))]) hx hb dX2_meanAround_9 hl (by decide) rfl (fun ls hl => ?_)
  refine lX2_meanAround_y hx hb hml hr hts hown hK hA (Nat.le_refl _) (Nat.le_refl _) lpb lpn lpm hpb hpn hpm hm9 hx8 hy8 hk3 (fun H locs ls hP hD hS hl => ?_) 4 0 _ _ ls (by omega) (by omega) hP hD hS (lv_sub hl [2, 1, 0, 3, 4, 5, 6] rfl)
  refine lv_iload hx hb dX2_meanAround_85 (lv_at hl 1 rfl) ?_
  refine lv_if_ne (tgt := 94) hx hb dX2_meanAround_87 (by decide) (fun c87 => ?_) (fun c87 => ?_)
  · have e8 : arY (fun _ => 1) x y k 3 ≠ 0 := fun e => c87 (by rw [e]; exact nI_0)
    refine lv_iload hx hb dX2_meanAround_94 (lv_at hl 0 rfl) ?_
    refine lv_i2f hx hb dX2_meanAround_96 ?_
    refine lv_iload hx hb dX2_meanAround_97 (lv_at hl 1 rfl) ?_
    refine lv_i2f hx hb dX2_meanAround_99 ?_
    refine lv_fdiv hx hb dX2_meanAround_100 (fdiv_nz (fin32_n (i2f_fin32 _)) (i2f_nz (by omega) (by omega))) ?_
    exact W.fret (v := (FP.fdiv (FP.i2f (nI (arY md x y k 3))) (FP.i2f (nI (arY (fun _ => 1) x y k 3))))) hx hb hr (fun t ht hW => ⟨⟨_, _, rfl, ⟨by unfold arF; first | rw [if_pos e8] | rw [if_neg e8], rfl⟩, iB_of ht hP⟩, hS.F ht⟩) hS.2.2 dX2_meanAround_101
  · have e8 : arY (fun _ => 1) x y k 3 = 0 := (nI_eq (by omega) (by omega)).mp (c87.trans nI_0.symm)
    refine lv_fconst0 hx hb dX2_meanAround_90 ?_
    refine lv_goto (tgt := 101) hx hb dX2_meanAround_91 (by decide) ?_
    exact W.fret (v := FP.fconst0) hx hb hr (fun t ht hW => ⟨⟨_, _, rfl, ⟨by unfold arF; first | rw [if_pos e8] | rw [if_neg e8], rfl⟩, iB_of ht hP⟩, hS.F ht⟩) hS.2.2 dX2_meanAround_101
