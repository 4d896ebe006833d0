set_option maxRecDepth 20000 in
theorem ggX2_mendedAt_X6_isPlace : GoodIn wsX2_mendedAt wsX6_isPlace := goodIn_r _ [3] (by decide +kernel) (by decide +kernel)
set_option maxRecDepth 20000 in
theorem gX2_mendedAt_X6_isPlace_n61 : GoodIn wsX2_mendedAt (wsX6_isPlace) := ggX2_mendedAt_X6_isPlace
set_option maxRecDepth 20000 in
theorem ggX2_mendedAt_X6_placeOf : GoodIn wsX2_mendedAt wsX6_placeOf := goodIn_r _ [5] (by decide +kernel) (by decide +kernel)
set_option maxRecDepth 20000 in
theorem gX2_mendedAt_X6_placeOf_n54 : GoodIn wsX2_mendedAt (wsX6_placeOf) := ggX2_mendedAt_X6_placeOf
theorem nI_neg {a b : Nat} (h : a < b) (hb : b < 2 ^ 30) : nI a + -nI b < 0 := by
  have e : nI a + -nI b = nI a - nI b := by rw [Int32.sub_eq_add_neg]
  rw [e]
  exact pk_sneg hb h
theorem nI_subn {a b : Nat} (h : b ≤ a) : nI a + -nI b = nI (a - b) := by
  rw [← Int32.sub_eq_add_neg]
  exact pk_sub h
theorem isPl_in {a b : Nat} (ha : a < 8) (hb : b < 8) : isPl (nI a) (nI b) = true := by
  have h1 : ¬ nI a < 0 := nI_pos (by omega)
  have h2 : ¬ nI b < 0 := nI_pos (by omega)
  have h3 : ¬ nI 8 ≤ nI a := nI_ge ha (by omega)
  have h4 : ¬ nI 8 ≤ nI b := nI_ge hb (by omega)
  simp [isPl, h1, h2, h3, h4]
theorem isPl_x8 {a : Nat} (ha : 8 ≤ a) (h2 : a < 2 ^ 31) (y : Int32) : isPl (nI a) y = false := by
  have h3 : nI 8 ≤ nI a := nI_le ha h2
  simp [isPl, h3]
theorem isPl_y8 {b : Nat} (hb : 8 ≤ b) (h2 : b < 2 ^ 31) (x : Int32) : isPl x (nI b) = false := by
  have h3 : nI 8 ≤ nI b := nI_le hb h2
  simp [isPl, h3]
theorem isPl_xn {z : Int32} (h : z < 0) (y : Int32) : isPl z y = false := by simp [isPl, h]
theorem isPl_yn {z : Int32} (h : z < 0) (x : Int32) : isPl x z = false := by simp [isPl, h]
/-- two away: is there a place, and which -/
def nbOk (x y k : Nat) : Bool := if k = 0 then decide (2 ≤ x) else if k = 1 then decide (x < 6) else if k = 2 then decide (2 ≤ y) else decide (y < 6)
def nbAt (x y k : Nat) : Nat := if k = 0 then 8 * y + (x - 2) else if k = 1 then 8 * y + (x + 2) else if k = 2 then 8 * (y - 2) + x else 8 * (y + 2) + x
def mS (rw : Nat → Nat) (mp : Nat → Bool) (x y : Nat) : Nat → Nat
  | 0 => 0
  | k + 1 => mS rw mp x y k + if nbOk x y k = true ∧ mp (nbAt x y k) = false then rw (nbAt x y k) else 0
def mC (mp : Nat → Bool) (x y : Nat) : Nat → Nat
  | 0 => 0
  | k + 1 => mC mp x y k + if nbOk x y k = true ∧ mp (nbAt x y k) = false then 1 else 0
theorem nbAt_lt {x y k : Nat} (hx : x < 8) (hy : y < 8) (h : nbOk x y k = true) : nbAt x y k < 64 := by
  unfold nbOk at h
  unfold nbAt
  split at h
  · rw [if_pos (by assumption)]; simp at h; omega
  · split at h
    · rw [if_neg (by assumption), if_pos (by assumption)]; simp at h; omega
    · split at h
      · rw [if_neg (by assumption), if_neg (by assumption), if_pos (by assumption)]; simp at h; omega
      · rw [if_neg (by assumption), if_neg (by assumption), if_neg (by assumption)]; simp at h; omega
theorem mC_le (mp : Nat → Bool) (x y : Nat) : ∀ n, mC mp x y n ≤ n
  | 0 => Nat.le_refl _
  | n + 1 => by
    have := mC_le mp x y n
    unfold mC
    split <;> omega
theorem mS_le (rw : Nat → Nat) (hr : ∀ i, i < 64 → rw i ≤ 255) (mp : Nat → Bool) {x y : Nat} (hx : x < 8) (hy : y < 8) : ∀ n, mS rw mp x y n ≤ 255 * mC mp x y n
  | 0 => Nat.le_refl _
  | n + 1 => by
    have h1 := mS_le rw hr mp hx hy n
    unfold mS mC
    split
    · rename_i h
      have := hr _ (nbAt_lt hx hy h.1)
      omega
    · omega
/-- a mended place -/
def mdN (rw : Nat → Nat) (mp : Nat → Bool) (x y : Nat) : Nat := if mC mp x y 4 = 0 then rw (8 * y + x) else mS rw mp x y 4 / mC mp x y 4
theorem mdN_le (rw : Nat → Nat) (hr : ∀ i, i < 64 → rw i ≤ 255) (mp : Nat → Bool) {x y : Nat} (hx : x < 8) (hy : y < 8) : mdN rw mp x y ≤ 255 := by
  unfold mdN
  split
  · exact hr _ (by omega)
  · rename_i h
    have := mS_le rw hr mp hx hy 4
    exact Nat.div_le_of_le_mul (by rw [Nat.mul_comm]; exact this)
/-- RAW behind MEND -/
def mmN (rw : Nat → Nat) (mp : Nat → Bool) (b : Bool) (k : Nat) : Nat := if b = true ∧ mp k = true then mdN rw mp (k % 8) (k / 8) else rw k
theorem mmN_le (rw : Nat → Nat) (hr : ∀ i, i < 64 → rw i ≤ 255) (mp : Nat → Bool) (b : Bool) : ∀ k, k < 64 → mmN rw mp b k ≤ 255 := by
  intro k hk
  unfold mmN
  split
  · exact mdN_le rw hr mp (by omega) (by omega)
  · exact hr k hk
abbrev rmX2_mendedAt : Room := { frames := 1, cells := 0, slots := 0, locals := 21 }
set_option maxRecDepth 20000 in
theorem il_X2_mendedAt_iniX6 : (Cond.initialized RX6) ∈ wsX2_mendedAt := by decide +kernel
set_option maxRecDepth 20000 in
theorem il_X2_mendedAt_st_X6_isPlace : (Cond.static yX6_isPlace) ∈ wsX2_mendedAt := by decide +kernel
set_option maxRecDepth 20000 in
theorem il_X2_mendedAt_st_X6_placeOf : (Cond.static yX6_placeOf) ∈ wsX2_mendedAt := by decide +kernel
set_option maxHeartbeats 4000000 in
set_option maxRecDepth 100000 in
theorem lX2_mendedAt {p : Program} {l : Launch} {e : Env} {s : State} {m : MethodId} {args : Array Value} {below : List Frame} {meth : Method} {c : Code} {Q : State → Prop} {A : Nat → Prop} {H0 : Heap} {cells slots : Nat} (hx : p.tables.exec = Jvm.exec) (hb : c.code = cX2_mendedAt) (hml : c.maxLocals = 10) (hr : meth.sig.returnType = (some .int)) (hts : ∀ w ∈ wsX2_mendedAt, w.before args s = true) (hown : s.vm.findClass RX2 = some m.cls) {G : iG} (hK : KB G s) (hA : ∀ q, H0.size ≤ q → A q) {N : Nat} {ad : Nat → Nat} {C : Nat → va_E}  (hcc : cells ≤ rmX2_mendedAt.cells) (hcs : slots ≤ rmX2_mendedAt.slots) {ri mi : Nat} {rw : Nat → Nat} {mp : Nat → Bool} (lri : ri < N) (lmi : mi < N) (hri : C ri = ia G 64 (fun i => nI (rw i))) (hmi : C mi = za G 64 (bI mp)) (hr9 : ∀ i, i < 64 → rw i ≤ 255) {x y : Nat} (hx8 : x < 8) (hy8 : y < 8) (kx : ∀ (H : Heap) (locs : List Loc) (ls : Array Slot), va_P G.1 vwB (wl N ad (C)) H → va_D A (wl N ad (C)) → va_S A H0 H locs → lv_has ls 10 [(4, .int (nI (mS rw mp x y 4))), (5, .int (nI (mC mp x y 4))), (0, .ref (ad ri)), (1, .ref (ad mi)), (2, .int (nI x)), (3, .int (nI y))] → W p l e rmX2_mendedAt s m args below meth c H locs cells slots Q (F0 m 107 ls [])) : ∀ (d : Nat) (k : Nat) (H : Heap) (locs : List Loc) (ls : Array Slot), 4 - k < d → k ≤ 4 → va_P G.1 vwB (wl N ad C) H → va_D A (wl N ad C) → va_S A H0 H locs → lv_has ls 10 [(4, .int (nI (mS rw mp x y k))), (5, .int (nI (mC mp x y k))), (6, .int (nI k)), (0, .ref (ad ri)), (1, .ref (ad mi)), (2, .int (nI x)), (3, .int (nI y))] → W p l e rmX2_mendedAt s m args below meth c H locs cells slots Q (F0 m 9 ls []) := by
  intro d
  induction d with
  | zero => intro k H locs ls hd; exact absurd hd (Nat.not_lt_zero _)
  | succ d ih =>
    intro k H locs ls hd h2 hP hD hS hl
    refine lv_iload hx hb dX2_mendedAt_9 (lv_at hl 2 rfl) ?_
    refine lv_iconst (v := nI 4) hx hb dX2_mendedAt_11 (by decide) ?_
    refine lv_icmp_ge (tgt := 107) hx hb dX2_mendedAt_12 (by decide) (fun c12 => ?_) (fun c12 => ?_)
    · have h5 : k = 4 := by have := (nI_leI (by omega) (by omega)).mp c12; omega
      subst h5
      exact kx H locs ls hP hD hS (lv_sub hl [0, 1, 3, 4, 5, 6] rfl)
    · have h4 : k < 4 := by have := mt (nI_leI (by omega) (by omega)).mpr c12; omega
      rcases (show k = 0 ∨ k = 1 ∨ k = 2 ∨ k = 3 by omega) with rfl | rfl | rfl | rfl
      · rcases Nat.lt_or_ge x 2 with hq0 | hq0
        · have hq : ¬ (2 ≤ x) := by omega
          refine lv_iload hx hb dX2_mendedAt_15 (lv_at hl 2 rfl) ?_
          refine lv_iconst (v := nI 2) hx hb dX2_mendedAt_17 (by decide) ?_
          refine lv_irem hx hb dX2_mendedAt_18 (by decide) ?_
          refine lv_asI (y := nI 0) (pk_rem (by omega) (by omega) (by omega)) ?_
          refine lv_if_ne (tgt := 27) hx hb dX2_mendedAt_19 (by decide) (fun c9 => absurd (by decide) c9) (fun _ => ?_)
          refine lv_bipush (v := -nI 2) hx hb dX2_mendedAt_22 (by decide) ?_
          refine lv_goto (tgt := 28) hx hb dX2_mendedAt_24 (by decide) ?_
          refine lv_istore (lv' := [(7, .int (-nI 2)), (4, .int (nI (mS rw mp x y 0))), (5, .int (nI (mC mp x y 0))), (6, .int (nI 0)), (0, .ref (ad ri)), (1, .ref (ad mi)), (2, .int (nI x)), (3, .int (nI y))]) hx hb dX2_mendedAt_28 hl (by decide) rfl (fun ls hl => ?_)
          refine lv_iload hx hb dX2_mendedAt_30 (lv_at hl 3 rfl) ?_
          refine lv_iconst (v := nI 2) hx hb dX2_mendedAt_32 (by decide) ?_
          refine lv_icmp_ge (tgt := 43) hx hb dX2_mendedAt_33 (by decide) (fun c9 => absurd c9 (by decide)) (fun _ => ?_)
          refine lv_iload_n hx hb dX2_mendedAt_36 rfl (lv_at hl 6 rfl) ?_
          refine lv_iload hx hb dX2_mendedAt_37 (lv_at hl 0 rfl) ?_
          refine lv_iadd hx hb dX2_mendedAt_39 ?_
          refine lv_goto (tgt := 44) hx hb dX2_mendedAt_40 (by decide) ?_
          refine lv_istore (lv' := [(8, .int ((nI x) + (-nI 2))), (7, .int (-nI 2)), (4, .int (nI (mS rw mp x y 0))), (5, .int (nI (mC mp x y 0))), (6, .int (nI 0)), (0, .ref (ad ri)), (1, .ref (ad mi)), (2, .int (nI x)), (3, .int (nI y))]) hx hb dX2_mendedAt_44 hl (by decide) rfl (fun ls hl => ?_)
          refine lv_iload hx hb dX2_mendedAt_46 (lv_at hl 4 rfl) ?_
          refine lv_iconst (v := nI 2) hx hb dX2_mendedAt_48 (by decide) ?_
          refine lv_icmp_ge (tgt := 56) hx hb dX2_mendedAt_49 (by decide) (fun c9 => absurd c9 (by decide)) (fun _ => ?_)
          refine lv_iload_n hx hb dX2_mendedAt_52 rfl (lv_at hl 8 rfl) ?_
          refine lv_goto (tgt := 60) hx hb dX2_mendedAt_53 (by decide) ?_
          refine lv_istore (lv' := [(9, .int (nI y)), (8, .int ((nI x) + (-nI 2))), (7, .int (-nI 2)), (4, .int (nI (mS rw mp x y 0))), (5, .int (nI (mC mp x y 0))), (6, .int (nI 0)), (0, .ref (ad ri)), (1, .ref (ad mi)), (2, .int (nI x)), (3, .int (nI y))]) hx hb dX2_mendedAt_60 hl (by decide) rfl (fun ls hl => ?_)
          refine lv_iload hx hb dX2_mendedAt_62 (lv_at hl 1 rfl) ?_
          refine lv_iload hx hb dX2_mendedAt_64 (lv_at hl 0 rfl) ?_
          refine iw_pi (va_runSN (As := [.int ((nI x) + (-nI 2)), .int (nI y)]) (rest := []) ⟨hx, hb, hml, hown, hts⟩ (kX6_isPlace l ((nI x) + (-nI 2)) (nI y)) ⟨va_cnB (host := RX6) 2 hts gX2_mendedAt_X6_isPlace_n61 rfl rfl rfl (nw_RX2_61 hK.2) (hts _ il_X2_mendedAt_iniX6) (by decide +kernel) ⟨Nat.le_of_ble_eq_true rfl, Nat.le_of_ble_eq_true rfl⟩, (hts _ il_X2_mendedAt_st_X6_isPlace), trivial⟩ ⟨fun a U g mk q => q, fun U hU hW => ⟨rfl, trivial⟩⟩ rfl rfl hl.1 rfl (lv_room (Nat.le_of_ble_eq_true rfl)) dX2_mendedAt_66 ⟨hcc, hcs⟩) hP hS (fun r8 u8 H locs hw8 hP hS => ?_)
          refine lv_asI hw8 ?_
          refine lv_asI (y := nI 0) (by rw [isPl_xn (nI_neg (by omega) (by omega))]; rfl) ?_
          refine lv_if_eq (tgt := 101) hx hb dX2_mendedAt_69 (by decide) (fun _ => ?_) (fun c9 => absurd (by decide) c9)
          refine lv_iinc (v := nI 1) (lv' := [(6, .int (nI 1)), (9, .int (nI y)), (8, .int ((nI x) + (-nI 2))), (7, .int (-nI 2)), (4, .int (nI (mS rw mp x y 0))), (5, .int (nI (mC mp x y 0))), (0, .ref (ad ri)), (1, .ref (ad mi)), (2, .int (nI x)), (3, .int (nI y))]) hx hb dX2_mendedAt_101 hl (k := 5) rfl (iinc_nat _ 1) (by decide) rfl (fun ls hl => ?_)
          refine lv_goto (tgt := 9) hx hb dX2_mendedAt_104 (by decide) ?_
          have e9 : mS rw mp x y (0 + 1) = mS rw mp x y 0 := by show mS rw mp x y 0 + _ = _; simp [nbOk, nbAt, hq]
          have e10 : mC mp x y (0 + 1) = mC mp x y 0 := by show mC mp x y 0 + _ = _; simp [nbOk, nbAt, hq]
          exact ih (0 + 1) H locs ls (by omega) (by omega) hP hD hS (by rw [e9, e10]; exact (lv_sub hl [4, 5, 0, 6, 7, 8, 9] rfl))
        · have hq : 2 ≤ x := by omega
          refine lv_iload hx hb dX2_mendedAt_15 (lv_at hl 2 rfl) ?_
          refine lv_iconst (v := nI 2) hx hb dX2_mendedAt_17 (by decide) ?_
          refine lv_irem hx hb dX2_mendedAt_18 (by decide) ?_
          refine lv_asI (y := nI 0) (pk_rem (by omega) (by omega) (by omega)) ?_
          refine lv_if_ne (tgt := 27) hx hb dX2_mendedAt_19 (by decide) (fun c9 => absurd (by decide) c9) (fun _ => ?_)
          refine lv_bipush (v := -nI 2) hx hb dX2_mendedAt_22 (by decide) ?_
          refine lv_goto (tgt := 28) hx hb dX2_mendedAt_24 (by decide) ?_
          refine lv_istore (lv' := [(7, .int (-nI 2)), (4, .int (nI (mS rw mp x y 0))), (5, .int (nI (mC mp x y 0))), (6, .int (nI 0)), (0, .ref (ad ri)), (1, .ref (ad mi)), (2, .int (nI x)), (3, .int (nI y))]) hx hb dX2_mendedAt_28 hl (by decide) rfl (fun ls hl => ?_)
          refine lv_iload hx hb dX2_mendedAt_30 (lv_at hl 3 rfl) ?_
          refine lv_iconst (v := nI 2) hx hb dX2_mendedAt_32 (by decide) ?_
          refine lv_icmp_ge (tgt := 43) hx hb dX2_mendedAt_33 (by decide) (fun c9 => absurd c9 (by decide)) (fun _ => ?_)
          refine lv_iload_n hx hb dX2_mendedAt_36 rfl (lv_at hl 6 rfl) ?_
          refine lv_iload hx hb dX2_mendedAt_37 (lv_at hl 0 rfl) ?_
          refine lv_iadd hx hb dX2_mendedAt_39 ?_
          refine lv_goto (tgt := 44) hx hb dX2_mendedAt_40 (by decide) ?_
          refine lv_asI (y := nI (x - 2)) (nI_subn hq) ?_
          refine lv_istore (lv' := [(8, .int (nI (x - 2))), (7, .int (-nI 2)), (4, .int (nI (mS rw mp x y 0))), (5, .int (nI (mC mp x y 0))), (6, .int (nI 0)), (0, .ref (ad ri)), (1, .ref (ad mi)), (2, .int (nI x)), (3, .int (nI y))]) hx hb dX2_mendedAt_44 hl (by decide) rfl (fun ls hl => ?_)
          refine lv_iload hx hb dX2_mendedAt_46 (lv_at hl 4 rfl) ?_
          refine lv_iconst (v := nI 2) hx hb dX2_mendedAt_48 (by decide) ?_
          refine lv_icmp_ge (tgt := 56) hx hb dX2_mendedAt_49 (by decide) (fun c9 => absurd c9 (by decide)) (fun _ => ?_)
          refine lv_iload_n hx hb dX2_mendedAt_52 rfl (lv_at hl 8 rfl) ?_
          refine lv_goto (tgt := 60) hx hb dX2_mendedAt_53 (by decide) ?_
          refine lv_istore (lv' := [(9, .int (nI y)), (8, .int (nI (x - 2))), (7, .int (-nI 2)), (4, .int (nI (mS rw mp x y 0))), (5, .int (nI (mC mp x y 0))), (6, .int (nI 0)), (0, .ref (ad ri)), (1, .ref (ad mi)), (2, .int (nI x)), (3, .int (nI y))]) hx hb dX2_mendedAt_60 hl (by decide) rfl (fun ls hl => ?_)
          refine lv_iload hx hb dX2_mendedAt_62 (lv_at hl 1 rfl) ?_
          refine lv_iload hx hb dX2_mendedAt_64 (lv_at hl 0 rfl) ?_
          refine iw_pi (va_runSN (As := [.int (nI (x - 2)), .int (nI y)]) (rest := []) ⟨hx, hb, hml, hown, hts⟩ (kX6_isPlace l (nI (x - 2)) (nI y)) ⟨va_cnB (host := RX6) 2 hts gX2_mendedAt_X6_isPlace_n61 rfl rfl rfl (nw_RX2_61 hK.2) (hts _ il_X2_mendedAt_iniX6) (by decide +kernel) ⟨Nat.le_of_ble_eq_true rfl, Nat.le_of_ble_eq_true rfl⟩, (hts _ il_X2_mendedAt_st_X6_isPlace), trivial⟩ ⟨fun a U g mk q => q, fun U hU hW => ⟨rfl, trivial⟩⟩ rfl rfl hl.1 rfl (lv_room (Nat.le_of_ble_eq_true rfl)) dX2_mendedAt_66 ⟨hcc, hcs⟩) hP hS (fun r8 u8 H locs hw8 hP hS => ?_)
          refine lv_asI hw8 ?_
          refine lv_asI (y := nI 1) (by rw [isPl_in (by omega) (by omega)]; rfl) ?_
          refine lv_if_eq (tgt := 101) hx hb dX2_mendedAt_69 (by decide) (fun c9 => absurd c9 (by decide)) (fun _ => ?_)
          refine lv_aload_n hx hb dX2_mendedAt_72 rfl (lv_at hl 7 rfl) ?_
          refine lv_iload hx hb dX2_mendedAt_73 (lv_at hl 1 rfl) ?_
          refine lv_iload hx hb dX2_mendedAt_75 (lv_at hl 0 rfl) ?_
          refine iw_pi (va_runSN (As := [.int (nI (x - 2)), .int (nI y)]) (rest := [.ref (ad mi)]) ⟨hx, hb, hml, hown, hts⟩ (kX6_placeOf l (x - 2) (y)) ⟨va_cnB (host := RX6) 2 hts gX2_mendedAt_X6_placeOf_n54 rfl rfl rfl (nw_RX2_54 hK.2) (hts _ il_X2_mendedAt_iniX6) (by decide +kernel) ⟨Nat.le_of_ble_eq_true rfl, Nat.le_of_ble_eq_true rfl⟩, (hts _ il_X2_mendedAt_st_X6_placeOf), trivial⟩ ⟨fun a U g mk q => q, fun U hU hW => ⟨rfl, trivial⟩⟩ rfl rfl hl.1 rfl (lv_room (Nat.le_of_ble_eq_true rfl)) dX2_mendedAt_77 ⟨hcc, hcs⟩) hP hS (fun r8 u8 H locs hw8 hP hS => ?_)
          refine lv_asI hw8 ?_
          refine iw_zald (v := (bI mp) (8 * y + (x - 2))) hx hb hK hP lmi (hmi) (vp_in_nI (show 8 * y + (x - 2) < 64 by omega) (by omega)) (congrArg (bI mp) (nI_clamp (by omega))) dX2_mendedAt_80 ?_
          refine lv_if_ne (tgt := 101) hx hb dX2_mendedAt_81 (by decide) (fun c81 => ?_) (fun c81 => ?_)
          · have e8 : mp (8 * y + (x - 2)) = true := by cases hq9 : mp (8 * y + (x - 2)) <;> simp [bI, hq9, nI] at c81 ⊢
            refine lv_iinc (v := nI 1) (lv' := [(6, .int (nI 1)), (9, .int (nI y)), (8, .int (nI (x - 2))), (7, .int (-nI 2)), (4, .int (nI (mS rw mp x y 0))), (5, .int (nI (mC mp x y 0))), (0, .ref (ad ri)), (1, .ref (ad mi)), (2, .int (nI x)), (3, .int (nI y))]) hx hb dX2_mendedAt_101 hl (k := 5) rfl (iinc_nat _ 1) (by decide) rfl (fun ls hl => ?_)
            refine lv_goto (tgt := 9) hx hb dX2_mendedAt_104 (by decide) ?_
            have e9 : mS rw mp x y (0 + 1) = mS rw mp x y 0 := by show mS rw mp x y 0 + _ = _; simp [nbOk, nbAt, hq, e8]
            have e10 : mC mp x y (0 + 1) = mC mp x y 0 := by show mC mp x y 0 + _ = _; simp [nbOk, nbAt, hq, e8]
            exact ih (0 + 1) H locs ls (by omega) (by omega) hP hD hS (by rw [e9, e10]; exact (lv_sub hl [4, 5, 0, 6, 7, 8, 9] rfl))
          · have e8 : mp (8 * y + (x - 2)) = false := by cases hq9 : mp (8 * y + (x - 2)) <;> simp [bI, hq9, nI] at c81 ⊢
            refine lv_iload hx hb dX2_mendedAt_84 (lv_at hl 3 rfl) ?_
            refine lv_aload_n hx hb dX2_mendedAt_86 rfl (lv_at hl 6 rfl) ?_
            refine lv_iload hx hb dX2_mendedAt_87 (lv_at hl 1 rfl) ?_
            refine lv_iload hx hb dX2_mendedAt_89 (lv_at hl 0 rfl) ?_
            refine iw_pi (va_runSN (As := [.int (nI (x - 2)), .int (nI y)]) (rest := [.ref (ad ri), .int (nI (mS rw mp x y 0))]) ⟨hx, hb, hml, hown, hts⟩ (kX6_placeOf l (x - 2) (y)) ⟨va_cnB (host := RX6) 2 hts gX2_mendedAt_X6_placeOf_n54 rfl rfl rfl (nw_RX2_54 hK.2) (hts _ il_X2_mendedAt_iniX6) (by decide +kernel) ⟨Nat.le_of_ble_eq_true rfl, Nat.le_of_ble_eq_true rfl⟩, (hts _ il_X2_mendedAt_st_X6_placeOf), trivial⟩ ⟨fun a U g mk q => q, fun U hU hW => ⟨rfl, trivial⟩⟩ rfl rfl hl.1 rfl (lv_room (Nat.le_of_ble_eq_true rfl)) dX2_mendedAt_91 ⟨hcc, hcs⟩) hP hS (fun r8 u8 H locs hw8 hP hS => ?_)
            refine lv_asI hw8 ?_
            refine iw_iald (v := nI (rw (8 * y + (x - 2)))) hx hb hK hP lri (hri) (vp_in_nI (show 8 * y + (x - 2) < 64 by omega) (by omega)) (congrArg (fun i => nI (rw i)) (nI_clamp (by omega))) dX2_mendedAt_94 ?_
            refine lv_iadd hx hb dX2_mendedAt_95 ?_
            refine lv_asI (y := nI ((mS rw mp x y 0) + (rw (8 * y + (x - 2))))) (nI_add _ _) ?_
            refine lv_istore (lv' := [(4, .int (nI ((mS rw mp x y 0) + (rw (8 * y + (x - 2)))))), (9, .int (nI y)), (8, .int (nI (x - 2))), (7, .int (-nI 2)), (5, .int (nI (mC mp x y 0))), (6, .int (nI 0)), (0, .ref (ad ri)), (1, .ref (ad mi)), (2, .int (nI x)), (3, .int (nI y))]) hx hb dX2_mendedAt_96 hl (by decide) rfl (fun ls hl => ?_)
            refine lv_iinc (v := nI ((mC mp x y 0) + 1)) (lv' := [(5, .int (nI ((mC mp x y 0) + 1))), (4, .int (nI ((mS rw mp x y 0) + (rw (8 * y + (x - 2)))))), (9, .int (nI y)), (8, .int (nI (x - 2))), (7, .int (-nI 2)), (6, .int (nI 0)), (0, .ref (ad ri)), (1, .ref (ad mi)), (2, .int (nI x)), (3, .int (nI y))]) hx hb dX2_mendedAt_98 hl (k := 4) rfl (iinc_nat _ 1) (by decide) rfl (fun ls hl => ?_)
            refine lv_iinc (v := nI 1) (lv' := [(6, .int (nI 1)), (5, .int (nI ((mC mp x y 0) + 1))), (4, .int (nI ((mS rw mp x y 0) + (rw (8 * y + (x - 2)))))), (9, .int (nI y)), (8, .int (nI (x - 2))), (7, .int (-nI 2)), (0, .ref (ad ri)), (1, .ref (ad mi)), (2, .int (nI x)), (3, .int (nI y))]) hx hb dX2_mendedAt_101 hl (k := 5) rfl (iinc_nat _ 1) (by decide) rfl (fun ls hl => ?_)
            refine lv_goto (tgt := 9) hx hb dX2_mendedAt_104 (by decide) ?_
            have e9 : mS rw mp x y (0 + 1) = (mS rw mp x y 0) + (rw (8 * y + (x - 2))) := by show mS rw mp x y 0 + _ = _; simp [nbOk, nbAt, hq, e8]
            have e10 : mC mp x y (0 + 1) = (mC mp x y 0) + 1 := by show mC mp x y 0 + _ = _; simp [nbOk, nbAt, hq, e8]
            exact ih (0 + 1) H locs ls (by omega) (by omega) hP hD hS (by rw [e9, e10]; exact (lv_sub hl [2, 1, 0, 6, 7, 8, 9] rfl))
      · rcases Nat.lt_or_ge x 6 with hq0 | hq0
        · have hq : x < 6 := by omega
          refine lv_iload hx hb dX2_mendedAt_15 (lv_at hl 2 rfl) ?_
          refine lv_iconst (v := nI 2) hx hb dX2_mendedAt_17 (by decide) ?_
          refine lv_irem hx hb dX2_mendedAt_18 (by decide) ?_
          refine lv_asI (y := nI 1) (pk_rem (by omega) (by omega) (by omega)) ?_
          refine lv_if_ne (tgt := 27) hx hb dX2_mendedAt_19 (by decide) (fun _ => ?_) (fun c9 => absurd c9 (by decide))
          refine lv_iconst (v := nI 2) hx hb dX2_mendedAt_27 (by decide) ?_
          refine lv_istore (lv' := [(7, .int (nI 2)), (4, .int (nI (mS rw mp x y 1))), (5, .int (nI (mC mp x y 1))), (6, .int (nI 1)), (0, .ref (ad ri)), (1, .ref (ad mi)), (2, .int (nI x)), (3, .int (nI y))]) hx hb dX2_mendedAt_28 hl (by decide) rfl (fun ls hl => ?_)
          refine lv_iload hx hb dX2_mendedAt_30 (lv_at hl 3 rfl) ?_
          refine lv_iconst (v := nI 2) hx hb dX2_mendedAt_32 (by decide) ?_
          refine lv_icmp_ge (tgt := 43) hx hb dX2_mendedAt_33 (by decide) (fun c9 => absurd c9 (by decide)) (fun _ => ?_)
          refine lv_iload_n hx hb dX2_mendedAt_36 rfl (lv_at hl 6 rfl) ?_
          refine lv_iload hx hb dX2_mendedAt_37 (lv_at hl 0 rfl) ?_
          refine lv_iadd hx hb dX2_mendedAt_39 ?_
          refine lv_asI (y := nI (x + 2)) (nI_add _ _) ?_
          refine lv_goto (tgt := 44) hx hb dX2_mendedAt_40 (by decide) ?_
          refine lv_istore (lv' := [(8, .int (nI (x + 2))), (7, .int (nI 2)), (4, .int (nI (mS rw mp x y 1))), (5, .int (nI (mC mp x y 1))), (6, .int (nI 1)), (0, .ref (ad ri)), (1, .ref (ad mi)), (2, .int (nI x)), (3, .int (nI y))]) hx hb dX2_mendedAt_44 hl (by decide) rfl (fun ls hl => ?_)
          refine lv_iload hx hb dX2_mendedAt_46 (lv_at hl 4 rfl) ?_
          refine lv_iconst (v := nI 2) hx hb dX2_mendedAt_48 (by decide) ?_
          refine lv_icmp_ge (tgt := 56) hx hb dX2_mendedAt_49 (by decide) (fun c9 => absurd c9 (by decide)) (fun _ => ?_)
          refine lv_iload_n hx hb dX2_mendedAt_52 rfl (lv_at hl 8 rfl) ?_
          refine lv_goto (tgt := 60) hx hb dX2_mendedAt_53 (by decide) ?_
          refine lv_istore (lv' := [(9, .int (nI y)), (8, .int (nI (x + 2))), (7, .int (nI 2)), (4, .int (nI (mS rw mp x y 1))), (5, .int (nI (mC mp x y 1))), (6, .int (nI 1)), (0, .ref (ad ri)), (1, .ref (ad mi)), (2, .int (nI x)), (3, .int (nI y))]) hx hb dX2_mendedAt_60 hl (by decide) rfl (fun ls hl => ?_)
          refine lv_iload hx hb dX2_mendedAt_62 (lv_at hl 1 rfl) ?_
          refine lv_iload hx hb dX2_mendedAt_64 (lv_at hl 0 rfl) ?_
          refine iw_pi (va_runSN (As := [.int (nI (x + 2)), .int (nI y)]) (rest := []) ⟨hx, hb, hml, hown, hts⟩ (kX6_isPlace l (nI (x + 2)) (nI y)) ⟨va_cnB (host := RX6) 2 hts gX2_mendedAt_X6_isPlace_n61 rfl rfl rfl (nw_RX2_61 hK.2) (hts _ il_X2_mendedAt_iniX6) (by decide +kernel) ⟨Nat.le_of_ble_eq_true rfl, Nat.le_of_ble_eq_true rfl⟩, (hts _ il_X2_mendedAt_st_X6_isPlace), trivial⟩ ⟨fun a U g mk q => q, fun U hU hW => ⟨rfl, trivial⟩⟩ rfl rfl hl.1 rfl (lv_room (Nat.le_of_ble_eq_true rfl)) dX2_mendedAt_66 ⟨hcc, hcs⟩) hP hS (fun r8 u8 H locs hw8 hP hS => ?_)
          refine lv_asI hw8 ?_
          refine lv_asI (y := nI 1) (by rw [isPl_in (by omega) (by omega)]; rfl) ?_
          refine lv_if_eq (tgt := 101) hx hb dX2_mendedAt_69 (by decide) (fun c9 => absurd c9 (by decide)) (fun _ => ?_)
          refine lv_aload_n hx hb dX2_mendedAt_72 rfl (lv_at hl 7 rfl) ?_
          refine lv_iload hx hb dX2_mendedAt_73 (lv_at hl 1 rfl) ?_
          refine lv_iload hx hb dX2_mendedAt_75 (lv_at hl 0 rfl) ?_
          refine iw_pi (va_runSN (As := [.int (nI (x + 2)), .int (nI y)]) (rest := [.ref (ad mi)]) ⟨hx, hb, hml, hown, hts⟩ (kX6_placeOf l (x + 2) (y)) ⟨va_cnB (host := RX6) 2 hts gX2_mendedAt_X6_placeOf_n54 rfl rfl rfl (nw_RX2_54 hK.2) (hts _ il_X2_mendedAt_iniX6) (by decide +kernel) ⟨Nat.le_of_ble_eq_true rfl, Nat.le_of_ble_eq_true rfl⟩, (hts _ il_X2_mendedAt_st_X6_placeOf), trivial⟩ ⟨fun a U g mk q => q, fun U hU hW => ⟨rfl, trivial⟩⟩ rfl rfl hl.1 rfl (lv_room (Nat.le_of_ble_eq_true rfl)) dX2_mendedAt_77 ⟨hcc, hcs⟩) hP hS (fun r8 u8 H locs hw8 hP hS => ?_)
          refine lv_asI hw8 ?_
          refine iw_zald (v := (bI mp) (8 * y + (x + 2))) hx hb hK hP lmi (hmi) (vp_in_nI (show 8 * y + (x + 2) < 64 by omega) (by omega)) (congrArg (bI mp) (nI_clamp (by omega))) dX2_mendedAt_80 ?_
          refine lv_if_ne (tgt := 101) hx hb dX2_mendedAt_81 (by decide) (fun c81 => ?_) (fun c81 => ?_)
          · have e8 : mp (8 * y + (x + 2)) = true := by cases hq9 : mp (8 * y + (x + 2)) <;> simp [bI, hq9, nI] at c81 ⊢
            refine lv_iinc (v := nI 2) (lv' := [(6, .int (nI 2)), (9, .int (nI y)), (8, .int (nI (x + 2))), (7, .int (nI 2)), (4, .int (nI (mS rw mp x y 1))), (5, .int (nI (mC mp x y 1))), (0, .ref (ad ri)), (1, .ref (ad mi)), (2, .int (nI x)), (3, .int (nI y))]) hx hb dX2_mendedAt_101 hl (k := 5) rfl (iinc_nat _ 1) (by decide) rfl (fun ls hl => ?_)
            refine lv_goto (tgt := 9) hx hb dX2_mendedAt_104 (by decide) ?_
            have e9 : mS rw mp x y (1 + 1) = mS rw mp x y 1 := by show mS rw mp x y 1 + _ = _; simp [nbOk, nbAt, hq, e8]
            have e10 : mC mp x y (1 + 1) = mC mp x y 1 := by show mC mp x y 1 + _ = _; simp [nbOk, nbAt, hq, e8]
            exact ih (1 + 1) H locs ls (by omega) (by omega) hP hD hS (by rw [e9, e10]; exact (lv_sub hl [4, 5, 0, 6, 7, 8, 9] rfl))
          · have e8 : mp (8 * y + (x + 2)) = false := by cases hq9 : mp (8 * y + (x + 2)) <;> simp [bI, hq9, nI] at c81 ⊢
            refine lv_iload hx hb dX2_mendedAt_84 (lv_at hl 3 rfl) ?_
            refine lv_aload_n hx hb dX2_mendedAt_86 rfl (lv_at hl 6 rfl) ?_
            refine lv_iload hx hb dX2_mendedAt_87 (lv_at hl 1 rfl) ?_
            refine lv_iload hx hb dX2_mendedAt_89 (lv_at hl 0 rfl) ?_
            refine iw_pi (va_runSN (As := [.int (nI (x + 2)), .int (nI y)]) (rest := [.ref (ad ri), .int (nI (mS rw mp x y 1))]) ⟨hx, hb, hml, hown, hts⟩ (kX6_placeOf l (x + 2) (y)) ⟨va_cnB (host := RX6) 2 hts gX2_mendedAt_X6_placeOf_n54 rfl rfl rfl (nw_RX2_54 hK.2) (hts _ il_X2_mendedAt_iniX6) (by decide +kernel) ⟨Nat.le_of_ble_eq_true rfl, Nat.le_of_ble_eq_true rfl⟩, (hts _ il_X2_mendedAt_st_X6_placeOf), trivial⟩ ⟨fun a U g mk q => q, fun U hU hW => ⟨rfl, trivial⟩⟩ rfl rfl hl.1 rfl (lv_room (Nat.le_of_ble_eq_true rfl)) dX2_mendedAt_91 ⟨hcc, hcs⟩) hP hS (fun r8 u8 H locs hw8 hP hS => ?_)
            refine lv_asI hw8 ?_
            refine iw_iald (v := nI (rw (8 * y + (x + 2)))) hx hb hK hP lri (hri) (vp_in_nI (show 8 * y + (x + 2) < 64 by omega) (by omega)) (congrArg (fun i => nI (rw i)) (nI_clamp (by omega))) dX2_mendedAt_94 ?_
            refine lv_iadd hx hb dX2_mendedAt_95 ?_
            refine lv_asI (y := nI ((mS rw mp x y 1) + (rw (8 * y + (x + 2))))) (nI_add _ _) ?_
            refine lv_istore (lv' := [(4, .int (nI ((mS rw mp x y 1) + (rw (8 * y + (x + 2)))))), (9, .int (nI y)), (8, .int (nI (x + 2))), (7, .int (nI 2)), (5, .int (nI (mC mp x y 1))), (6, .int (nI 1)), (0, .ref (ad ri)), (1, .ref (ad mi)), (2, .int (nI x)), (3, .int (nI y))]) hx hb dX2_mendedAt_96 hl (by decide) rfl (fun ls hl => ?_)
            refine lv_iinc (v := nI ((mC mp x y 1) + 1)) (lv' := [(5, .int (nI ((mC mp x y 1) + 1))), (4, .int (nI ((mS rw mp x y 1) + (rw (8 * y + (x + 2)))))), (9, .int (nI y)), (8, .int (nI (x + 2))), (7, .int (nI 2)), (6, .int (nI 1)), (0, .ref (ad ri)), (1, .ref (ad mi)), (2, .int (nI x)), (3, .int (nI y))]) hx hb dX2_mendedAt_98 hl (k := 4) rfl (iinc_nat _ 1) (by decide) rfl (fun ls hl => ?_)
            refine lv_iinc (v := nI 2) (lv' := [(6, .int (nI 2)), (5, .int (nI ((mC mp x y 1) + 1))), (4, .int (nI ((mS rw mp x y 1) + (rw (8 * y + (x + 2)))))), (9, .int (nI y)), (8, .int (nI (x + 2))), (7, .int (nI 2)), (0, .ref (ad ri)), (1, .ref (ad mi)), (2, .int (nI x)), (3, .int (nI y))]) hx hb dX2_mendedAt_101 hl (k := 5) rfl (iinc_nat _ 1) (by decide) rfl (fun ls hl => ?_)
            refine lv_goto (tgt := 9) hx hb dX2_mendedAt_104 (by decide) ?_
            have e9 : mS rw mp x y (1 + 1) = (mS rw mp x y 1) + (rw (8 * y + (x + 2))) := by show mS rw mp x y 1 + _ = _; simp [nbOk, nbAt, hq, e8]
            have e10 : mC mp x y (1 + 1) = (mC mp x y 1) + 1 := by show mC mp x y 1 + _ = _; simp [nbOk, nbAt, hq, e8]
            exact ih (1 + 1) H locs ls (by omega) (by omega) hP hD hS (by rw [e9, e10]; exact (lv_sub hl [2, 1, 0, 6, 7, 8, 9] rfl))
        · have hq : ¬ (x < 6) := by omega
          refine lv_iload hx hb dX2_mendedAt_15 (lv_at hl 2 rfl) ?_
          refine lv_iconst (v := nI 2) hx hb dX2_mendedAt_17 (by decide) ?_
          refine lv_irem hx hb dX2_mendedAt_18 (by decide) ?_
          refine lv_asI (y := nI 1) (pk_rem (by omega) (by omega) (by omega)) ?_
          refine lv_if_ne (tgt := 27) hx hb dX2_mendedAt_19 (by decide) (fun _ => ?_) (fun c9 => absurd c9 (by decide))
          refine lv_iconst (v := nI 2) hx hb dX2_mendedAt_27 (by decide) ?_
          refine lv_istore (lv' := [(7, .int (nI 2)), (4, .int (nI (mS rw mp x y 1))), (5, .int (nI (mC mp x y 1))), (6, .int (nI 1)), (0, .ref (ad ri)), (1, .ref (ad mi)), (2, .int (nI x)), (3, .int (nI y))]) hx hb dX2_mendedAt_28 hl (by decide) rfl (fun ls hl => ?_)
          refine lv_iload hx hb dX2_mendedAt_30 (lv_at hl 3 rfl) ?_
          refine lv_iconst (v := nI 2) hx hb dX2_mendedAt_32 (by decide) ?_
          refine lv_icmp_ge (tgt := 43) hx hb dX2_mendedAt_33 (by decide) (fun c9 => absurd c9 (by decide)) (fun _ => ?_)
          refine lv_iload_n hx hb dX2_mendedAt_36 rfl (lv_at hl 6 rfl) ?_
          refine lv_iload hx hb dX2_mendedAt_37 (lv_at hl 0 rfl) ?_
          refine lv_iadd hx hb dX2_mendedAt_39 ?_
          refine lv_asI (y := nI (x + 2)) (nI_add _ _) ?_
          refine lv_goto (tgt := 44) hx hb dX2_mendedAt_40 (by decide) ?_
          refine lv_istore (lv' := [(8, .int (nI (x + 2))), (7, .int (nI 2)), (4, .int (nI (mS rw mp x y 1))), (5, .int (nI (mC mp x y 1))), (6, .int (nI 1)), (0, .ref (ad ri)), (1, .ref (ad mi)), (2, .int (nI x)), (3, .int (nI y))]) hx hb dX2_mendedAt_44 hl (by decide) rfl (fun ls hl => ?_)
          refine lv_iload hx hb dX2_mendedAt_46 (lv_at hl 4 rfl) ?_
          refine lv_iconst (v := nI 2) hx hb dX2_mendedAt_48 (by decide) ?_
          refine lv_icmp_ge (tgt := 56) hx hb dX2_mendedAt_49 (by decide) (fun c9 => absurd c9 (by decide)) (fun _ => ?_)
          refine lv_iload_n hx hb dX2_mendedAt_52 rfl (lv_at hl 8 rfl) ?_
          refine lv_goto (tgt := 60) hx hb dX2_mendedAt_53 (by decide) ?_
          refine lv_istore (lv' := [(9, .int (nI y)), (8, .int (nI (x + 2))), (7, .int (nI 2)), (4, .int (nI (mS rw mp x y 1))), (5, .int (nI (mC mp x y 1))), (6, .int (nI 1)), (0, .ref (ad ri)), (1, .ref (ad mi)), (2, .int (nI x)), (3, .int (nI y))]) hx hb dX2_mendedAt_60 hl (by decide) rfl (fun ls hl => ?_)
          refine lv_iload hx hb dX2_mendedAt_62 (lv_at hl 1 rfl) ?_
          refine lv_iload hx hb dX2_mendedAt_64 (lv_at hl 0 rfl) ?_
          refine iw_pi (va_runSN (As := [.int (nI (x + 2)), .int (nI y)]) (rest := []) ⟨hx, hb, hml, hown, hts⟩ (kX6_isPlace l (nI (x + 2)) (nI y)) ⟨va_cnB (host := RX6) 2 hts gX2_mendedAt_X6_isPlace_n61 rfl rfl rfl (nw_RX2_61 hK.2) (hts _ il_X2_mendedAt_iniX6) (by decide +kernel) ⟨Nat.le_of_ble_eq_true rfl, Nat.le_of_ble_eq_true rfl⟩, (hts _ il_X2_mendedAt_st_X6_isPlace), trivial⟩ ⟨fun a U g mk q => q, fun U hU hW => ⟨rfl, trivial⟩⟩ rfl rfl hl.1 rfl (lv_room (Nat.le_of_ble_eq_true rfl)) dX2_mendedAt_66 ⟨hcc, hcs⟩) hP hS (fun r8 u8 H locs hw8 hP hS => ?_)
          refine lv_asI hw8 ?_
          refine lv_asI (y := nI 0) (by rw [isPl_x8 (by omega) (by omega)]; rfl) ?_
          refine lv_if_eq (tgt := 101) hx hb dX2_mendedAt_69 (by decide) (fun _ => ?_) (fun c9 => absurd (by decide) c9)
          refine lv_iinc (v := nI 2) (lv' := [(6, .int (nI 2)), (9, .int (nI y)), (8, .int (nI (x + 2))), (7, .int (nI 2)), (4, .int (nI (mS rw mp x y 1))), (5, .int (nI (mC mp x y 1))), (0, .ref (ad ri)), (1, .ref (ad mi)), (2, .int (nI x)), (3, .int (nI y))]) hx hb dX2_mendedAt_101 hl (k := 5) rfl (iinc_nat _ 1) (by decide) rfl (fun ls hl => ?_)
          refine lv_goto (tgt := 9) hx hb dX2_mendedAt_104 (by decide) ?_
          have e9 : mS rw mp x y (1 + 1) = mS rw mp x y 1 := by show mS rw mp x y 1 + _ = _; simp [nbOk, nbAt, hq]
          have e10 : mC mp x y (1 + 1) = mC mp x y 1 := by show mC mp x y 1 + _ = _; simp [nbOk, nbAt, hq]
          exact ih (1 + 1) H locs ls (by omega) (by omega) hP hD hS (by rw [e9, e10]; exact (lv_sub hl [4, 5, 0, 6, 7, 8, 9] rfl))
      · rcases Nat.lt_or_ge y 2 with hq0 | hq0
        · have hq : ¬ (2 ≤ y) := by omega
          refine lv_iload hx hb dX2_mendedAt_15 (lv_at hl 2 rfl) ?_
          refine lv_iconst (v := nI 2) hx hb dX2_mendedAt_17 (by decide) ?_
          refine lv_irem hx hb dX2_mendedAt_18 (by decide) ?_
          refine lv_asI (y := nI 0) (pk_rem (by omega) (by omega) (by omega)) ?_
          refine lv_if_ne (tgt := 27) hx hb dX2_mendedAt_19 (by decide) (fun c9 => absurd (by decide) c9) (fun _ => ?_)
          refine lv_bipush (v := -nI 2) hx hb dX2_mendedAt_22 (by decide) ?_
          refine lv_goto (tgt := 28) hx hb dX2_mendedAt_24 (by decide) ?_
          refine lv_istore (lv' := [(7, .int (-nI 2)), (4, .int (nI (mS rw mp x y 2))), (5, .int (nI (mC mp x y 2))), (6, .int (nI 2)), (0, .ref (ad ri)), (1, .ref (ad mi)), (2, .int (nI x)), (3, .int (nI y))]) hx hb dX2_mendedAt_28 hl (by decide) rfl (fun ls hl => ?_)
          refine lv_iload hx hb dX2_mendedAt_30 (lv_at hl 3 rfl) ?_
          refine lv_iconst (v := nI 2) hx hb dX2_mendedAt_32 (by decide) ?_
          refine lv_icmp_ge (tgt := 43) hx hb dX2_mendedAt_33 (by decide) (fun _ => ?_) (fun c9 => absurd (by decide) c9)
          refine lv_iload_n hx hb dX2_mendedAt_43 rfl (lv_at hl 6 rfl) ?_
          refine lv_istore (lv' := [(8, .int (nI x)), (7, .int (-nI 2)), (4, .int (nI (mS rw mp x y 2))), (5, .int (nI (mC mp x y 2))), (6, .int (nI 2)), (0, .ref (ad ri)), (1, .ref (ad mi)), (2, .int (nI x)), (3, .int (nI y))]) hx hb dX2_mendedAt_44 hl (by decide) rfl (fun ls hl => ?_)
          refine lv_iload hx hb dX2_mendedAt_46 (lv_at hl 4 rfl) ?_
          refine lv_iconst (v := nI 2) hx hb dX2_mendedAt_48 (by decide) ?_
          refine lv_icmp_ge (tgt := 56) hx hb dX2_mendedAt_49 (by decide) (fun _ => ?_) (fun c9 => absurd (by decide) c9)
          refine lv_iload_n hx hb dX2_mendedAt_56 rfl (lv_at hl 8 rfl) ?_
          refine lv_iload hx hb dX2_mendedAt_57 (lv_at hl 1 rfl) ?_
          refine lv_iadd hx hb dX2_mendedAt_59 ?_
          refine lv_istore (lv' := [(9, .int ((nI y) + (-nI 2))), (8, .int (nI x)), (7, .int (-nI 2)), (4, .int (nI (mS rw mp x y 2))), (5, .int (nI (mC mp x y 2))), (6, .int (nI 2)), (0, .ref (ad ri)), (1, .ref (ad mi)), (2, .int (nI x)), (3, .int (nI y))]) hx hb dX2_mendedAt_60 hl (by decide) rfl (fun ls hl => ?_)
          refine lv_iload hx hb dX2_mendedAt_62 (lv_at hl 1 rfl) ?_
          refine lv_iload hx hb dX2_mendedAt_64 (lv_at hl 0 rfl) ?_
          refine iw_pi (va_runSN (As := [.int (nI x), .int ((nI y) + (-nI 2))]) (rest := []) ⟨hx, hb, hml, hown, hts⟩ (kX6_isPlace l (nI x) ((nI y) + (-nI 2))) ⟨va_cnB (host := RX6) 2 hts gX2_mendedAt_X6_isPlace_n61 rfl rfl rfl (nw_RX2_61 hK.2) (hts _ il_X2_mendedAt_iniX6) (by decide +kernel) ⟨Nat.le_of_ble_eq_true rfl, Nat.le_of_ble_eq_true rfl⟩, (hts _ il_X2_mendedAt_st_X6_isPlace), trivial⟩ ⟨fun a U g mk q => q, fun U hU hW => ⟨rfl, trivial⟩⟩ rfl rfl hl.1 rfl (lv_room (Nat.le_of_ble_eq_true rfl)) dX2_mendedAt_66 ⟨hcc, hcs⟩) hP hS (fun r8 u8 H locs hw8 hP hS => ?_)
          refine lv_asI hw8 ?_
          refine lv_asI (y := nI 0) (by rw [isPl_yn (nI_neg (by omega) (by omega))]; rfl) ?_
          refine lv_if_eq (tgt := 101) hx hb dX2_mendedAt_69 (by decide) (fun _ => ?_) (fun c9 => absurd (by decide) c9)
          refine lv_iinc (v := nI 3) (lv' := [(6, .int (nI 3)), (9, .int ((nI y) + (-nI 2))), (8, .int (nI x)), (7, .int (-nI 2)), (4, .int (nI (mS rw mp x y 2))), (5, .int (nI (mC mp x y 2))), (0, .ref (ad ri)), (1, .ref (ad mi)), (2, .int (nI x)), (3, .int (nI y))]) hx hb dX2_mendedAt_101 hl (k := 5) rfl (iinc_nat _ 1) (by decide) rfl (fun ls hl => ?_)
          refine lv_goto (tgt := 9) hx hb dX2_mendedAt_104 (by decide) ?_
          have e9 : mS rw mp x y (2 + 1) = mS rw mp x y 2 := by show mS rw mp x y 2 + _ = _; simp [nbOk, nbAt, hq]
          have e10 : mC mp x y (2 + 1) = mC mp x y 2 := by show mC mp x y 2 + _ = _; simp [nbOk, nbAt, hq]
          exact ih (2 + 1) H locs ls (by omega) (by omega) hP hD hS (by rw [e9, e10]; exact (lv_sub hl [4, 5, 0, 6, 7, 8, 9] rfl))
        · have hq : 2 ≤ y := by omega
          refine lv_iload hx hb dX2_mendedAt_15 (lv_at hl 2 rfl) ?_
          refine lv_iconst (v := nI 2) hx hb dX2_mendedAt_17 (by decide) ?_
          refine lv_irem hx hb dX2_mendedAt_18 (by decide) ?_
          refine lv_asI (y := nI 0) (pk_rem (by omega) (by omega) (by omega)) ?_
          refine lv_if_ne (tgt := 27) hx hb dX2_mendedAt_19 (by decide) (fun c9 => absurd (by decide) c9) (fun _ => ?_)
          refine lv_bipush (v := -nI 2) hx hb dX2_mendedAt_22 (by decide) ?_
          refine lv_goto (tgt := 28) hx hb dX2_mendedAt_24 (by decide) ?_
          refine lv_istore (lv' := [(7, .int (-nI 2)), (4, .int (nI (mS rw mp x y 2))), (5, .int (nI (mC mp x y 2))), (6, .int (nI 2)), (0, .ref (ad ri)), (1, .ref (ad mi)), (2, .int (nI x)), (3, .int (nI y))]) hx hb dX2_mendedAt_28 hl (by decide) rfl (fun ls hl => ?_)
          refine lv_iload hx hb dX2_mendedAt_30 (lv_at hl 3 rfl) ?_
          refine lv_iconst (v := nI 2) hx hb dX2_mendedAt_32 (by decide) ?_
          refine lv_icmp_ge (tgt := 43) hx hb dX2_mendedAt_33 (by decide) (fun _ => ?_) (fun c9 => absurd (by decide) c9)
          refine lv_iload_n hx hb dX2_mendedAt_43 rfl (lv_at hl 6 rfl) ?_
          refine lv_istore (lv' := [(8, .int (nI x)), (7, .int (-nI 2)), (4, .int (nI (mS rw mp x y 2))), (5, .int (nI (mC mp x y 2))), (6, .int (nI 2)), (0, .ref (ad ri)), (1, .ref (ad mi)), (2, .int (nI x)), (3, .int (nI y))]) hx hb dX2_mendedAt_44 hl (by decide) rfl (fun ls hl => ?_)
          refine lv_iload hx hb dX2_mendedAt_46 (lv_at hl 4 rfl) ?_
          refine lv_iconst (v := nI 2) hx hb dX2_mendedAt_48 (by decide) ?_
          refine lv_icmp_ge (tgt := 56) hx hb dX2_mendedAt_49 (by decide) (fun _ => ?_) (fun c9 => absurd (by decide) c9)
          refine lv_iload_n hx hb dX2_mendedAt_56 rfl (lv_at hl 8 rfl) ?_
          refine lv_iload hx hb dX2_mendedAt_57 (lv_at hl 1 rfl) ?_
          refine lv_iadd hx hb dX2_mendedAt_59 ?_
          refine lv_asI (y := nI (y - 2)) (nI_subn hq) ?_
          refine lv_istore (lv' := [(9, .int (nI (y - 2))), (8, .int (nI x)), (7, .int (-nI 2)), (4, .int (nI (mS rw mp x y 2))), (5, .int (nI (mC mp x y 2))), (6, .int (nI 2)), (0, .ref (ad ri)), (1, .ref (ad mi)), (2, .int (nI x)), (3, .int (nI y))]) hx hb dX2_mendedAt_60 hl (by decide) rfl (fun ls hl => ?_)
          refine lv_iload hx hb dX2_mendedAt_62 (lv_at hl 1 rfl) ?_
          refine lv_iload hx hb dX2_mendedAt_64 (lv_at hl 0 rfl) ?_
          refine iw_pi (va_runSN (As := [.int (nI x), .int (nI (y - 2))]) (rest := []) ⟨hx, hb, hml, hown, hts⟩ (kX6_isPlace l (nI x) (nI (y - 2))) ⟨va_cnB (host := RX6) 2 hts gX2_mendedAt_X6_isPlace_n61 rfl rfl rfl (nw_RX2_61 hK.2) (hts _ il_X2_mendedAt_iniX6) (by decide +kernel) ⟨Nat.le_of_ble_eq_true rfl, Nat.le_of_ble_eq_true rfl⟩, (hts _ il_X2_mendedAt_st_X6_isPlace), trivial⟩ ⟨fun a U g mk q => q, fun U hU hW => ⟨rfl, trivial⟩⟩ rfl rfl hl.1 rfl (lv_room (Nat.le_of_ble_eq_true rfl)) dX2_mendedAt_66 ⟨hcc, hcs⟩) hP hS (fun r8 u8 H locs hw8 hP hS => ?_)
          refine lv_asI hw8 ?_
          refine lv_asI (y := nI 1) (by rw [isPl_in (by omega) (by omega)]; rfl) ?_
          refine lv_if_eq (tgt := 101) hx hb dX2_mendedAt_69 (by decide) (fun c9 => absurd c9 (by decide)) (fun _ => ?_)
          refine lv_aload_n hx hb dX2_mendedAt_72 rfl (lv_at hl 7 rfl) ?_
          refine lv_iload hx hb dX2_mendedAt_73 (lv_at hl 1 rfl) ?_
          refine lv_iload hx hb dX2_mendedAt_75 (lv_at hl 0 rfl) ?_
          refine iw_pi (va_runSN (As := [.int (nI x), .int (nI (y - 2))]) (rest := [.ref (ad mi)]) ⟨hx, hb, hml, hown, hts⟩ (kX6_placeOf l (x) (y - 2)) ⟨va_cnB (host := RX6) 2 hts gX2_mendedAt_X6_placeOf_n54 rfl rfl rfl (nw_RX2_54 hK.2) (hts _ il_X2_mendedAt_iniX6) (by decide +kernel) ⟨Nat.le_of_ble_eq_true rfl, Nat.le_of_ble_eq_true rfl⟩, (hts _ il_X2_mendedAt_st_X6_placeOf), trivial⟩ ⟨fun a U g mk q => q, fun U hU hW => ⟨rfl, trivial⟩⟩ rfl rfl hl.1 rfl (lv_room (Nat.le_of_ble_eq_true rfl)) dX2_mendedAt_77 ⟨hcc, hcs⟩) hP hS (fun r8 u8 H locs hw8 hP hS => ?_)
          refine lv_asI hw8 ?_
          refine iw_zald (v := (bI mp) (8 * (y - 2) + x)) hx hb hK hP lmi (hmi) (vp_in_nI (show 8 * (y - 2) + x < 64 by omega) (by omega)) (congrArg (bI mp) (nI_clamp (by omega))) dX2_mendedAt_80 ?_
          refine lv_if_ne (tgt := 101) hx hb dX2_mendedAt_81 (by decide) (fun c81 => ?_) (fun c81 => ?_)
          · have e8 : mp (8 * (y - 2) + x) = true := by cases hq9 : mp (8 * (y - 2) + x) <;> simp [bI, hq9, nI] at c81 ⊢
            refine lv_iinc (v := nI 3) (lv' := [(6, .int (nI 3)), (9, .int (nI (y - 2))), (8, .int (nI x)), (7, .int (-nI 2)), (4, .int (nI (mS rw mp x y 2))), (5, .int (nI (mC mp x y 2))), (0, .ref (ad ri)), (1, .ref (ad mi)), (2, .int (nI x)), (3, .int (nI y))]) hx hb dX2_mendedAt_101 hl (k := 5) rfl (iinc_nat _ 1) (by decide) rfl (fun ls hl => ?_)
            refine lv_goto (tgt := 9) hx hb dX2_mendedAt_104 (by decide) ?_
            have e9 : mS rw mp x y (2 + 1) = mS rw mp x y 2 := by show mS rw mp x y 2 + _ = _; simp [nbOk, nbAt, hq, e8]
            have e10 : mC mp x y (2 + 1) = mC mp x y 2 := by show mC mp x y 2 + _ = _; simp [nbOk, nbAt, hq, e8]
            exact ih (2 + 1) H locs ls (by omega) (by omega) hP hD hS (by rw [e9, e10]; exact (lv_sub hl [4, 5, 0, 6, 7, 8, 9] rfl))
          · have e8 : mp (8 * (y - 2) + x) = false := by cases hq9 : mp (8 * (y - 2) + x) <;> simp [bI, hq9, nI] at c81 ⊢
            refine lv_iload hx hb dX2_mendedAt_84 (lv_at hl 3 rfl) ?_
            refine lv_aload_n hx hb dX2_mendedAt_86 rfl (lv_at hl 6 rfl) ?_
            refine lv_iload hx hb dX2_mendedAt_87 (lv_at hl 1 rfl) ?_
            refine lv_iload hx hb dX2_mendedAt_89 (lv_at hl 0 rfl) ?_
            refine iw_pi (va_runSN (As := [.int (nI x), .int (nI (y - 2))]) (rest := [.ref (ad ri), .int (nI (mS rw mp x y 2))]) ⟨hx, hb, hml, hown, hts⟩ (kX6_placeOf l (x) (y - 2)) ⟨va_cnB (host := RX6) 2 hts gX2_mendedAt_X6_placeOf_n54 rfl rfl rfl (nw_RX2_54 hK.2) (hts _ il_X2_mendedAt_iniX6) (by decide +kernel) ⟨Nat.le_of_ble_eq_true rfl, Nat.le_of_ble_eq_true rfl⟩, (hts _ il_X2_mendedAt_st_X6_placeOf), trivial⟩ ⟨fun a U g mk q => q, fun U hU hW => ⟨rfl, trivial⟩⟩ rfl rfl hl.1 rfl (lv_room (Nat.le_of_ble_eq_true rfl)) dX2_mendedAt_91 ⟨hcc, hcs⟩) hP hS (fun r8 u8 H locs hw8 hP hS => ?_)
            refine lv_asI hw8 ?_
            refine iw_iald (v := nI (rw (8 * (y - 2) + x))) hx hb hK hP lri (hri) (vp_in_nI (show 8 * (y - 2) + x < 64 by omega) (by omega)) (congrArg (fun i => nI (rw i)) (nI_clamp (by omega))) dX2_mendedAt_94 ?_
            refine lv_iadd hx hb dX2_mendedAt_95 ?_
            refine lv_asI (y := nI ((mS rw mp x y 2) + (rw (8 * (y - 2) + x)))) (nI_add _ _) ?_
            refine lv_istore (lv' := [(4, .int (nI ((mS rw mp x y 2) + (rw (8 * (y - 2) + x))))), (9, .int (nI (y - 2))), (8, .int (nI x)), (7, .int (-nI 2)), (5, .int (nI (mC mp x y 2))), (6, .int (nI 2)), (0, .ref (ad ri)), (1, .ref (ad mi)), (2, .int (nI x)), (3, .int (nI y))]) hx hb dX2_mendedAt_96 hl (by decide) rfl (fun ls hl => ?_)
            refine lv_iinc (v := nI ((mC mp x y 2) + 1)) (lv' := [(5, .int (nI ((mC mp x y 2) + 1))), (4, .int (nI ((mS rw mp x y 2) + (rw (8 * (y - 2) + x))))), (9, .int (nI (y - 2))), (8, .int (nI x)), (7, .int (-nI 2)), (6, .int (nI 2)), (0, .ref (ad ri)), (1, .ref (ad mi)), (2, .int (nI x)), (3, .int (nI y))]) hx hb dX2_mendedAt_98 hl (k := 4) rfl (iinc_nat _ 1) (by decide) rfl (fun ls hl => ?_)
            refine lv_iinc (v := nI 3) (lv' := [(6, .int (nI 3)), (5, .int (nI ((mC mp x y 2) + 1))), (4, .int (nI ((mS rw mp x y 2) + (rw (8 * (y - 2) + x))))), (9, .int (nI (y - 2))), (8, .int (nI x)), (7, .int (-nI 2)), (0, .ref (ad ri)), (1, .ref (ad mi)), (2, .int (nI x)), (3, .int (nI y))]) hx hb dX2_mendedAt_101 hl (k := 5) rfl (iinc_nat _ 1) (by decide) rfl (fun ls hl => ?_)
            refine lv_goto (tgt := 9) hx hb dX2_mendedAt_104 (by decide) ?_
            have e9 : mS rw mp x y (2 + 1) = (mS rw mp x y 2) + (rw (8 * (y - 2) + x)) := by show mS rw mp x y 2 + _ = _; simp [nbOk, nbAt, hq, e8]
            have e10 : mC mp x y (2 + 1) = (mC mp x y 2) + 1 := by show mC mp x y 2 + _ = _; simp [nbOk, nbAt, hq, e8]
            exact ih (2 + 1) H locs ls (by omega) (by omega) hP hD hS (by rw [e9, e10]; exact (lv_sub hl [2, 1, 0, 6, 7, 8, 9] rfl))
      · rcases Nat.lt_or_ge y 6 with hq0 | hq0
        · have hq : y < 6 := by omega
          refine lv_iload hx hb dX2_mendedAt_15 (lv_at hl 2 rfl) ?_
          refine lv_iconst (v := nI 2) hx hb dX2_mendedAt_17 (by decide) ?_
          refine lv_irem hx hb dX2_mendedAt_18 (by decide) ?_
          refine lv_asI (y := nI 1) (pk_rem (by omega) (by omega) (by omega)) ?_
          refine lv_if_ne (tgt := 27) hx hb dX2_mendedAt_19 (by decide) (fun _ => ?_) (fun c9 => absurd c9 (by decide))
          refine lv_iconst (v := nI 2) hx hb dX2_mendedAt_27 (by decide) ?_
          refine lv_istore (lv' := [(7, .int (nI 2)), (4, .int (nI (mS rw mp x y 3))), (5, .int (nI (mC mp x y 3))), (6, .int (nI 3)), (0, .ref (ad ri)), (1, .ref (ad mi)), (2, .int (nI x)), (3, .int (nI y))]) hx hb dX2_mendedAt_28 hl (by decide) rfl (fun ls hl => ?_)
          refine lv_iload hx hb dX2_mendedAt_30 (lv_at hl 3 rfl) ?_
          refine lv_iconst (v := nI 2) hx hb dX2_mendedAt_32 (by decide) ?_
          refine lv_icmp_ge (tgt := 43) hx hb dX2_mendedAt_33 (by decide) (fun _ => ?_) (fun c9 => absurd (by decide) c9)
          refine lv_iload_n hx hb dX2_mendedAt_43 rfl (lv_at hl 6 rfl) ?_
          refine lv_istore (lv' := [(8, .int (nI x)), (7, .int (nI 2)), (4, .int (nI (mS rw mp x y 3))), (5, .int (nI (mC mp x y 3))), (6, .int (nI 3)), (0, .ref (ad ri)), (1, .ref (ad mi)), (2, .int (nI x)), (3, .int (nI y))]) hx hb dX2_mendedAt_44 hl (by decide) rfl (fun ls hl => ?_)
          refine lv_iload hx hb dX2_mendedAt_46 (lv_at hl 4 rfl) ?_
          refine lv_iconst (v := nI 2) hx hb dX2_mendedAt_48 (by decide) ?_
          refine lv_icmp_ge (tgt := 56) hx hb dX2_mendedAt_49 (by decide) (fun _ => ?_) (fun c9 => absurd (by decide) c9)
          refine lv_iload_n hx hb dX2_mendedAt_56 rfl (lv_at hl 8 rfl) ?_
          refine lv_iload hx hb dX2_mendedAt_57 (lv_at hl 1 rfl) ?_
          refine lv_iadd hx hb dX2_mendedAt_59 ?_
          refine lv_asI (y := nI (y + 2)) (nI_add _ _) ?_
          refine lv_istore (lv' := [(9, .int (nI (y + 2))), (8, .int (nI x)), (7, .int (nI 2)), (4, .int (nI (mS rw mp x y 3))), (5, .int (nI (mC mp x y 3))), (6, .int (nI 3)), (0, .ref (ad ri)), (1, .ref (ad mi)), (2, .int (nI x)), (3, .int (nI y))]) hx hb dX2_mendedAt_60 hl (by decide) rfl (fun ls hl => ?_)
          refine lv_iload hx hb dX2_mendedAt_62 (lv_at hl 1 rfl) ?_
          refine lv_iload hx hb dX2_mendedAt_64 (lv_at hl 0 rfl) ?_
          refine iw_pi (va_runSN (As := [.int (nI x), .int (nI (y + 2))]) (rest := []) ⟨hx, hb, hml, hown, hts⟩ (kX6_isPlace l (nI x) (nI (y + 2))) ⟨va_cnB (host := RX6) 2 hts gX2_mendedAt_X6_isPlace_n61 rfl rfl rfl (nw_RX2_61 hK.2) (hts _ il_X2_mendedAt_iniX6) (by decide +kernel) ⟨Nat.le_of_ble_eq_true rfl, Nat.le_of_ble_eq_true rfl⟩, (hts _ il_X2_mendedAt_st_X6_isPlace), trivial⟩ ⟨fun a U g mk q => q, fun U hU hW => ⟨rfl, trivial⟩⟩ rfl rfl hl.1 rfl (lv_room (Nat.le_of_ble_eq_true rfl)) dX2_mendedAt_66 ⟨hcc, hcs⟩) hP hS (fun r8 u8 H locs hw8 hP hS => ?_)
          refine lv_asI hw8 ?_
          refine lv_asI (y := nI 1) (by rw [isPl_in (by omega) (by omega)]; rfl) ?_
          refine lv_if_eq (tgt := 101) hx hb dX2_mendedAt_69 (by decide) (fun c9 => absurd c9 (by decide)) (fun _ => ?_)
          refine lv_aload_n hx hb dX2_mendedAt_72 rfl (lv_at hl 7 rfl) ?_
          refine lv_iload hx hb dX2_mendedAt_73 (lv_at hl 1 rfl) ?_
          refine lv_iload hx hb dX2_mendedAt_75 (lv_at hl 0 rfl) ?_
          refine iw_pi (va_runSN (As := [.int (nI x), .int (nI (y + 2))]) (rest := [.ref (ad mi)]) ⟨hx, hb, hml, hown, hts⟩ (kX6_placeOf l (x) (y + 2)) ⟨va_cnB (host := RX6) 2 hts gX2_mendedAt_X6_placeOf_n54 rfl rfl rfl (nw_RX2_54 hK.2) (hts _ il_X2_mendedAt_iniX6) (by decide +kernel) ⟨Nat.le_of_ble_eq_true rfl, Nat.le_of_ble_eq_true rfl⟩, (hts _ il_X2_mendedAt_st_X6_placeOf), trivial⟩ ⟨fun a U g mk q => q, fun U hU hW => ⟨rfl, trivial⟩⟩ rfl rfl hl.1 rfl (lv_room (Nat.le_of_ble_eq_true rfl)) dX2_mendedAt_77 ⟨hcc, hcs⟩) hP hS (fun r8 u8 H locs hw8 hP hS => ?_)
          refine lv_asI hw8 ?_
          refine iw_zald (v := (bI mp) (8 * (y + 2) + x)) hx hb hK hP lmi (hmi) (vp_in_nI (show 8 * (y + 2) + x < 64 by omega) (by omega)) (congrArg (bI mp) (nI_clamp (by omega))) dX2_mendedAt_80 ?_
          refine lv_if_ne (tgt := 101) hx hb dX2_mendedAt_81 (by decide) (fun c81 => ?_) (fun c81 => ?_)
          · have e8 : mp (8 * (y + 2) + x) = true := by cases hq9 : mp (8 * (y + 2) + x) <;> simp [bI, hq9, nI] at c81 ⊢
            refine lv_iinc (v := nI 4) (lv' := [(6, .int (nI 4)), (9, .int (nI (y + 2))), (8, .int (nI x)), (7, .int (nI 2)), (4, .int (nI (mS rw mp x y 3))), (5, .int (nI (mC mp x y 3))), (0, .ref (ad ri)), (1, .ref (ad mi)), (2, .int (nI x)), (3, .int (nI y))]) hx hb dX2_mendedAt_101 hl (k := 5) rfl (iinc_nat _ 1) (by decide) rfl (fun ls hl => ?_)
            refine lv_goto (tgt := 9) hx hb dX2_mendedAt_104 (by decide) ?_
            have e9 : mS rw mp x y (3 + 1) = mS rw mp x y 3 := by show mS rw mp x y 3 + _ = _; simp [nbOk, nbAt, hq, e8]
            have e10 : mC mp x y (3 + 1) = mC mp x y 3 := by show mC mp x y 3 + _ = _; simp [nbOk, nbAt, hq, e8]
            exact ih (3 + 1) H locs ls (by omega) (by omega) hP hD hS (by rw [e9, e10]; exact (lv_sub hl [4, 5, 0, 6, 7, 8, 9] rfl))
          · have e8 : mp (8 * (y + 2) + x) = false := by cases hq9 : mp (8 * (y + 2) + x) <;> simp [bI, hq9, nI] at c81 ⊢
            refine lv_iload hx hb dX2_mendedAt_84 (lv_at hl 3 rfl) ?_
            refine lv_aload_n hx hb dX2_mendedAt_86 rfl (lv_at hl 6 rfl) ?_
            refine lv_iload hx hb dX2_mendedAt_87 (lv_at hl 1 rfl) ?_
            refine lv_iload hx hb dX2_mendedAt_89 (lv_at hl 0 rfl) ?_
            refine iw_pi (va_runSN (As := [.int (nI x), .int (nI (y + 2))]) (rest := [.ref (ad ri), .int (nI (mS rw mp x y 3))]) ⟨hx, hb, hml, hown, hts⟩ (kX6_placeOf l (x) (y + 2)) ⟨va_cnB (host := RX6) 2 hts gX2_mendedAt_X6_placeOf_n54 rfl rfl rfl (nw_RX2_54 hK.2) (hts _ il_X2_mendedAt_iniX6) (by decide +kernel) ⟨Nat.le_of_ble_eq_true rfl, Nat.le_of_ble_eq_true rfl⟩, (hts _ il_X2_mendedAt_st_X6_placeOf), trivial⟩ ⟨fun a U g mk q => q, fun U hU hW => ⟨rfl, trivial⟩⟩ rfl rfl hl.1 rfl (lv_room (Nat.le_of_ble_eq_true rfl)) dX2_mendedAt_91 ⟨hcc, hcs⟩) hP hS (fun r8 u8 H locs hw8 hP hS => ?_)
            refine lv_asI hw8 ?_
            refine iw_iald (v := nI (rw (8 * (y + 2) + x))) hx hb hK hP lri (hri) (vp_in_nI (show 8 * (y + 2) + x < 64 by omega) (by omega)) (congrArg (fun i => nI (rw i)) (nI_clamp (by omega))) dX2_mendedAt_94 ?_
            refine lv_iadd hx hb dX2_mendedAt_95 ?_
            refine lv_asI (y := nI ((mS rw mp x y 3) + (rw (8 * (y + 2) + x)))) (nI_add _ _) ?_
            refine lv_istore (lv' := [(4, .int (nI ((mS rw mp x y 3) + (rw (8 * (y + 2) + x))))), (9, .int (nI (y + 2))), (8, .int (nI x)), (7, .int (nI 2)), (5, .int (nI (mC mp x y 3))), (6, .int (nI 3)), (0, .ref (ad ri)), (1, .ref (ad mi)), (2, .int (nI x)), (3, .int (nI y))]) hx hb dX2_mendedAt_96 hl (by decide) rfl (fun ls hl => ?_)
            refine lv_iinc (v := nI ((mC mp x y 3) + 1)) (lv' := [(5, .int (nI ((mC mp x y 3) + 1))), (4, .int (nI ((mS rw mp x y 3) + (rw (8 * (y + 2) + x))))), (9, .int (nI (y + 2))), (8, .int (nI x)), (7, .int (nI 2)), (6, .int (nI 3)), (0, .ref (ad ri)), (1, .ref (ad mi)), (2, .int (nI x)), (3, .int (nI y))]) hx hb dX2_mendedAt_98 hl (k := 4) rfl (iinc_nat _ 1) (by decide) rfl (fun ls hl => ?_)
            refine lv_iinc (v := nI 4) (lv' := [(6, .int (nI 4)), (5, .int (nI ((mC mp x y 3) + 1))), (4, .int (nI ((mS rw mp x y 3) + (rw (8 * (y + 2) + x))))), (9, .int (nI (y + 2))), (8, .int (nI x)), (7, .int (nI 2)), (0, .ref (ad ri)), (1, .ref (ad mi)), (2, .int (nI x)), (3, .int (nI y))]) hx hb dX2_mendedAt_101 hl (k := 5) rfl (iinc_nat _ 1) (by decide) rfl (fun ls hl => ?_)
            refine lv_goto (tgt := 9) hx hb dX2_mendedAt_104 (by decide) ?_
            have e9 : mS rw mp x y (3 + 1) = (mS rw mp x y 3) + (rw (8 * (y + 2) + x)) := by show mS rw mp x y 3 + _ = _; simp [nbOk, nbAt, hq, e8]
            have e10 : mC mp x y (3 + 1) = (mC mp x y 3) + 1 := by show mC mp x y 3 + _ = _; simp [nbOk, nbAt, hq, e8]
            exact ih (3 + 1) H locs ls (by omega) (by omega) hP hD hS (by rw [e9, e10]; exact (lv_sub hl [2, 1, 0, 6, 7, 8, 9] rfl))
        · have hq : ¬ (y < 6) := by omega
          refine lv_iload hx hb dX2_mendedAt_15 (lv_at hl 2 rfl) ?_
          refine lv_iconst (v := nI 2) hx hb dX2_mendedAt_17 (by decide) ?_
          refine lv_irem hx hb dX2_mendedAt_18 (by decide) ?_
          refine lv_asI (y := nI 1) (pk_rem (by omega) (by omega) (by omega)) ?_
          refine lv_if_ne (tgt := 27) hx hb dX2_mendedAt_19 (by decide) (fun _ => ?_) (fun c9 => absurd c9 (by decide))
          refine lv_iconst (v := nI 2) hx hb dX2_mendedAt_27 (by decide) ?_
          refine lv_istore (lv' := [(7, .int (nI 2)), (4, .int (nI (mS rw mp x y 3))), (5, .int (nI (mC mp x y 3))), (6, .int (nI 3)), (0, .ref (ad ri)), (1, .ref (ad mi)), (2, .int (nI x)), (3, .int (nI y))]) hx hb dX2_mendedAt_28 hl (by decide) rfl (fun ls hl => ?_)
          refine lv_iload hx hb dX2_mendedAt_30 (lv_at hl 3 rfl) ?_
          refine lv_iconst (v := nI 2) hx hb dX2_mendedAt_32 (by decide) ?_
          refine lv_icmp_ge (tgt := 43) hx hb dX2_mendedAt_33 (by decide) (fun _ => ?_) (fun c9 => absurd (by decide) c9)
          refine lv_iload_n hx hb dX2_mendedAt_43 rfl (lv_at hl 6 rfl) ?_
          refine lv_istore (lv' := [(8, .int (nI x)), (7, .int (nI 2)), (4, .int (nI (mS rw mp x y 3))), (5, .int (nI (mC mp x y 3))), (6, .int (nI 3)), (0, .ref (ad ri)), (1, .ref (ad mi)), (2, .int (nI x)), (3, .int (nI y))]) hx hb dX2_mendedAt_44 hl (by decide) rfl (fun ls hl => ?_)
          refine lv_iload hx hb dX2_mendedAt_46 (lv_at hl 4 rfl) ?_
          refine lv_iconst (v := nI 2) hx hb dX2_mendedAt_48 (by decide) ?_
          refine lv_icmp_ge (tgt := 56) hx hb dX2_mendedAt_49 (by decide) (fun _ => ?_) (fun c9 => absurd (by decide) c9)
          refine lv_iload_n hx hb dX2_mendedAt_56 rfl (lv_at hl 8 rfl) ?_
          refine lv_iload hx hb dX2_mendedAt_57 (lv_at hl 1 rfl) ?_
          refine lv_iadd hx hb dX2_mendedAt_59 ?_
          refine lv_asI (y := nI (y + 2)) (nI_add _ _) ?_
          refine lv_istore (lv' := [(9, .int (nI (y + 2))), (8, .int (nI x)), (7, .int (nI 2)), (4, .int (nI (mS rw mp x y 3))), (5, .int (nI (mC mp x y 3))), (6, .int (nI 3)), (0, .ref (ad ri)), (1, .ref (ad mi)), (2, .int (nI x)), (3, .int (nI y))]) hx hb dX2_mendedAt_60 hl (by decide) rfl (fun ls hl => ?_)
          refine lv_iload hx hb dX2_mendedAt_62 (lv_at hl 1 rfl) ?_
          refine lv_iload hx hb dX2_mendedAt_64 (lv_at hl 0 rfl) ?_
          refine iw_pi (va_runSN (As := [.int (nI x), .int (nI (y + 2))]) (rest := []) ⟨hx, hb, hml, hown, hts⟩ (kX6_isPlace l (nI x) (nI (y + 2))) ⟨va_cnB (host := RX6) 2 hts gX2_mendedAt_X6_isPlace_n61 rfl rfl rfl (nw_RX2_61 hK.2) (hts _ il_X2_mendedAt_iniX6) (by decide +kernel) ⟨Nat.le_of_ble_eq_true rfl, Nat.le_of_ble_eq_true rfl⟩, (hts _ il_X2_mendedAt_st_X6_isPlace), trivial⟩ ⟨fun a U g mk q => q, fun U hU hW => ⟨rfl, trivial⟩⟩ rfl rfl hl.1 rfl (lv_room (Nat.le_of_ble_eq_true rfl)) dX2_mendedAt_66 ⟨hcc, hcs⟩) hP hS (fun r8 u8 H locs hw8 hP hS => ?_)
          refine lv_asI hw8 ?_
          refine lv_asI (y := nI 0) (by rw [isPl_y8 (by omega) (by omega)]; rfl) ?_
          refine lv_if_eq (tgt := 101) hx hb dX2_mendedAt_69 (by decide) (fun _ => ?_) (fun c9 => absurd (by decide) c9)
          refine lv_iinc (v := nI 4) (lv' := [(6, .int (nI 4)), (9, .int (nI (y + 2))), (8, .int (nI x)), (7, .int (nI 2)), (4, .int (nI (mS rw mp x y 3))), (5, .int (nI (mC mp x y 3))), (0, .ref (ad ri)), (1, .ref (ad mi)), (2, .int (nI x)), (3, .int (nI y))]) hx hb dX2_mendedAt_101 hl (k := 5) rfl (iinc_nat _ 1) (by decide) rfl (fun ls hl => ?_)
          refine lv_goto (tgt := 9) hx hb dX2_mendedAt_104 (by decide) ?_
          have e9 : mS rw mp x y (3 + 1) = mS rw mp x y 3 := by show mS rw mp x y 3 + _ = _; simp [nbOk, nbAt, hq]
          have e10 : mC mp x y (3 + 1) = mC mp x y 3 := by show mC mp x y 3 + _ = _; simp [nbOk, nbAt, hq]
          exact ih (3 + 1) H locs ls (by omega) (by omega) hP hD hS (by rw [e9, e10]; exact (lv_sub hl [4, 5, 0, 6, 7, 8, 9] rfl))
set_option maxHeartbeats 4000000 in
set_option maxRecDepth 100000 in
theorem kX2_mendedAt (l : Launch) (G : iG) (N : Nat) (ad : Nat → Nat) (C : Nat → va_E) {ri mi : Nat} {rw : Nat → Nat} {mp : Nat → Bool} (lri : ri < N) (lmi : mi < N) (hri : C ri = ia G 64 (fun i => nI (rw i))) (hmi : C mi = za G 64 (bI mp)) (hr9 : ∀ i, i < 64 → rw i ≤ 255) (x y : Nat) (hx8 : x < 8) (hy8 : y < 8) (sz : Nat) : Met l yX2_mendedAt wsX2_mendedAt rmX2_mendedAt (iPre G N ad C sz [.ref (ad ri), .ref (ad mi), .int (nI x), .int (nI y)]) (va_Qi (fun (r : Int32) (u : Nat → va_E) => r = nI (mdN rw mp x y) ∧ u = C) (iB G N ad) (iA N ad sz)) 0 0 (iA N ad sz) := by
  refine Met.ofW (cc := cX2_mendedAt) (maxL := 10) (ret := (some .int)) (by decide) rfl ?_
  intro p e s m args below meth c s₁ B hml hv
  obtain ⟨rfl, hsz, hP, hK, hD0⟩ := hv
  have hx := B.exec
  have hb := B.bytes
  have hr := B.returns
  have hts := atoms_spec (ws := wsX2_mendedAt) B.pre
  have hown : s.vm.findClass RX2 = some m.cls := findClass_of_methodNamed B.named
  have hlocks := B.notSynchronized
  subst hsz
  have hD := wl_self hD0 s.heap.size
  have hA : ∀ q : Nat, s.heap.size ≤ q → iA N ad s.heap.size q := fun q h => Or.inr h
  have hS : va_S (iA N ad s.heap.size) s.heap s.heap [] := va_S.rf
  have hP : va_P G.1 vwB (wl N ad C) s.heap := hP
  have hl := lv_entry ([.ref (ad ri), .ref (ad mi), .int (nI x), .int (nI y)]) (n := 10) (Nat.le_of_ble_eq_true rfl)
  rw [lg_entry_eq]
  generalize (lg_sl ([.ref (ad ri), .ref (ad mi), .int (nI x), .int (nI y)]) ++ List.replicate (10 - (lg_sl ([.ref (ad ri), .ref (ad mi), .int (nI x), .int (nI y)])).length) Slot.unset).toArray = ls at hl ⊢
  have hl : lv_has ls 10 [(0, .ref (ad ri)), (1, .ref (ad mi)), (2, .int (nI x)), (3, .int (nI y))] := hl
  have b1 := mC_le mp x y 4
  have b2 := mS_le rw hr9 mp hx8 hy8 4
  refine lv_iconst (v := nI 0) hx hb dX2_mendedAt_0 (by decide) ?_
  refine lv_istore (lv' := [(4, .int (nI 0)), (0, .ref (ad ri)), (1, .ref (ad mi)), (2, .int (nI x)), (3, .int (nI y))]) hx hb dX2_mendedAt_1 hl (by decide) rfl (fun ls hl => ?_)
  refine lv_iconst (v := nI 0) hx hb dX2_mendedAt_3 (by decide) ?_
  refine lv_istore (lv' := [(5, .int (nI 0)), (4, .int (nI 0)), (0, .ref (ad ri)), (1, .ref (ad mi)), (2, .int (nI x)), (3, .int (nI y))]) hx hb dX2_mendedAt_4 hl (by decide) rfl (fun ls hl => ?_)
  refine lv_iconst (v := nI 0) hx hb dX2_mendedAt_6 (by decide) ?_
  refine lv_istore (lv' := [(6, .int (nI 0)), (5, .int (nI 0)), (4, .int (nI 0)), (0, .ref (ad ri)), (1, .ref (ad mi)), (2, .int (nI x)), (3, .int (nI y))]) hx hb dX2_mendedAt_7 hl (by decide) rfl (fun ls hl => ?_)
  refine lX2_mendedAt hx hb hml hr hts hown hK hA (Nat.le_refl _) (Nat.le_refl _) lri lmi hri hmi hr9 hx8 hy8 (fun H locs ls hP hD hS hl => ?_) 5 0 _ _ ls (by omega) (by omega) hP hD hS (lv_sub hl [2, 1, 0, 3, 4, 5, 6] rfl)
  refine lv_iload hx hb dX2_mendedAt_107 (lv_at hl 1 rfl) ?_
  refine lv_if_ne (tgt := 122) hx hb dX2_mendedAt_109 (by decide) (fun c109 => ?_) (fun c109 => ?_)
  · have e8 : mC mp x y 4 ≠ 0 := fun e => c109 (by rw [e]; exact nI_0)
    refine lv_iload hx hb dX2_mendedAt_122 (lv_at hl 0 rfl) ?_
    refine lv_iload hx hb dX2_mendedAt_124 (lv_at hl 1 rfl) ?_
    refine lv_idiv hx hb dX2_mendedAt_126 (fun e => e8 ((nI_eq (by omega) (by omega)).mp (e.trans nI_0.symm))) ?_
    refine lv_asI (y := nI ((mS rw mp x y 4) / (mC mp x y 4))) (pk_div (by omega) (by omega) (by omega)) ?_
    exact W.iret (v := (nI ((mS rw mp x y 4) / (mC mp x y 4)))) hx hb hr (fun t ht hW => ⟨⟨_, _, rfl, ⟨by unfold mdN; first | rw [if_pos e8] | rw [if_neg e8], rfl⟩, iB_of ht hP⟩, hS.F ht⟩) hS.2.2 dX2_mendedAt_127
  · have e8 : mC mp x y 4 = 0 := (nI_eq (by omega) (by omega)).mp (c109.trans nI_0.symm)
    refine lv_aload_n hx hb dX2_mendedAt_112 rfl (lv_at hl 2 rfl) ?_
    refine lv_iload_n hx hb dX2_mendedAt_113 rfl (lv_at hl 4 rfl) ?_
    refine lv_iload_n hx hb dX2_mendedAt_114 rfl (lv_at hl 5 rfl) ?_
    refine iw_pi (va_runSN (As := [.int (nI x), .int (nI y)]) (rest := [.ref (ad ri)]) ⟨hx, hb, hml, hown, hts⟩ (kX6_placeOf l (x) (y)) ⟨va_cnB (host := RX6) 2 hts gX2_mendedAt_X6_placeOf_n54 rfl rfl rfl (nw_RX2_54 hK.2) (hts _ il_X2_mendedAt_iniX6) (by decide +kernel) ⟨Nat.le_of_ble_eq_true rfl, Nat.le_of_ble_eq_true rfl⟩, (hts _ il_X2_mendedAt_st_X6_placeOf), trivial⟩ ⟨fun a U g mk q => q, fun U hU hW => ⟨rfl, trivial⟩⟩ rfl rfl hl.1 rfl (lv_room (Nat.le_of_ble_eq_true rfl)) dX2_mendedAt_115 ⟨Nat.le_of_ble_eq_true rfl, Nat.le_of_ble_eq_true rfl⟩) hP hS (fun r8 u8 H locs hw8 hP hS => ?_)
    refine lv_asI hw8 ?_
    refine iw_iald (v := nI (rw (8 * y + x))) hx hb hK hP lri (hri) (vp_in_nI (show 8 * y + x < 64 by omega) (by omega)) (congrArg (fun i => nI (rw i)) (nI_clamp (by omega))) dX2_mendedAt_118 ?_
    refine lv_goto (tgt := 127) hx hb dX2_mendedAt_119 (by decide) ?_
    exact W.iret (v := (nI (rw (8 * y + x)))) hx hb hr (fun t ht hW => ⟨⟨_, _, rfl, ⟨by unfold mdN; first | rw [if_pos e8] | rw [if_neg e8], rfl⟩, iB_of ht hP⟩, hS.F ht⟩) hS.2.2 dX2_mendedAt_127
