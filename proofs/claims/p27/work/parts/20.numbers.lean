set_option maxRecDepth 20000 in
theorem ggX2_makeWhole_X2_meanAround : GoodIn wsX2_makeWhole wsX2_meanAround := goodIn_r _ [12, 1, 13, 4, 14, 6, 7, 3, 5, 18, 19] (by decide +kernel) (by decide +kernel)
set_option maxRecDepth 20000 in
theorem gX2_makeWhole_X2_meanAround : GoodIn wsX2_makeWhole (wsV RX2 68 RX2 yX2_meanAround wsX2_meanAround) := goodIn_app (goodIn_of _ (by decide +kernel)) ggX2_makeWhole_X2_meanAround
set_option maxRecDepth 20000 in
theorem ggX2_makeWhole_X2_indexOf : GoodIn wsX2_makeWhole wsX2_indexOf := goodIn_r _ [17] (by decide +kernel) (by decide +kernel)
set_option maxRecDepth 20000 in
theorem gX2_makeWhole_X2_indexOf : GoodIn wsX2_makeWhole (va_wsS RX2 49 yX2_indexOf wsX2_indexOf) := goodIn_app (goodIn_of _ (by decide +kernel)) ggX2_makeWhole_X2_indexOf
set_option maxRecDepth 20000 in
theorem ggX2_makeWhole_X6_placeOf : GoodIn wsX2_makeWhole wsX6_placeOf := goodIn_r _ [5] (by decide +kernel) (by decide +kernel)
set_option maxRecDepth 20000 in
theorem gX2_makeWhole_X6_placeOf_n54 : GoodIn wsX2_makeWhole (wsX6_placeOf) := ggX2_makeWhole_X6_placeOf
set_option maxRecDepth 20000 in
theorem ggX2_makeWhole_X6_colourSeen : GoodIn wsX2_makeWhole wsX6_colourSeen := goodIn_r _ [7] (by decide +kernel) (by decide +kernel)
set_option maxRecDepth 20000 in
theorem gX2_makeWhole_X6_colourSeen_n65 : GoodIn wsX2_makeWhole (wsX6_colourSeen) := ggX2_makeWhole_X6_colourSeen
set_option maxRecDepth 20000 in
theorem ggX2_bound_X2_bounded : GoodIn wsX2_bound wsX2_bounded := goodIn_r _ [5, 6] (by decide +kernel) (by decide +kernel)
set_option maxRecDepth 20000 in
theorem gX2_bound_X2_bounded : GoodIn wsX2_bound (va_wsS RX2 45 yX2_bounded wsX2_bounded) := goodIn_app (goodIn_of _ (by decide +kernel)) ggX2_bound_X2_bounded
theorem flI_at {α : Type} (f g : Nat → α) (k : Nat) : flI f g k k = g k := by simp [flI]
/-- BLACK -/
def dkF (b : Nat) (x : UInt32) : UInt32 := if Op.cmpValue (FP.fcmp (FP.fsub x (FP.i2f (nI b))) FP.fconst0) .l ≤ 0 then FP.fconst0 else FP.fsub x (FP.i2f (nI b))
/-- WARM, COOL -/
def scF (k : Nat) (t : UInt32) (nu : Nat → UInt32) (i : Nat) : UInt32 := if i % 3 = k then FP.fmul (nu i) t else nu i
/-- TONE -/
def toF (n : Nat) (x : UInt32) : UInt32 := if n = 0 then FP.fmul x 1056964608 else if n = 1 then FP.fmul x FP.fconst2 else FP.fsub 1132396544 x
/-- FLIP -/
def fpF (nu : Nat → UInt32) (i : Nat) : UInt32 := nu (3 * (8 * (i / 3 / 8) + (7 - i / 3 % 8)) + i % 3)
/-- an edit -/
def apF (k n : Nat) (nu : Nat → UInt32) : Nat → UInt32 := if k = 0 then fun i => dkF n (nu i) else if k = 1 then scF 0 (quF n) nu else if k = 2 then scF 2 (quF n) nu else if k = 3 then fun i => toF n (nu i) else if k = 4 then fpF nu else nu
/-- an edit that can be told -/
def okE (k n : Nat) : Prop := k < 6 ∧ n < 65 ∧ (k = 1 ∨ k = 2 → 0 < n ∧ n < 17) ∧ (k = 3 → n < 3)
theorem dkF_n {b : Nat} {x : UInt32} (h : vf_n32 x) : vf_n32 (dkF b x) := by
  unfold dkF
  split
  · exact fin32_n f0_ok
  · exact fsub_nf h (i2f_fin32 _)
theorem toF_n {n : Nat} {x : UInt32} (h : vf_n32 x) : vf_n32 (toF n x) := by
  unfold toF
  split
  · exact fmul_nz h fhalf_ok
  · split
    · exact fmul_nz h f2_ok
    · exact fsub_fn (finz32_fin f255_ok) h
theorem scF_n {k : Nat} {t : UInt32} {nu : Nat → UInt32} (ht : finz32 t) {i : Nat} (h : vf_n32 (nu i)) : vf_n32 (scF k t nu i) := by
  unfold scF
  split
  · exact fmul_nz h ht
  · exact h
theorem apF_n {k n : Nat} (hk : okE k n) {nu : Nat → UInt32} (h : ∀ i, i < 192 → vf_n32 (nu i)) : ∀ i, i < 192 → vf_n32 (apF k n nu i) := by
  intro i hi
  unfold apF
  split
  · exact dkF_n (h i hi)
  · split
    · rename_i h1
      exact scF_n (quF_ok n (hk.2.2.1 (Or.inl h1)).2 (hk.2.2.1 (Or.inl h1)).1) (h i hi)
    · split
      · rename_i h1
        exact scF_n (quF_ok n (hk.2.2.1 (Or.inr h1)).2 (hk.2.2.1 (Or.inr h1)).1) (h i hi)
      · split
        · exact toF_n (h i hi)
        · split
          · exact h _ (by omega)
          · exact h i hi
/-- edit by edit -/
def cmF (kk nn : Nat → Nat) (nu : Nat → UInt32) : Nat → Nat → UInt32
  | 0 => nu
  | n + 1 => apF (kk n) (nn n) (cmF kk nn nu n)
theorem cmF_n {kk nn : Nat → Nat} {nu : Nat → UInt32} (h : ∀ i, i < 192 → vf_n32 (nu i)) : ∀ n, (∀ i, i < n → okE (kk i) (nn i)) → ∀ i, i < 192 → vf_n32 (cmF kk nn nu n i)
  | 0, _ => h
  | n + 1, hk => apF_n (hk n (Nat.lt_succ_self n)) (cmF_n h n (fun i hi => hk i (Nat.lt_succ_of_lt hi)))
theorem scF_up (k : Nat) (hk : k < 3) (t : UInt32) (nu : Nat → UInt32) (z : Nat) : vf_upd (flI (scF k t nu) nu (3 * z)) (3 * z + k) (FP.fmul (nu (3 * z + k)) t) = flI (scF k t nu) nu (3 * (z + 1)) := by
  funext i
  unfold vf_upd flI
  by_cases h : i = 3 * z + k
  · subst h
    rw [if_pos rfl, if_pos (by omega)]
    unfold scF
    rw [if_pos (by omega)]
  · rw [if_neg h]
    by_cases h1 : i < 3 * z
    · rw [if_pos h1, if_pos (by omega)]
    · rw [if_neg h1]
      by_cases h2 : i < 3 * (z + 1)
      · rw [if_pos h2]
        unfold scF
        rw [if_neg (by omega)]
      · rw [if_neg h2]
/-- FLIP under way -/
def toN (nu : Nat → UInt32) (n i : Nat) : UInt32 := if 12 * (i / 3 / 8) + 3 * (if i / 3 % 8 < 4 then i / 3 % 8 else 7 - i / 3 % 8) + i % 3 < n then fpF nu i else nu i
theorem toN_0 (nu : Nat → UInt32) : toN nu 0 = nu := by
  funext i
  unfold toN
  rw [if_neg (by omega)]
theorem fp_L (nu : Nat → UInt32) {x y k : Nat} (hx : x < 4) (hk : k < 3) : fpF nu (3 * (8 * y + x) + k) = nu (3 * (8 * y + (7 - x)) + k) := by
  unfold fpF
  rw [show (3 * (8 * y + x) + k) / 3 = 8 * y + x by omega, show (3 * (8 * y + x) + k) % 3 = k by omega, show (8 * y + x) / 8 = y by omega, show (8 * y + x) % 8 = x by omega]
theorem fp_R (nu : Nat → UInt32) {x y k : Nat} (hx : x < 4) (hk : k < 3) : fpF nu (3 * (8 * y + (7 - x)) + k) = nu (3 * (8 * y + x) + k) := by
  unfold fpF
  rw [show (3 * (8 * y + (7 - x)) + k) / 3 = 8 * y + (7 - x) by omega, show (3 * (8 * y + (7 - x)) + k) % 3 = k by omega, show (8 * y + (7 - x)) / 8 = y by omega, show (8 * y + (7 - x)) % 8 = 7 - x by omega, show 7 - (7 - x) = x by omega]
theorem toN_L (nu : Nat → UInt32) {x y k : Nat} (hx : x < 4) (hk : k < 3) : toN nu (12 * y + 3 * x + k) (3 * (8 * y + x) + k) = nu (3 * (8 * y + x) + k) := by
  unfold toN
  rw [show (3 * (8 * y + x) + k) / 3 = 8 * y + x by omega, show (3 * (8 * y + x) + k) % 3 = k by omega, show (8 * y + x) / 8 = y by omega, show (8 * y + x) % 8 = x by omega, if_pos hx, if_neg (by omega)]
theorem toN_R (nu : Nat → UInt32) {x y k : Nat} (hx : x < 4) (hk : k < 3) : toN nu (12 * y + 3 * x + k) (3 * (8 * y + (7 - x)) + k) = nu (3 * (8 * y + (7 - x)) + k) := by
  unfold toN
  rw [show (3 * (8 * y + (7 - x)) + k) / 3 = 8 * y + (7 - x) by omega, show (3 * (8 * y + (7 - x)) + k) % 3 = k by omega, show (8 * y + (7 - x)) / 8 = y by omega, show (8 * y + (7 - x)) % 8 = 7 - x by omega, if_neg (show ¬ 7 - x < 4 by omega), if_neg (by omega)]
theorem toN_up (nu : Nat → UInt32) {x y k : Nat} (hx : x < 4) (hk : k < 3) : vf_upd (vf_upd (toN nu (12 * y + 3 * x + k)) (3 * (8 * y + x) + k) (nu (3 * (8 * y + (7 - x)) + k))) (3 * (8 * y + (7 - x)) + k) (nu (3 * (8 * y + x) + k)) = toN nu (12 * y + 3 * x + k + 1) := by
  funext i
  by_cases hR : i = 3 * (8 * y + (7 - x)) + k
  · subst hR
    unfold vf_upd
    rw [if_pos rfl]
    unfold toN
    rw [if_pos, fp_R nu hx hk]
    rw [show (3 * (8 * y + (7 - x)) + k) / 3 = 8 * y + (7 - x) by omega, show (3 * (8 * y + (7 - x)) + k) % 3 = k by omega, show (8 * y + (7 - x)) / 8 = y by omega, show (8 * y + (7 - x)) % 8 = 7 - x by omega, if_neg (show ¬ 7 - x < 4 by omega)]
    omega
  · by_cases hL : i = 3 * (8 * y + x) + k
    · subst hL
      unfold vf_upd
      rw [if_neg hR, if_pos rfl]
      unfold toN
      rw [if_pos, fp_L nu hx hk]
      rw [show (3 * (8 * y + x) + k) / 3 = 8 * y + x by omega, show (3 * (8 * y + x) + k) % 3 = k by omega, show (8 * y + x) / 8 = y by omega, show (8 * y + x) % 8 = x by omega, if_pos hx]
      omega
    · unfold vf_upd
      rw [if_neg hR, if_neg hL]
      unfold toN
      have e : (12 * (i / 3 / 8) + 3 * (if i / 3 % 8 < 4 then i / 3 % 8 else 7 - i / 3 % 8) + i % 3 < 12 * y + 3 * x + k) ↔ (12 * (i / 3 / 8) + 3 * (if i / 3 % 8 < 4 then i / 3 % 8 else 7 - i / 3 % 8) + i % 3 < 12 * y + 3 * x + k + 1) := by
        split <;> omega
      simp only [e]
theorem toN_all (nu : Nat → UInt32) {i : Nat} (hi : i < 192) : toN nu 96 i = fpF nu i := by
  unfold toN
  rw [if_pos]
  split <;> omega
/-- the word of a picture -/
def suI (nu : Nat → UInt32) : Nat → Int32
  | 0 => nI 7
  | n + 1 => suI nu n * nI 31 + FP.f2i (nu n)
/-- the sum of a colour's tones, each number times t -/
def stI (nu : Nat → UInt32) (k : Nat) (t : UInt32) : Nat → Int32
  | 0 => nI 0
  | n + 1 => stI nu k t n + FP.f2i (bdF (FP.fmul (nu (3 * n + k)) t))
abbrev rmX2_makeWhole : Room := { frames := 2, cells := 0, slots := 0, locals := 48 }
set_option maxRecDepth 20000 in
theorem iu_X2_makeWhole_2 : ∀ w ∈ u_ws RX2 TX2 2, w ∈ wsX2_makeWhole := by decide +kernel
set_option maxRecDepth 20000 in
theorem il_X2_makeWhole_9 : (Cond.fieldLink RX2 9 "BayerGate$Picture" "numbers" "[F") ∈ wsX2_makeWhole := by decide +kernel
set_option maxRecDepth 20000 in
theorem il_X2_makeWhole_15 : (Cond.fieldLink RX2 15 "BayerGate$Picture" "mended" "[I") ∈ wsX2_makeWhole := by decide +kernel
set_option maxHeartbeats 4000000 in
set_option maxRecDepth 100000 in
theorem lX2_makeWhole_k {p : Program} {l : Launch} {e : Env} {s : State} {m : MethodId} {args : Array Value} {below : List Frame} {meth : Method} {c : Code} {Q : State → Prop} {A : Nat → Prop} {H0 : Heap} {cells slots : Nat} (hx : p.tables.exec = Jvm.exec) (hb : c.code = cX2_makeWhole) (hml : c.maxLocals = 7) (hr : meth.sig.returnType = none) (hts : ∀ w ∈ wsX2_makeWhole, w.before args s = true) (hown : s.vm.findClass RX2 = some m.cls) {G : iG} (hK : KB G s) (hA : ∀ q, H0.size ≤ q → A q) {N : Nat} {ad : Nat → Nat} {C : Nat → va_E}  (hcc : cells ≤ rmX2_makeWhole.cells) (hcs : slots ≤ rmX2_makeWhole.slots) {pb pn pm : Nat} {nu : Nat → UInt32} {md : Nat → Nat} (lpb : pb < N) (lpn : pn < N) (lpm : pm < N) (hpb : C pb = ob 2 [.ref (ad pn), .ref (ad pm)]) (hpn : C pn = fa G 192 nu) (hpm : C pm = ia G 64 (fun i => nI (md i))) (hm9 : ∀ i, i < 64 → md i ≤ 255) {x y : Nat} (hx8 : x < 8) (hy8 : y < 8) (kx : ∀ (H : Heap) (locs : List Loc) (ls : Array Slot), va_P G.1 vwB (wl N ad (va_up C pn (fa G 192 (flI (whF md) nu (3 * (8 * y + x) + 3))))) H → va_D A (wl N ad (va_up C pn (fa G 192 (flI (whF md) nu (3 * (8 * y + x) + 3))))) → va_S A H0 H locs → lv_has ls 7 [(2, .int (nI x)), (1, .int (nI y)), (0, .ref (ad pb))] → W p l e rmX2_makeWhole s m args below meth c H locs cells slots Q (F0 m 84 ls [])) : ∀ (d : Nat) (k : Nat) (H : Heap) (locs : List Loc) (ls : Array Slot), 3 - k < d → k ≤ 3 → va_P G.1 vwB (wl N ad (va_up C pn (fa G 192 (flI (whF md) nu (3 * (8 * y + x) + k))))) H → va_D A (wl N ad (va_up C pn (fa G 192 (flI (whF md) nu (3 * (8 * y + x) + k))))) → va_S A H0 H locs → lv_has ls 7 [(5, .int (nI k)), (3, .int (nI (8 * y + x))), (4, .int (nI (colN x y))), (2, .int (nI x)), (1, .int (nI y)), (0, .ref (ad pb))] → W p l e rmX2_makeWhole s m args below meth c H locs cells slots Q (F0 m 32 ls []) := by
  intro d
  induction d with
  | zero => intro k H locs ls hd; exact absurd hd (Nat.not_lt_zero _)
  | succ d ih =>
    intro k H locs ls hd h2 hP hD hS hl
    have n_pb_pn : pb ≠ pn := fun h => by rw [h, hpn] at hpb; simp at hpb
    have n_pb_pm : pb ≠ pm := fun h => by rw [h, hpm] at hpb; simp at hpb
    have n_pn_pm : pn ≠ pm := fun h => by rw [h, hpm] at hpn; simp at hpn
    refine lv_iload hx hb dX2_makeWhole_32 (lv_at hl 0 rfl) ?_
    refine lv_iconst (v := nI 3) hx hb dX2_makeWhole_34 (by decide) ?_
    refine lv_icmp_ge (tgt := 84) hx hb dX2_makeWhole_35 (by decide) (fun c35 => ?_) (fun c35 => ?_)
    · have h5 : k = 3 := by have := (nI_leI (by omega) (by omega)).mp c35; omega
      subst h5
      exact kx H locs ls hP hD hS (lv_sub hl [3, 4, 5] rfl)
    · have h4 : k < 3 := by have := mt (nI_leI (by omega) (by omega)).mpr c35; omega
      refine lv_iload hx hb dX2_makeWhole_38 (lv_at hl 0 rfl) ?_
      refine lv_iload hx hb dX2_makeWhole_40 (lv_at hl 2 rfl) ?_
      refine lv_icmp_ne (tgt := 55) hx hb dX2_makeWhole_42 (by decide) (fun c42 => ?_) (fun c42 => ?_)
      · have e8 : ¬ k = colN x y := fun e => c42 (by rw [e])
        refine lv_aload_n hx hb dX2_makeWhole_55 rfl (lv_at hl 5 rfl) ?_
        refine lv_iload_n hx hb dX2_makeWhole_56 rfl (lv_at hl 3 rfl) ?_
        refine lv_iload_n hx hb dX2_makeWhole_57 rfl (lv_at hl 4 rfl) ?_
        refine lv_iload hx hb dX2_makeWhole_58 (lv_at hl 0 rfl) ?_
        refine iw_f (va_runV (As := [.int (nI x), .int (nI y), .int (nI k)]) (rest := []) ⟨hx, hb, hml, hown, hts⟩ (kX2_meanAround l G N ad _ lpb lpn lpm ((va_un _ _ n_pb_pn).trans (hpb)) (va_us _ _ _) ((va_un _ _ (Ne.symm n_pn_pm)).trans (hpm)) hm9 x y k (by omega) (by omega) (by omega) _) (cwV 3 hts gX2_makeWhole_X2_meanAround rfl rfl rfl (by decide +kernel) ⟨Nat.le_of_ble_eq_true rfl, Nat.le_of_ble_eq_true rfl⟩) (iPV hK hP hD lpb ((va_un _ _ n_pb_pn).trans (hpb)) rfl [.int (nI x), .int (nI y), .int (nI k)]) rfl rfl hl.1 rfl (lv_room (Nat.le_of_ble_eq_true rfl)) dX2_makeWhole_60 ⟨hcc, hcs⟩) hD hS hA (fun r8 u8 H locs hw8 hP hD hS => ?_)
        obtain ⟨hr8, hu8⟩ := hw8
        refine lv_asF hr8 ?_
        rw [hu8] at hP hD
        refine lv_asF (y := whF md (3 * (8 * y + x) + k)) (by unfold whF; rw [show (3 * (8 * y + x) + k) / 3 = 8 * y + x by omega, show (3 * (8 * y + x) + k) % 3 = k by omega, show (8 * y + x) / 8 = y by omega, show (8 * y + x) % 8 = x by omega]; rw [if_neg e8]) ?_
        refine lv_fstore (lv' := [(6, .float (whF md (3 * (8 * y + x) + k))), (5, .int (nI k)), (3, .int (nI (8 * y + x))), (4, .int (nI (colN x y))), (2, .int (nI x)), (1, .int (nI y)), (0, .ref (ad pb))]) hx hb dX2_makeWhole_63 hl (by decide) rfl (fun ls hl => ?_)
        refine lv_aload_n hx hb dX2_makeWhole_65 rfl (lv_at hl 6 rfl) ?_
        refine iw_get hx hb hts iu_X2_makeWhole_2 hown hK hP lpb ((va_un _ _ n_pb_pn).trans (hpb)) rfl 0 (by decide) (hts _ il_X2_makeWhole_9) (fun _ h9 => h9) rfl dX2_makeWhole_66 ?_
        refine lv_iload_n hx hb dX2_makeWhole_69 rfl (lv_at hl 2 rfl) ?_
        refine lv_iload hx hb dX2_makeWhole_70 (lv_at hl 1 rfl) ?_
        refine iw_pi (va_runS (As := [.int (nI (8 * y + x)), .int (nI k)]) (rest := [.ref (ad pn)]) ⟨hx, hb, hml, hown, hts⟩ (kX2_indexOf l (8 * y + x) k) (va_cwS 2 hts gX2_makeWhole_X2_indexOf rfl rfl rfl (by decide +kernel) ⟨Nat.le_of_ble_eq_true rfl, Nat.le_of_ble_eq_true rfl⟩) ⟨fun a U g mk q => q, fun U hU hW => ⟨rfl, trivial⟩⟩ rfl rfl hl.1 rfl (lv_room (Nat.le_of_ble_eq_true rfl)) dX2_makeWhole_72 ⟨hcc, hcs⟩) hP hS (fun r8 u8 H locs hw8 hP hS => ?_)
        refine lv_asI hw8 ?_
        refine lv_fload hx hb dX2_makeWhole_75 (lv_at hl 0 rfl) ?_
        refine iw_fast hx hb hK hP hD hS lpn (va_us _ _ _) (vp_in_nI (show 3 * (8 * y + x) + k < 192 by omega) (by omega)) (nI_clamp (by omega)) dX2_makeWhole_77 (fun H locs hP hD hS => ?_)
        rw [va_uu _ _ _ _] at hP hD
        refine lv_iinc (v := nI (k + 1)) (lv' := [(5, .int (nI (k + 1))), (6, .float (whF md (3 * (8 * y + x) + k))), (3, .int (nI (8 * y + x))), (4, .int (nI (colN x y))), (2, .int (nI x)), (1, .int (nI y)), (0, .ref (ad pb))]) hx hb dX2_makeWhole_78 hl (k := 1) rfl (iinc_nat _ 1) (by decide) rfl (fun ls hl => ?_)
        refine lv_goto (tgt := 32) hx hb dX2_makeWhole_81 (by decide) ?_
        rw [flI_f] at hP hD
        exact ih (k + 1) H locs ls (by omega) (by omega) hP hD hS (lv_sub hl [0, 2, 3, 4, 5, 6] rfl)
      · have e8 : k = colN x y := (nI_eq (by omega) (by have := colN_lt x y; omega)).mp c42
        refine lv_aload_n hx hb dX2_makeWhole_45 rfl (lv_at hl 5 rfl) ?_
        refine iw_get hx hb hts iu_X2_makeWhole_2 hown hK hP lpb ((va_un _ _ n_pb_pn).trans (hpb)) rfl 1 (by decide) (hts _ il_X2_makeWhole_15) (fun _ h9 => h9) rfl dX2_makeWhole_46 ?_
        refine lv_iload_n hx hb dX2_makeWhole_49 rfl (lv_at hl 1 rfl) ?_
        refine iw_iald (v := nI (md (8 * y + x))) hx hb hK hP lpm ((va_un _ _ (Ne.symm n_pn_pm)).trans (hpm)) (vp_in_nI (show 8 * y + x < 64 by omega) (by omega)) (congrArg (fun i => nI (md i)) (nI_clamp (by omega))) dX2_makeWhole_50 ?_
        refine lv_i2f hx hb dX2_makeWhole_51 ?_
        refine lv_goto (tgt := 63) hx hb dX2_makeWhole_52 (by decide) ?_
        refine lv_asF (y := whF md (3 * (8 * y + x) + k)) (by unfold whF; rw [show (3 * (8 * y + x) + k) / 3 = 8 * y + x by omega, show (3 * (8 * y + x) + k) % 3 = k by omega, show (8 * y + x) / 8 = y by omega, show (8 * y + x) % 8 = x by omega]; rw [if_pos e8]) ?_
        refine lv_fstore (lv' := [(6, .float (whF md (3 * (8 * y + x) + k))), (5, .int (nI k)), (3, .int (nI (8 * y + x))), (4, .int (nI (colN x y))), (2, .int (nI x)), (1, .int (nI y)), (0, .ref (ad pb))]) hx hb dX2_makeWhole_63 hl (by decide) rfl (fun ls hl => ?_)
        refine lv_aload_n hx hb dX2_makeWhole_65 rfl (lv_at hl 6 rfl) ?_
        refine iw_get hx hb hts iu_X2_makeWhole_2 hown hK hP lpb ((va_un _ _ n_pb_pn).trans (hpb)) rfl 0 (by decide) (hts _ il_X2_makeWhole_9) (fun _ h9 => h9) rfl dX2_makeWhole_66 ?_
        refine lv_iload_n hx hb dX2_makeWhole_69 rfl (lv_at hl 2 rfl) ?_
        refine lv_iload hx hb dX2_makeWhole_70 (lv_at hl 1 rfl) ?_
        refine iw_pi (va_runS (As := [.int (nI (8 * y + x)), .int (nI k)]) (rest := [.ref (ad pn)]) ⟨hx, hb, hml, hown, hts⟩ (kX2_indexOf l (8 * y + x) k) (va_cwS 2 hts gX2_makeWhole_X2_indexOf rfl rfl rfl (by decide +kernel) ⟨Nat.le_of_ble_eq_true rfl, Nat.le_of_ble_eq_true rfl⟩) ⟨fun a U g mk q => q, fun U hU hW => ⟨rfl, trivial⟩⟩ rfl rfl hl.1 rfl (lv_room (Nat.le_of_ble_eq_true rfl)) dX2_makeWhole_72 ⟨hcc, hcs⟩) hP hS (fun r8 u8 H locs hw8 hP hS => ?_)
        refine lv_asI hw8 ?_
        refine lv_fload hx hb dX2_makeWhole_75 (lv_at hl 0 rfl) ?_
        refine iw_fast hx hb hK hP hD hS lpn (va_us _ _ _) (vp_in_nI (show 3 * (8 * y + x) + k < 192 by omega) (by omega)) (nI_clamp (by omega)) dX2_makeWhole_77 (fun H locs hP hD hS => ?_)
        rw [va_uu _ _ _ _] at hP hD
        refine lv_iinc (v := nI (k + 1)) (lv' := [(5, .int (nI (k + 1))), (6, .float (whF md (3 * (8 * y + x) + k))), (3, .int (nI (8 * y + x))), (4, .int (nI (colN x y))), (2, .int (nI x)), (1, .int (nI y)), (0, .ref (ad pb))]) hx hb dX2_makeWhole_78 hl (k := 1) rfl (iinc_nat _ 1) (by decide) rfl (fun ls hl => ?_)
        refine lv_goto (tgt := 32) hx hb dX2_makeWhole_81 (by decide) ?_
        rw [flI_f] at hP hD
        exact ih (k + 1) H locs ls (by omega) (by omega) hP hD hS (lv_sub hl [0, 2, 3, 4, 5, 6] rfl)
set_option maxRecDepth 20000 in
theorem il_X2_makeWhole_iniX6 : (Cond.initialized RX6) ∈ wsX2_makeWhole := by decide +kernel
set_option maxRecDepth 20000 in
theorem il_X2_makeWhole_st_X6_placeOf : (Cond.static yX6_placeOf) ∈ wsX2_makeWhole := by decide +kernel
set_option maxRecDepth 20000 in
theorem il_X2_makeWhole_st_X6_colourSeen : (Cond.static yX6_colourSeen) ∈ wsX2_makeWhole := by decide +kernel
set_option maxHeartbeats 4000000 in
set_option maxRecDepth 100000 in
theorem lX2_makeWhole_x {p : Program} {l : Launch} {e : Env} {s : State} {m : MethodId} {args : Array Value} {below : List Frame} {meth : Method} {c : Code} {Q : State → Prop} {A : Nat → Prop} {H0 : Heap} {cells slots : Nat} (hx : p.tables.exec = Jvm.exec) (hb : c.code = cX2_makeWhole) (hml : c.maxLocals = 7) (hr : meth.sig.returnType = none) (hts : ∀ w ∈ wsX2_makeWhole, w.before args s = true) (hown : s.vm.findClass RX2 = some m.cls) {G : iG} (hK : KB G s) (hA : ∀ q, H0.size ≤ q → A q) {N : Nat} {ad : Nat → Nat} {C : Nat → va_E}  (hcc : cells ≤ rmX2_makeWhole.cells) (hcs : slots ≤ rmX2_makeWhole.slots) {pb pn pm : Nat} {nu : Nat → UInt32} {md : Nat → Nat} (lpb : pb < N) (lpn : pn < N) (lpm : pm < N) (hpb : C pb = ob 2 [.ref (ad pn), .ref (ad pm)]) (hpn : C pn = fa G 192 nu) (hpm : C pm = ia G 64 (fun i => nI (md i))) (hm9 : ∀ i, i < 64 → md i ≤ 255) {y : Nat} (hy8 : y < 8) (kx : ∀ (H : Heap) (locs : List Loc) (ls : Array Slot), va_P G.1 vwB (wl N ad (va_up C pn (fa G 192 (flI (whF md) nu (3 * (8 * y + 8)))))) H → va_D A (wl N ad (va_up C pn (fa G 192 (flI (whF md) nu (3 * (8 * y + 8)))))) → va_S A H0 H locs → lv_has ls 7 [(1, .int (nI y)), (0, .ref (ad pb))] → W p l e rmX2_makeWhole s m args below meth c H locs cells slots Q (F0 m 90 ls [])) : ∀ (d : Nat) (x : Nat) (H : Heap) (locs : List Loc) (ls : Array Slot), 8 - x < d → x ≤ 8 → va_P G.1 vwB (wl N ad (va_up C pn (fa G 192 (flI (whF md) nu (3 * (8 * y + x)))))) H → va_D A (wl N ad (va_up C pn (fa G 192 (flI (whF md) nu (3 * (8 * y + x)))))) → va_S A H0 H locs → lv_has ls 7 [(2, .int (nI x)), (1, .int (nI y)), (0, .ref (ad pb))] → W p l e rmX2_makeWhole s m args below meth c H locs cells slots Q (F0 m 10 ls []) := by
  intro d
  induction d with
  | zero => intro x H locs ls hd; exact absurd hd (Nat.not_lt_zero _)
  | succ d ih =>
    intro x H locs ls hd h2 hP hD hS hl
    refine lv_iload_n hx hb dX2_makeWhole_10 rfl (lv_at hl 0 rfl) ?_
    refine lv_bipush (v := nI 8) hx hb dX2_makeWhole_11 (by decide) ?_
    refine lv_icmp_ge (tgt := 90) hx hb dX2_makeWhole_13 (by decide) (fun c13 => ?_) (fun c13 => ?_)
    · have h5 : x = 8 := by have := (nI_leI (by omega) (by omega)).mp c13; omega
      subst h5
      exact kx H locs ls hP hD hS (lv_sub hl [1, 2] rfl)
    · have h4 : x < 8 := by have := mt (nI_leI (by omega) (by omega)).mpr c13; omega
      refine lv_iload_n hx hb dX2_makeWhole_16 rfl (lv_at hl 0 rfl) ?_
      refine lv_iload_n hx hb dX2_makeWhole_17 rfl (lv_at hl 1 rfl) ?_
      refine iw_pi (va_runSN (As := [.int (nI x), .int (nI y)]) (rest := []) ⟨hx, hb, hml, hown, hts⟩ (kX6_placeOf l x y) ⟨va_cnB (host := RX6) 2 hts gX2_makeWhole_X6_placeOf_n54 rfl rfl rfl (nw_RX2_54 hK.2) (hts _ il_X2_makeWhole_iniX6) (by decide +kernel) ⟨Nat.le_of_ble_eq_true rfl, Nat.le_of_ble_eq_true rfl⟩, (hts _ il_X2_makeWhole_st_X6_placeOf), trivial⟩ ⟨fun a U g mk q => q, fun U hU hW => ⟨rfl, trivial⟩⟩ rfl rfl hl.1 rfl (lv_room (Nat.le_of_ble_eq_true rfl)) dX2_makeWhole_18 ⟨hcc, hcs⟩) hP hS (fun r8 u8 H locs hw8 hP hS => ?_)
      refine lv_asI hw8 ?_
      refine lv_istore_n (lv' := [(3, .int (nI (8 * y + x))), (2, .int (nI x)), (1, .int (nI y)), (0, .ref (ad pb))]) hx hb dX2_makeWhole_21 rfl hl (by decide) rfl (fun ls hl => ?_)
      refine lv_iload_n hx hb dX2_makeWhole_22 rfl (lv_at hl 1 rfl) ?_
      refine lv_iload_n hx hb dX2_makeWhole_23 rfl (lv_at hl 2 rfl) ?_
      refine iw_pi (va_runSN (As := [.int (nI x), .int (nI y)]) (rest := []) ⟨hx, hb, hml, hown, hts⟩ (kX6_colourSeen l x y (by omega) (by omega)) ⟨va_cnB (host := RX6) 2 hts gX2_makeWhole_X6_colourSeen_n65 rfl rfl rfl (nw_RX2_65 hK.2) (hts _ il_X2_makeWhole_iniX6) (by decide +kernel) ⟨Nat.le_of_ble_eq_true rfl, Nat.le_of_ble_eq_true rfl⟩, (hts _ il_X2_makeWhole_st_X6_colourSeen), trivial⟩ ⟨fun a U g mk q => q, fun U hU hW => ⟨rfl, trivial⟩⟩ rfl rfl hl.1 rfl (lv_room (Nat.le_of_ble_eq_true rfl)) dX2_makeWhole_24 ⟨hcc, hcs⟩) hP hS (fun r8 u8 H locs hw8 hP hS => ?_)
      refine lv_asI hw8 ?_
      refine lv_istore (lv' := [(4, .int (nI (colN x y))), (3, .int (nI (8 * y + x))), (2, .int (nI x)), (1, .int (nI y)), (0, .ref (ad pb))]) hx hb dX2_makeWhole_27 hl (by decide) rfl (fun ls hl => ?_)
      refine lv_iconst (v := nI 0) hx hb dX2_makeWhole_29 (by decide) ?_
      refine lv_istore (lv' := [(5, .int (nI 0)), (4, .int (nI (colN x y))), (3, .int (nI (8 * y + x))), (2, .int (nI x)), (1, .int (nI y)), (0, .ref (ad pb))]) hx hb dX2_makeWhole_30 hl (by decide) rfl (fun ls hl => ?_)
      refine lX2_makeWhole_k hx hb hml hr hts hown hK hA hcc hcs lpb lpn lpm hpb hpn hpm hm9 h4 hy8 (fun H locs ls hP hD hS hl => ?_) 4 0 H locs ls (by omega) (by omega) hP hD hS (lv_sub hl [0, 2, 1, 3, 4, 5] rfl)
      refine lv_iinc (v := nI (x + 1)) (lv' := [(2, .int (nI (x + 1))), (1, .int (nI y)), (0, .ref (ad pb))]) hx hb dX2_makeWhole_84 hl (k := 0) rfl (iinc_nat _ 1) (by decide) rfl (fun ls hl => ?_)
      refine lv_goto (tgt := 10) hx hb dX2_makeWhole_87 (by decide) ?_
      exact ih (x + 1) H locs ls (by omega) (by omega) hP hD hS (lv_sub hl [0, 1, 2] rfl)
set_option maxHeartbeats 4000000 in
set_option maxRecDepth 100000 in
theorem lX2_makeWhole_y {p : Program} {l : Launch} {e : Env} {s : State} {m : MethodId} {args : Array Value} {below : List Frame} {meth : Method} {c : Code} {Q : State → Prop} {A : Nat → Prop} {H0 : Heap} {cells slots : Nat} (hx : p.tables.exec = Jvm.exec) (hb : c.code = cX2_makeWhole) (hml : c.maxLocals = 7) (hr : meth.sig.returnType = none) (hts : ∀ w ∈ wsX2_makeWhole, w.before args s = true) (hown : s.vm.findClass RX2 = some m.cls) {G : iG} (hK : KB G s) (hA : ∀ q, H0.size ≤ q → A q) {N : Nat} {ad : Nat → Nat} {C : Nat → va_E}  (hcc : cells ≤ rmX2_makeWhole.cells) (hcs : slots ≤ rmX2_makeWhole.slots) {pb pn pm : Nat} {nu : Nat → UInt32} {md : Nat → Nat} (lpb : pb < N) (lpn : pn < N) (lpm : pm < N) (hpb : C pb = ob 2 [.ref (ad pn), .ref (ad pm)]) (hpn : C pn = fa G 192 nu) (hpm : C pm = ia G 64 (fun i => nI (md i))) (hm9 : ∀ i, i < 64 → md i ≤ 255) (kx : ∀ (H : Heap) (locs : List Loc) (ls : Array Slot), va_P G.1 vwB (wl N ad (va_up C pn (fa G 192 (flI (whF md) nu (3 * (8 * 8)))))) H → va_D A (wl N ad (va_up C pn (fa G 192 (flI (whF md) nu (3 * (8 * 8)))))) → va_S A H0 H locs → lv_has ls 7 [(0, .ref (ad pb))] → W p l e rmX2_makeWhole s m args below meth c H locs cells slots Q (F0 m 96 ls [])) : ∀ (d : Nat) (y : Nat) (H : Heap) (locs : List Loc) (ls : Array Slot), 8 - y < d → y ≤ 8 → va_P G.1 vwB (wl N ad (va_up C pn (fa G 192 (flI (whF md) nu (3 * (8 * y)))))) H → va_D A (wl N ad (va_up C pn (fa G 192 (flI (whF md) nu (3 * (8 * y)))))) → va_S A H0 H locs → lv_has ls 7 [(1, .int (nI y)), (0, .ref (ad pb))] → W p l e rmX2_makeWhole s m args below meth c H locs cells slots Q (F0 m 2 ls []) := by
  intro d
  induction d with
  | zero => intro y H locs ls hd; exact absurd hd (Nat.not_lt_zero _)
  | succ d ih =>
    intro y H locs ls hd h2 hP hD hS hl
    refine lv_iload_n hx hb dX2_makeWhole_2 rfl (lv_at hl 0 rfl) ?_
    refine lv_bipush (v := nI 8) hx hb dX2_makeWhole_3 (by decide) ?_
    refine lv_icmp_ge (tgt := 96) hx hb dX2_makeWhole_5 (by decide) (fun c5 => ?_) (fun c5 => ?_)
    · have h5 : y = 8 := by have := (nI_leI (by omega) (by omega)).mp c5; omega
      subst h5
      exact kx H locs ls hP hD hS (lv_sub hl [1] rfl)
    · have h4 : y < 8 := by have := mt (nI_leI (by omega) (by omega)).mpr c5; omega
      refine lv_iconst (v := nI 0) hx hb dX2_makeWhole_8 (by decide) ?_
      refine lv_istore_n (lv' := [(2, .int (nI 0)), (1, .int (nI y)), (0, .ref (ad pb))]) hx hb dX2_makeWhole_9 rfl hl (by decide) rfl (fun ls hl => ?_)
      refine lX2_makeWhole_x hx hb hml hr hts hown hK hA hcc hcs lpb lpn lpm hpb hpn hpm hm9 h4 (fun H locs ls hP hD hS hl => ?_) 9 0 H locs ls (by omega) (by omega) hP hD hS (lv_sub hl [0, 1, 2] rfl)
      refine lv_iinc (v := nI (y + 1)) (lv' := [(1, .int (nI (y + 1))), (0, .ref (ad pb))]) hx hb dX2_makeWhole_90 hl (k := 0) rfl (iinc_nat _ 1) (by decide) rfl (fun ls hl => ?_)
      refine lv_goto (tgt := 2) hx hb dX2_makeWhole_93 (by decide) ?_
      exact ih (y + 1) H locs ls (by omega) (by omega) hP hD hS (lv_sub hl [0, 1] rfl)
set_option maxHeartbeats 4000000 in
set_option maxRecDepth 100000 in
theorem kX2_makeWhole (l : Launch) (G : iG) (N : Nat) (ad : Nat → Nat) (C : Nat → va_E) {pb pn pm : Nat} {nu : Nat → UInt32} {md : Nat → Nat} (lpb : pb < N) (lpn : pn < N) (lpm : pm < N) (hpb : C pb = ob 2 [.ref (ad pn), .ref (ad pm)]) (hpn : C pn = fa G 192 nu) (hpm : C pm = ia G 64 (fun i => nI (md i))) (hm9 : ∀ i, i < 64 → md i ≤ 255) (sz : Nat) : Met l yX2_makeWhole wsX2_makeWhole rmX2_makeWhole (iPre G N ad C sz [.ref (ad pb)]) (va_Qv (fun (u : Nat → va_E) => u = va_up C pn (fa G 192 (whF md))) (iB G N ad) (iA N ad sz)) 0 0 (iA N ad sz) := by
  refine Met.ofW (cc := cX2_makeWhole) (maxL := 7) (ret := none) (by decide) rfl ?_
  intro p e s m args below meth c s₁ B hml hv
  obtain ⟨rfl, hsz, hP, hK, hD0⟩ := hv
  have hx := B.exec
  have hb := B.bytes
  have hr := B.returns
  have hts := atoms_spec (ws := wsX2_makeWhole) B.pre
  have hown : s.vm.findClass RX2 = some m.cls := findClass_of_methodNamed B.named
  have hlocks := B.notSynchronized
  subst hsz
  have hD := wl_self hD0 s.heap.size
  have hA : ∀ q : Nat, s.heap.size ≤ q → iA N ad s.heap.size q := fun q h => Or.inr h
  have hS : va_S (iA N ad s.heap.size) s.heap s.heap [] := va_S.rf
  have hP : va_P G.1 vwB (wl N ad C) s.heap := hP
  have hl := lv_entry ([.ref (ad pb)]) (n := 7) (Nat.le_of_ble_eq_true rfl)
  rw [lg_entry_eq]
  generalize (lg_sl ([.ref (ad pb)]) ++ List.replicate (7 - (lg_sl ([.ref (ad pb)])).length) Slot.unset).toArray = ls at hl ⊢
  have hl : lv_has ls 7 [(0, .ref (ad pb))] := hl
  have n_pb_pn : pb ≠ pn := fun h => by rw [h, hpn] at hpb; simp at hpb
  have n_pb_pm : pb ≠ pm := fun h => by rw [h, hpm] at hpb; simp at hpb
  have n_pn_pm : pn ≠ pm := fun h => by rw [h, hpm] at hpn; simp at hpn
  refine lv_iconst (v := nI 0) hx hb dX2_makeWhole_0 (by decide) ?_
  refine lv_istore_n (lv' := [(1, .int (nI 0)), (0, .ref (ad pb))]) hx hb dX2_makeWhole_1 rfl hl (by decide) rfl (fun ls hl => ?_)
  have hP := wl_selfE hP hpn
  have hD := wl_D hD (va_up C pn (fa G 192 nu))
  refine lX2_makeWhole_y hx hb hml hr hts hown hK hA (Nat.le_refl _) (Nat.le_refl _) lpb lpn lpm hpb hpn hpm hm9 (fun H locs ls hP hD hS hl => ?_) 9 0 _ _ ls (by omega) (by omega) (by rw [flI_0]; exact hP) (by rw [flI_0]; exact hD) hS (lv_sub hl [0, 1] rfl)
  have hP := wl_fa (g := whF md) hP (fun k hk => by simp [flI, show k < 192 from hk])
  have hD := wl_D hD (va_up C pn (fa G 192 (whF md)))
  exact W.vret hx hb hr (fun t ht hW => ⟨⟨_, rfl, rfl, iB_of ht hP⟩, hS.F ht⟩) hS.2.2 dX2_makeWhole_96
abbrev rmX2_darken : Room := { frames := 0, cells := 0, slots := 0, locals := 0 }
set_option maxRecDepth 20000 in
theorem iu_X2_darken_2 : ∀ w ∈ u_ws RX2 TX2 2, w ∈ wsX2_darken := by decide +kernel
set_option maxRecDepth 20000 in
theorem il_X2_darken_9 : (Cond.fieldLink RX2 9 "BayerGate$Picture" "numbers" "[F") ∈ wsX2_darken := by decide +kernel
set_option maxHeartbeats 4000000 in
set_option maxRecDepth 100000 in
theorem lX2_darken {p : Program} {l : Launch} {e : Env} {s : State} {m : MethodId} {args : Array Value} {below : List Frame} {meth : Method} {c : Code} {Q : State → Prop} {A : Nat → Prop} {H0 : Heap} {cells slots : Nat} (hx : p.tables.exec = Jvm.exec) (hb : c.code = cX2_darken) (hml : c.maxLocals = 4) (hr : meth.sig.returnType = none) (hts : ∀ w ∈ wsX2_darken, w.before args s = true) (hown : s.vm.findClass RX2 = some m.cls) {G : iG} (hK : KB G s) (hA : ∀ q, H0.size ≤ q → A q) {N : Nat} {ad : Nat → Nat} {C : Nat → va_E}  (hcc : cells ≤ rmX2_darken.cells) (hcs : slots ≤ rmX2_darken.slots) {pb pn pm : Nat} {nu : Nat → UInt32} {md : Nat → Nat} (lpb : pb < N) (lpn : pn < N) (lpm : pm < N) (hpb : C pb = ob 2 [.ref (ad pn), .ref (ad pm)]) (hpn : C pn = fa G 192 nu) (hpm : C pm = ia G 64 (fun i => nI (md i))) (hn9 : ∀ i, i < 192 → vf_n32 (nu i)) {b : Nat} (hb65 : b < 65) (kx : ∀ (H : Heap) (locs : List Loc) (ls : Array Slot), va_P G.1 vwB (wl N ad (va_up C pn (fa G 192 (flI (fun i => dkF b (nu i)) nu (192))))) H → va_D A (wl N ad (va_up C pn (fa G 192 (flI (fun i => dkF b (nu i)) nu (192))))) → va_S A H0 H locs → lv_has ls 4 [(0, .ref (ad pb))] → W p l e rmX2_darken s m args below meth c H locs cells slots Q (F0 m 44 ls [])) : ∀ (d : Nat) (k : Nat) (H : Heap) (locs : List Loc) (ls : Array Slot), 192 - k < d → k ≤ 192 → va_P G.1 vwB (wl N ad (va_up C pn (fa G 192 (flI (fun i => dkF b (nu i)) nu (k))))) H → va_D A (wl N ad (va_up C pn (fa G 192 (flI (fun i => dkF b (nu i)) nu (k))))) → va_S A H0 H locs → lv_has ls 4 [(2, .int (nI k)), (0, .ref (ad pb)), (1, .int (nI b))] → W p l e rmX2_darken s m args below meth c H locs cells slots Q (F0 m 2 ls []) := by
  intro d
  induction d with
  | zero => intro k H locs ls hd; exact absurd hd (Nat.not_lt_zero _)
  | succ d ih =>
    intro k H locs ls hd h2 hP hD hS hl
    have n_pb_pn : pb ≠ pn := fun h => by rw [h, hpn] at hpb; simp at hpb
    have n_pb_pm : pb ≠ pm := fun h => by rw [h, hpm] at hpb; simp at hpb
    have n_pn_pm : pn ≠ pm := fun h => by rw [h, hpm] at hpn; simp at hpn
    have hn0 := fun (h : k < 192) => hn9 k h
    refine lv_iload_n hx hb dX2_darken_2 rfl (lv_at hl 0 rfl) ?_
    refine lv_aload_n hx hb dX2_darken_3 rfl (lv_at hl 1 rfl) ?_
    refine iw_get hx hb hts iu_X2_darken_2 hown hK hP lpb ((va_un _ _ n_pb_pn).trans (hpb)) rfl 0 (by decide) (hts _ il_X2_darken_9) (fun _ h9 => h9) rfl dX2_darken_4 ?_
    refine iw_alenF (v := nI 192) hx hb hK hP lpn (va_us _ _ _) rfl dX2_darken_7 ?_
    refine lv_icmp_ge (tgt := 44) hx hb dX2_darken_8 (by decide) (fun c8 => ?_) (fun c8 => ?_)
    · have h5 : k = 192 := by have := (nI_leI (by omega) (by omega)).mp c8; omega
      subst h5
      exact kx H locs ls hP hD hS (lv_sub hl [1] rfl)
    · have h4 : k < 192 := by have := mt (nI_leI (by omega) (by omega)).mpr c8; omega
      refine lv_aload_n hx hb dX2_darken_11 rfl (lv_at hl 1 rfl) ?_
      refine iw_get hx hb hts iu_X2_darken_2 hown hK hP lpb ((va_un _ _ n_pb_pn).trans (hpb)) rfl 0 (by decide) (hts _ il_X2_darken_9) (fun _ h9 => h9) rfl dX2_darken_12 ?_
      refine lv_iload_n hx hb dX2_darken_15 rfl (lv_at hl 0 rfl) ?_
      refine iw_fald (v := (flI (fun i => dkF b (nu i)) nu (k)) k) hx hb hK hP lpn (va_us _ _ _) (vp_in_nI (show k < 192 by omega) (by omega)) (congrArg (flI (fun i => dkF b (nu i)) nu (k)) (nI_clamp (by omega))) dX2_darken_16 ?_
      refine lv_asF (y := nu k) (flI_at _ _ _) ?_
      refine lv_iload_n hx hb dX2_darken_17 rfl (lv_at hl 2 rfl) ?_
      refine lv_i2f hx hb dX2_darken_18 ?_
      refine lv_fsub hx hb dX2_darken_19 (fsub_nf (hn0 h4) (i2f_fin32 _)) ?_
      refine lv_fstore_n (lv' := [(3, .float (FP.fsub (nu k) (FP.i2f (nI b)))), (2, .int (nI k)), (0, .ref (ad pb)), (1, .int (nI b))]) hx hb dX2_darken_20 rfl hl (by decide) rfl (fun ls hl => ?_)
      refine lv_aload_n hx hb dX2_darken_21 rfl (lv_at hl 2 rfl) ?_
      refine iw_get hx hb hts iu_X2_darken_2 hown hK hP lpb ((va_un _ _ n_pb_pn).trans (hpb)) rfl 0 (by decide) (hts _ il_X2_darken_9) (fun _ h9 => h9) rfl dX2_darken_22 ?_
      refine lv_iload_n hx hb dX2_darken_25 rfl (lv_at hl 1 rfl) ?_
      refine lv_fload_n hx hb dX2_darken_26 rfl (lv_at hl 0 rfl) ?_
      refine lv_fconst0 hx hb dX2_darken_27 ?_
      refine lv_fcmp hx hb dX2_darken_28 ?_
      refine lv_if_le (tgt := 36) hx hb dX2_darken_29 (by decide) (fun c29 => ?_) (fun c29 => ?_)
      · refine lv_fconst0 hx hb dX2_darken_36 ?_
        refine lv_asF (y := (fun i => dkF b (nu i)) k) (by show _ = dkF b (nu k); unfold dkF; rw [if_pos c29]) ?_
        refine iw_fast hx hb hK hP hD hS lpn (va_us _ _ _) (vp_in_nI (show k < 192 by omega) (by omega)) (nI_clamp (by omega)) dX2_darken_37 (fun H locs hP hD hS => ?_)
        rw [va_uu _ _ _ _] at hP hD
        refine lv_iinc (v := nI (k + 1)) (lv' := [(2, .int (nI (k + 1))), (3, .float (FP.fsub (nu k) (FP.i2f (nI b)))), (0, .ref (ad pb)), (1, .int (nI b))]) hx hb dX2_darken_38 hl (k := 1) rfl (iinc_nat _ 1) (by decide) rfl (fun ls hl => ?_)
        refine lv_goto (tgt := 2) hx hb dX2_darken_41 (by decide) ?_
        rw [flI_f (fun i => dkF b (nu i))] at hP hD
        exact ih (k + 1) H locs ls (by omega) (by omega) hP hD hS (lv_sub hl [0, 2, 3] rfl)
      · refine lv_fload_n hx hb dX2_darken_32 rfl (lv_at hl 0 rfl) ?_
        refine lv_goto (tgt := 37) hx hb dX2_darken_33 (by decide) ?_
        refine lv_asF (y := (fun i => dkF b (nu i)) k) (by show _ = dkF b (nu k); unfold dkF; rw [if_neg c29]) ?_
        refine iw_fast hx hb hK hP hD hS lpn (va_us _ _ _) (vp_in_nI (show k < 192 by omega) (by omega)) (nI_clamp (by omega)) dX2_darken_37 (fun H locs hP hD hS => ?_)
        rw [va_uu _ _ _ _] at hP hD
        refine lv_iinc (v := nI (k + 1)) (lv' := [(2, .int (nI (k + 1))), (3, .float (FP.fsub (nu k) (FP.i2f (nI b)))), (0, .ref (ad pb)), (1, .int (nI b))]) hx hb dX2_darken_38 hl (k := 1) rfl (iinc_nat _ 1) (by decide) rfl (fun ls hl => ?_)
        refine lv_goto (tgt := 2) hx hb dX2_darken_41 (by decide) ?_
        rw [flI_f (fun i => dkF b (nu i))] at hP hD
        exact ih (k + 1) H locs ls (by omega) (by omega) hP hD hS (lv_sub hl [0, 2, 3] rfl)
set_option maxHeartbeats 4000000 in
set_option maxRecDepth 100000 in
theorem kX2_darken (l : Launch) (G : iG) (N : Nat) (ad : Nat → Nat) (C : Nat → va_E) {pb pn pm : Nat} {nu : Nat → UInt32} {md : Nat → Nat} (lpb : pb < N) (lpn : pn < N) (lpm : pm < N) (hpb : C pb = ob 2 [.ref (ad pn), .ref (ad pm)]) (hpn : C pn = fa G 192 nu) (hpm : C pm = ia G 64 (fun i => nI (md i))) (hn9 : ∀ i, i < 192 → vf_n32 (nu i)) {b : Nat} (hb65 : b < 65) (sz : Nat) : Met l yX2_darken wsX2_darken rmX2_darken (iPre G N ad C sz [.ref (ad pb), .int (nI b)]) (va_Qv (fun (u : Nat → va_E) => u = va_up C pn (fa G 192 (fun i => dkF b (nu i)))) (iB G N ad) (iA N ad sz)) 0 0 (iA N ad sz) := by
  refine Met.ofW (cc := cX2_darken) (maxL := 4) (ret := none) (by decide) rfl ?_
  intro p e s m args below meth c s₁ B hml hv
  obtain ⟨rfl, hsz, hP, hK, hD0⟩ := hv
  have hx := B.exec
  have hb := B.bytes
  have hr := B.returns
  have hts := atoms_spec (ws := wsX2_darken) B.pre
  have hown : s.vm.findClass RX2 = some m.cls := findClass_of_methodNamed B.named
  have hlocks := B.notSynchronized
  subst hsz
  have hD := wl_self hD0 s.heap.size
  have hA : ∀ q : Nat, s.heap.size ≤ q → iA N ad s.heap.size q := fun q h => Or.inr h
  have hS : va_S (iA N ad s.heap.size) s.heap s.heap [] := va_S.rf
  have hP : va_P G.1 vwB (wl N ad C) s.heap := hP
  have hl := lv_entry ([.ref (ad pb), .int (nI b)]) (n := 4) (Nat.le_of_ble_eq_true rfl)
  rw [lg_entry_eq]
  generalize (lg_sl ([.ref (ad pb), .int (nI b)]) ++ List.replicate (4 - (lg_sl ([.ref (ad pb), .int (nI b)])).length) Slot.unset).toArray = ls at hl ⊢
  have hl : lv_has ls 4 [(0, .ref (ad pb)), (1, .int (nI b))] := hl
  have n_pb_pn : pb ≠ pn := fun h => by rw [h, hpn] at hpb; simp at hpb
  have n_pb_pm : pb ≠ pm := fun h => by rw [h, hpm] at hpb; simp at hpb
  have n_pn_pm : pn ≠ pm := fun h => by rw [h, hpm] at hpn; simp at hpn
  refine lv_iconst (v := nI 0) hx hb dX2_darken_0 (by decide) ?_
  refine lv_istore_n (lv' := [(2, .int (nI 0)), (0, .ref (ad pb)), (1, .int (nI b))]) hx hb dX2_darken_1 rfl hl (by decide) rfl (fun ls hl => ?_)
  have hP := wl_selfE hP hpn
  have hD := wl_D hD (va_up C pn (fa G 192 nu))
  refine lX2_darken hx hb hml hr hts hown hK hA (Nat.le_refl _) (Nat.le_refl _) lpb lpn lpm hpb hpn hpm hn9 hb65 (fun H locs ls hP hD hS hl => ?_) 193 0 _ _ ls (by omega) (by omega) (by rw [flI_0]; exact hP) (by rw [flI_0]; exact hD) hS (lv_sub hl [0, 1, 2] rfl)
  have hP := wl_fa (g := fun i => dkF b (nu i)) hP (fun k hk => by simp [flI, show k < 192 from hk])
  have hD := wl_D hD (va_up C pn (fa G 192 (fun i => dkF b (nu i))))
  exact W.vret hx hb hr (fun t ht hW => ⟨⟨_, rfl, rfl, iB_of ht hP⟩, hS.F ht⟩) hS.2.2 dX2_darken_44
abbrev rmX2_changeTone : Room := { frames := 0, cells := 0, slots := 0, locals := 0 }
set_option maxRecDepth 20000 in
theorem iu_X2_changeTone_2 : ∀ w ∈ u_ws RX2 TX2 2, w ∈ wsX2_changeTone := by decide +kernel
set_option maxRecDepth 20000 in
theorem il_X2_changeTone_9 : (Cond.fieldLink RX2 9 "BayerGate$Picture" "numbers" "[F") ∈ wsX2_changeTone := by decide +kernel
set_option maxRecDepth 20000 in
theorem il_X2_changeTone_53 : (Cond.constantFloat RX2 53 (1132396544)) ∈ wsX2_changeTone := by decide +kernel
set_option maxRecDepth 20000 in
theorem il_X2_changeTone_87 : (Cond.constantFloat RX2 87 (1056964608)) ∈ wsX2_changeTone := by decide +kernel
set_option maxHeartbeats 4000000 in
set_option maxRecDepth 100000 in
theorem lX2_changeTone {p : Program} {l : Launch} {e : Env} {s : State} {m : MethodId} {args : Array Value} {below : List Frame} {meth : Method} {c : Code} {Q : State → Prop} {A : Nat → Prop} {H0 : Heap} {cells slots : Nat} (hx : p.tables.exec = Jvm.exec) (hb : c.code = cX2_changeTone) (hml : c.maxLocals = 3) (hr : meth.sig.returnType = none) (hts : ∀ w ∈ wsX2_changeTone, w.before args s = true) (hown : s.vm.findClass RX2 = some m.cls) {G : iG} (hK : KB G s) (hA : ∀ q, H0.size ≤ q → A q) {N : Nat} {ad : Nat → Nat} {C : Nat → va_E}  (hcc : cells ≤ rmX2_changeTone.cells) (hcs : slots ≤ rmX2_changeTone.slots) {pb pn pm : Nat} {nu : Nat → UInt32} {md : Nat → Nat} (lpb : pb < N) (lpn : pn < N) (lpm : pm < N) (hpb : C pb = ob 2 [.ref (ad pn), .ref (ad pm)]) (hpn : C pn = fa G 192 nu) (hpm : C pm = ia G 64 (fun i => nI (md i))) (hn9 : ∀ i, i < 192 → vf_n32 (nu i)) {n : Nat} (hn3 : n < 3) (kx : ∀ (H : Heap) (locs : List Loc) (ls : Array Slot), va_P G.1 vwB (wl N ad (va_up C pn (fa G 192 (flI (fun i => toF n (nu i)) nu (192))))) H → va_D A (wl N ad (va_up C pn (fa G 192 (flI (fun i => toF n (nu i)) nu (192))))) → va_S A H0 H locs → lv_has ls 3 [(0, .ref (ad pb))] → W p l e rmX2_changeTone s m args below meth c H locs cells slots Q (F0 m 76 ls [])) : ∀ (d : Nat) (k : Nat) (H : Heap) (locs : List Loc) (ls : Array Slot), 192 - k < d → k ≤ 192 → va_P G.1 vwB (wl N ad (va_up C pn (fa G 192 (flI (fun i => toF n (nu i)) nu (k))))) H → va_D A (wl N ad (va_up C pn (fa G 192 (flI (fun i => toF n (nu i)) nu (k))))) → va_S A H0 H locs → lv_has ls 3 [(2, .int (nI k)), (0, .ref (ad pb)), (1, .int (nI n))] → W p l e rmX2_changeTone s m args below meth c H locs cells slots Q (F0 m 2 ls []) := by
  intro d
  induction d with
  | zero => intro k H locs ls hd; exact absurd hd (Nat.not_lt_zero _)
  | succ d ih =>
    intro k H locs ls hd h2 hP hD hS hl
    have n_pb_pn : pb ≠ pn := fun h => by rw [h, hpn] at hpb; simp at hpb
    have n_pb_pm : pb ≠ pm := fun h => by rw [h, hpm] at hpb; simp at hpb
    have n_pn_pm : pn ≠ pm := fun h => by rw [h, hpm] at hpn; simp at hpn
    have hn0 := fun (h : k < 192) => hn9 k h
    refine lv_iload_n hx hb dX2_changeTone_2 rfl (lv_at hl 0 rfl) ?_
    refine lv_aload_n hx hb dX2_changeTone_3 rfl (lv_at hl 1 rfl) ?_
    refine iw_get hx hb hts iu_X2_changeTone_2 hown hK hP lpb ((va_un _ _ n_pb_pn).trans (hpb)) rfl 0 (by decide) (hts _ il_X2_changeTone_9) (fun _ h9 => h9) rfl dX2_changeTone_4 ?_
    refine iw_alenF (v := nI 192) hx hb hK hP lpn (va_us _ _ _) rfl dX2_changeTone_7 ?_
    refine lv_icmp_ge (tgt := 76) hx hb dX2_changeTone_8 (by decide) (fun c8 => ?_) (fun c8 => ?_)
    · have h5 : k = 192 := by have := (nI_leI (by omega) (by omega)).mp c8; omega
      subst h5
      exact kx H locs ls hP hD hS (lv_sub hl [1] rfl)
    · have h4 : k < 192 := by have := mt (nI_leI (by omega) (by omega)).mpr c8; omega
      refine lv_iload_n hx hb dX2_changeTone_11 rfl (lv_at hl 2 rfl) ?_
      refine lv_if_ne (tgt := 33) hx hb dX2_changeTone_12 (by decide) (fun c12 => ?_) (fun c12 => ?_)
      · have e8 : ¬ n = 0 := fun e => c12 (by rw [e]; exact nI_0)
        refine lv_iload_n hx hb dX2_changeTone_33 rfl (lv_at hl 2 rfl) ?_
        refine lv_iconst (v := nI 1) hx hb dX2_changeTone_34 (by decide) ?_
        refine lv_icmp_ne (tgt := 55) hx hb dX2_changeTone_35 (by decide) (fun c35 => ?_) (fun c35 => ?_)
        · have e9 : ¬ n = 1 := fun e => c35 (by rw [e])
          refine lv_aload_n hx hb dX2_changeTone_55 rfl (lv_at hl 1 rfl) ?_
          refine iw_get hx hb hts iu_X2_changeTone_2 hown hK hP lpb ((va_un _ _ n_pb_pn).trans (hpb)) rfl 0 (by decide) (hts _ il_X2_changeTone_9) (fun _ h9 => h9) rfl dX2_changeTone_56 ?_
          refine lv_iload_n hx hb dX2_changeTone_59 rfl (lv_at hl 0 rfl) ?_
          refine lv_ldcf hx hb hown (hts _ il_X2_changeTone_53) dX2_changeTone_60 ?_
          refine lv_aload_n hx hb dX2_changeTone_62 rfl (lv_at hl 1 rfl) ?_
          refine iw_get hx hb hts iu_X2_changeTone_2 hown hK hP lpb ((va_un _ _ n_pb_pn).trans (hpb)) rfl 0 (by decide) (hts _ il_X2_changeTone_9) (fun _ h9 => h9) rfl dX2_changeTone_63 ?_
          refine lv_iload_n hx hb dX2_changeTone_66 rfl (lv_at hl 0 rfl) ?_
          refine iw_fald (v := (flI (fun i => toF n (nu i)) nu (k)) k) hx hb hK hP lpn (va_us _ _ _) (vp_in_nI (show k < 192 by omega) (by omega)) (congrArg (flI (fun i => toF n (nu i)) nu (k)) (nI_clamp (by omega))) dX2_changeTone_67 ?_
          refine lv_asF (y := nu k) (flI_at _ _ _) ?_
          refine lv_fsub hx hb dX2_changeTone_68 (fsub_fn (finz32_fin f255_ok) (hn0 h4)) ?_
          refine lv_asF (y := (fun i => toF n (nu i)) k) (by show _ = toF n (nu k); unfold toF; rw [if_neg e8, if_neg e9]) ?_
          refine iw_fast hx hb hK hP hD hS lpn (va_us _ _ _) (vp_in_nI (show k < 192 by omega) (by omega)) (nI_clamp (by omega)) dX2_changeTone_69 (fun H locs hP hD hS => ?_)
          rw [va_uu _ _ _ _] at hP hD
          refine lv_iinc (v := nI (k + 1)) (lv' := [(2, .int (nI (k + 1))), (0, .ref (ad pb)), (1, .int (nI n))]) hx hb dX2_changeTone_70 hl (k := 0) rfl (iinc_nat _ 1) (by decide) rfl (fun ls hl => ?_)
          refine lv_goto (tgt := 2) hx hb dX2_changeTone_73 (by decide) ?_
          rw [flI_f (fun i => toF n (nu i))] at hP hD
          exact ih (k + 1) H locs ls (by omega) (by omega) hP hD hS (lv_sub hl [0, 1, 2] rfl)
        · have e9 : n = 1 := (nI_eq (by omega) (by omega)).mp c35
          refine lv_aload_n hx hb dX2_changeTone_38 rfl (lv_at hl 1 rfl) ?_
          refine iw_get hx hb hts iu_X2_changeTone_2 hown hK hP lpb ((va_un _ _ n_pb_pn).trans (hpb)) rfl 0 (by decide) (hts _ il_X2_changeTone_9) (fun _ h9 => h9) rfl dX2_changeTone_39 ?_
          refine lv_iload_n hx hb dX2_changeTone_42 rfl (lv_at hl 0 rfl) ?_
          refine lv_aload_n hx hb dX2_changeTone_43 rfl (lv_at hl 1 rfl) ?_
          refine iw_get hx hb hts iu_X2_changeTone_2 hown hK hP lpb ((va_un _ _ n_pb_pn).trans (hpb)) rfl 0 (by decide) (hts _ il_X2_changeTone_9) (fun _ h9 => h9) rfl dX2_changeTone_44 ?_
          refine lv_iload_n hx hb dX2_changeTone_47 rfl (lv_at hl 0 rfl) ?_
          refine iw_fald (v := (flI (fun i => toF n (nu i)) nu (k)) k) hx hb hK hP lpn (va_us _ _ _) (vp_in_nI (show k < 192 by omega) (by omega)) (congrArg (flI (fun i => toF n (nu i)) nu (k)) (nI_clamp (by omega))) dX2_changeTone_48 ?_
          refine lv_asF (y := nu k) (flI_at _ _ _) ?_
          refine lv_fconst2 hx hb dX2_changeTone_49 ?_
          refine lv_fmul hx hb dX2_changeTone_50 (fmul_nz (hn0 h4) f2_ok) ?_
          refine lv_asF (y := (fun i => toF n (nu i)) k) (by show _ = toF n (nu k); unfold toF; rw [if_neg e8, if_pos e9]) ?_
          refine iw_fast hx hb hK hP hD hS lpn (va_us _ _ _) (vp_in_nI (show k < 192 by omega) (by omega)) (nI_clamp (by omega)) dX2_changeTone_51 (fun H locs hP hD hS => ?_)
          rw [va_uu _ _ _ _] at hP hD
          refine lv_goto (tgt := 70) hx hb dX2_changeTone_52 (by decide) ?_
          refine lv_iinc (v := nI (k + 1)) (lv' := [(2, .int (nI (k + 1))), (0, .ref (ad pb)), (1, .int (nI n))]) hx hb dX2_changeTone_70 hl (k := 0) rfl (iinc_nat _ 1) (by decide) rfl (fun ls hl => ?_)
          refine lv_goto (tgt := 2) hx hb dX2_changeTone_73 (by decide) ?_
          rw [flI_f (fun i => toF n (nu i))] at hP hD
          exact ih (k + 1) H locs ls (by omega) (by omega) hP hD hS (lv_sub hl [0, 1, 2] rfl)
      · have e8 : n = 0 := (nI_eq (by omega) (by omega)).mp (c12.trans nI_0.symm)
        refine lv_aload_n hx hb dX2_changeTone_15 rfl (lv_at hl 1 rfl) ?_
        refine iw_get hx hb hts iu_X2_changeTone_2 hown hK hP lpb ((va_un _ _ n_pb_pn).trans (hpb)) rfl 0 (by decide) (hts _ il_X2_changeTone_9) (fun _ h9 => h9) rfl dX2_changeTone_16 ?_
        refine lv_iload_n hx hb dX2_changeTone_19 rfl (lv_at hl 0 rfl) ?_
        refine lv_aload_n hx hb dX2_changeTone_20 rfl (lv_at hl 1 rfl) ?_
        refine iw_get hx hb hts iu_X2_changeTone_2 hown hK hP lpb ((va_un _ _ n_pb_pn).trans (hpb)) rfl 0 (by decide) (hts _ il_X2_changeTone_9) (fun _ h9 => h9) rfl dX2_changeTone_21 ?_
        refine lv_iload_n hx hb dX2_changeTone_24 rfl (lv_at hl 0 rfl) ?_
        refine iw_fald (v := (flI (fun i => toF n (nu i)) nu (k)) k) hx hb hK hP lpn (va_us _ _ _) (vp_in_nI (show k < 192 by omega) (by omega)) (congrArg (flI (fun i => toF n (nu i)) nu (k)) (nI_clamp (by omega))) dX2_changeTone_25 ?_
        refine lv_asF (y := nu k) (flI_at _ _ _) ?_
        refine lv_ldcf hx hb hown (hts _ il_X2_changeTone_87) dX2_changeTone_26 ?_
        refine lv_fmul hx hb dX2_changeTone_28 (fmul_nz (hn0 h4) fhalf_ok) ?_
        refine lv_asF (y := (fun i => toF n (nu i)) k) (by show _ = toF n (nu k); unfold toF; rw [if_pos e8]) ?_
        refine iw_fast hx hb hK hP hD hS lpn (va_us _ _ _) (vp_in_nI (show k < 192 by omega) (by omega)) (nI_clamp (by omega)) dX2_changeTone_29 (fun H locs hP hD hS => ?_)
        rw [va_uu _ _ _ _] at hP hD
        refine lv_goto (tgt := 70) hx hb dX2_changeTone_30 (by decide) ?_
        refine lv_iinc (v := nI (k + 1)) (lv' := [(2, .int (nI (k + 1))), (0, .ref (ad pb)), (1, .int (nI n))]) hx hb dX2_changeTone_70 hl (k := 0) rfl (iinc_nat _ 1) (by decide) rfl (fun ls hl => ?_)
        refine lv_goto (tgt := 2) hx hb dX2_changeTone_73 (by decide) ?_
        rw [flI_f (fun i => toF n (nu i))] at hP hD
        exact ih (k + 1) H locs ls (by omega) (by omega) hP hD hS (lv_sub hl [0, 1, 2] rfl)
set_option maxHeartbeats 4000000 in
set_option maxRecDepth 100000 in
theorem kX2_changeTone (l : Launch) (G : iG) (N : Nat) (ad : Nat → Nat) (C : Nat → va_E) {pb pn pm : Nat} {nu : Nat → UInt32} {md : Nat → Nat} (lpb : pb < N) (lpn : pn < N) (lpm : pm < N) (hpb : C pb = ob 2 [.ref (ad pn), .ref (ad pm)]) (hpn : C pn = fa G 192 nu) (hpm : C pm = ia G 64 (fun i => nI (md i))) (hn9 : ∀ i, i < 192 → vf_n32 (nu i)) {n : Nat} (hn3 : n < 3) (sz : Nat) : Met l yX2_changeTone wsX2_changeTone rmX2_changeTone (iPre G N ad C sz [.ref (ad pb), .int (nI n)]) (va_Qv (fun (u : Nat → va_E) => u = va_up C pn (fa G 192 (fun i => toF n (nu i)))) (iB G N ad) (iA N ad sz)) 0 0 (iA N ad sz) := by
  refine Met.ofW (cc := cX2_changeTone) (maxL := 3) (ret := none) (by decide) rfl ?_
  intro p e s m args below meth c s₁ B hml hv
  obtain ⟨rfl, hsz, hP, hK, hD0⟩ := hv
  have hx := B.exec
  have hb := B.bytes
  have hr := B.returns
  have hts := atoms_spec (ws := wsX2_changeTone) B.pre
  have hown : s.vm.findClass RX2 = some m.cls := findClass_of_methodNamed B.named
  have hlocks := B.notSynchronized
  subst hsz
  have hD := wl_self hD0 s.heap.size
  have hA : ∀ q : Nat, s.heap.size ≤ q → iA N ad s.heap.size q := fun q h => Or.inr h
  have hS : va_S (iA N ad s.heap.size) s.heap s.heap [] := va_S.rf
  have hP : va_P G.1 vwB (wl N ad C) s.heap := hP
  have hl := lv_entry ([.ref (ad pb), .int (nI n)]) (n := 3) (Nat.le_of_ble_eq_true rfl)
  rw [lg_entry_eq]
  generalize (lg_sl ([.ref (ad pb), .int (nI n)]) ++ List.replicate (3 - (lg_sl ([.ref (ad pb), .int (nI n)])).length) Slot.unset).toArray = ls at hl ⊢
  have hl : lv_has ls 3 [(0, .ref (ad pb)), (1, .int (nI n))] := hl
  have n_pb_pn : pb ≠ pn := fun h => by rw [h, hpn] at hpb; simp at hpb
  have n_pb_pm : pb ≠ pm := fun h => by rw [h, hpm] at hpb; simp at hpb
  have n_pn_pm : pn ≠ pm := fun h => by rw [h, hpm] at hpn; simp at hpn
  refine lv_iconst (v := nI 0) hx hb dX2_changeTone_0 (by decide) ?_
  refine lv_istore_n (lv' := [(2, .int (nI 0)), (0, .ref (ad pb)), (1, .int (nI n))]) hx hb dX2_changeTone_1 rfl hl (by decide) rfl (fun ls hl => ?_)
  have hP := wl_selfE hP hpn
  have hD := wl_D hD (va_up C pn (fa G 192 nu))
  refine lX2_changeTone hx hb hml hr hts hown hK hA (Nat.le_refl _) (Nat.le_refl _) lpb lpn lpm hpb hpn hpm hn9 hn3 (fun H locs ls hP hD hS hl => ?_) 193 0 _ _ ls (by omega) (by omega) (by rw [flI_0]; exact hP) (by rw [flI_0]; exact hD) hS (lv_sub hl [0, 1, 2] rfl)
  have hP := wl_fa (g := fun i => toF n (nu i)) hP (fun k hk => by simp [flI, show k < 192 from hk])
  have hD := wl_D hD (va_up C pn (fa G 192 (fun i => toF n (nu i))))
  exact W.vret hx hb hr (fun t ht hW => ⟨⟨_, rfl, rfl, iB_of ht hP⟩, hS.F ht⟩) hS.2.2 dX2_changeTone_76
abbrev rmX2_bound : Room := { frames := 1, cells := 0, slots := 0, locals := 20 }
set_option maxRecDepth 20000 in
theorem iu_X2_bound_2 : ∀ w ∈ u_ws RX2 TX2 2, w ∈ wsX2_bound := by decide +kernel
set_option maxRecDepth 20000 in
theorem il_X2_bound_9 : (Cond.fieldLink RX2 9 "BayerGate$Picture" "numbers" "[F") ∈ wsX2_bound := by decide +kernel
set_option maxHeartbeats 4000000 in
set_option maxRecDepth 100000 in
theorem lX2_bound {p : Program} {l : Launch} {e : Env} {s : State} {m : MethodId} {args : Array Value} {below : List Frame} {meth : Method} {c : Code} {Q : State → Prop} {A : Nat → Prop} {H0 : Heap} {cells slots : Nat} (hx : p.tables.exec = Jvm.exec) (hb : c.code = cX2_bound) (hml : c.maxLocals = 2) (hr : meth.sig.returnType = none) (hts : ∀ w ∈ wsX2_bound, w.before args s = true) (hown : s.vm.findClass RX2 = some m.cls) {G : iG} (hK : KB G s) (hA : ∀ q, H0.size ≤ q → A q) {N : Nat} {ad : Nat → Nat} {C : Nat → va_E}  (hcc : cells ≤ rmX2_bound.cells) (hcs : slots ≤ rmX2_bound.slots) {pb pn pm : Nat} {nu : Nat → UInt32} {md : Nat → Nat} (lpb : pb < N) (lpn : pn < N) (lpm : pm < N) (hpb : C pb = ob 2 [.ref (ad pn), .ref (ad pm)]) (hpn : C pn = fa G 192 nu) (hpm : C pm = ia G 64 (fun i => nI (md i))) (hn9 : ∀ i, i < 192 → vf_n32 (nu i))  (kx : ∀ (H : Heap) (locs : List Loc) (ls : Array Slot), va_P G.1 vwB (wl N ad (va_up C pn (fa G 192 (flI (fun i => bdF (nu i)) nu (192))))) H → va_D A (wl N ad (va_up C pn (fa G 192 (flI (fun i => bdF (nu i)) nu (192))))) → va_S A H0 H locs → lv_has ls 2 [(0, .ref (ad pb))] → W p l e rmX2_bound s m args below meth c H locs cells slots Q (F0 m 32 ls [])) : ∀ (d : Nat) (k : Nat) (H : Heap) (locs : List Loc) (ls : Array Slot), 192 - k < d → k ≤ 192 → va_P G.1 vwB (wl N ad (va_up C pn (fa G 192 (flI (fun i => bdF (nu i)) nu (k))))) H → va_D A (wl N ad (va_up C pn (fa G 192 (flI (fun i => bdF (nu i)) nu (k))))) → va_S A H0 H locs → lv_has ls 2 [(1, .int (nI k)), (0, .ref (ad pb))] → W p l e rmX2_bound s m args below meth c H locs cells slots Q (F0 m 2 ls []) := by
  intro d
  induction d with
  | zero => intro k H locs ls hd; exact absurd hd (Nat.not_lt_zero _)
  | succ d ih =>
    intro k H locs ls hd h2 hP hD hS hl
    have n_pb_pn : pb ≠ pn := fun h => by rw [h, hpn] at hpb; simp at hpb
    have n_pb_pm : pb ≠ pm := fun h => by rw [h, hpm] at hpb; simp at hpb
    have n_pn_pm : pn ≠ pm := fun h => by rw [h, hpm] at hpn; simp at hpn
    have hn0 := fun (h : k < 192) => hn9 k h
    refine lv_iload_n hx hb dX2_bound_2 rfl (lv_at hl 0 rfl) ?_
    refine lv_aload_n hx hb dX2_bound_3 rfl (lv_at hl 1 rfl) ?_
    refine iw_get hx hb hts iu_X2_bound_2 hown hK hP lpb ((va_un _ _ n_pb_pn).trans (hpb)) rfl 0 (by decide) (hts _ il_X2_bound_9) (fun _ h9 => h9) rfl dX2_bound_4 ?_
    refine iw_alenF (v := nI 192) hx hb hK hP lpn (va_us _ _ _) rfl dX2_bound_7 ?_
    refine lv_icmp_ge (tgt := 32) hx hb dX2_bound_8 (by decide) (fun c8 => ?_) (fun c8 => ?_)
    · have h5 : k = 192 := by have := (nI_leI (by omega) (by omega)).mp c8; omega
      subst h5
      exact kx H locs ls hP hD hS (lv_sub hl [1] rfl)
    · have h4 : k < 192 := by have := mt (nI_leI (by omega) (by omega)).mpr c8; omega
      refine lv_aload_n hx hb dX2_bound_11 rfl (lv_at hl 1 rfl) ?_
      refine iw_get hx hb hts iu_X2_bound_2 hown hK hP lpb ((va_un _ _ n_pb_pn).trans (hpb)) rfl 0 (by decide) (hts _ il_X2_bound_9) (fun _ h9 => h9) rfl dX2_bound_12 ?_
      refine lv_iload_n hx hb dX2_bound_15 rfl (lv_at hl 0 rfl) ?_
      refine lv_aload_n hx hb dX2_bound_16 rfl (lv_at hl 1 rfl) ?_
      refine iw_get hx hb hts iu_X2_bound_2 hown hK hP lpb ((va_un _ _ n_pb_pn).trans (hpb)) rfl 0 (by decide) (hts _ il_X2_bound_9) (fun _ h9 => h9) rfl dX2_bound_17 ?_
      refine lv_iload_n hx hb dX2_bound_20 rfl (lv_at hl 0 rfl) ?_
      refine iw_fald (v := (flI (fun i => bdF (nu i)) nu (k)) k) hx hb hK hP lpn (va_us _ _ _) (vp_in_nI (show k < 192 by omega) (by omega)) (congrArg (flI (fun i => bdF (nu i)) nu (k)) (nI_clamp (by omega))) dX2_bound_21 ?_
      refine lv_asF (y := nu k) (flI_at _ _ _) ?_
      refine iw_pf (va_runS (As := [.float (nu k)]) (rest := [.int (nI k), .ref (ad pn)]) ⟨hx, hb, hml, hown, hts⟩ (kX2_bounded l (nu k)) (va_cwS 1 hts gX2_bound_X2_bounded rfl rfl rfl (by decide +kernel) ⟨Nat.le_of_ble_eq_true rfl, Nat.le_of_ble_eq_true rfl⟩) ⟨fun a U g mk q => q, fun U hU hW => ⟨rfl, trivial⟩⟩ rfl rfl hl.1 rfl (lv_room (Nat.le_of_ble_eq_true rfl)) dX2_bound_22 ⟨hcc, hcs⟩) hP hS (fun r8 u8 H locs hw8 hP hS => ?_)
      refine lv_asF hw8 ?_
      refine iw_fast hx hb hK hP hD hS lpn (va_us _ _ _) (vp_in_nI (show k < 192 by omega) (by omega)) (nI_clamp (by omega)) dX2_bound_25 (fun H locs hP hD hS => ?_)
      rw [va_uu _ _ _ _] at hP hD
      refine lv_iinc (v := nI (k + 1)) (lv' := [(1, .int (nI (k + 1))), (0, .ref (ad pb))]) hx hb dX2_bound_26 hl (k := 0) rfl (iinc_nat _ 1) (by decide) rfl (fun ls hl => ?_)
      refine lv_goto (tgt := 2) hx hb dX2_bound_29 (by decide) ?_
      rw [flI_f (fun i => bdF (nu i))] at hP hD
      exact ih (k + 1) H locs ls (by omega) (by omega) hP hD hS (lv_sub hl [0, 1] rfl)
set_option maxHeartbeats 4000000 in
set_option maxRecDepth 100000 in
theorem kX2_bound (l : Launch) (G : iG) (N : Nat) (ad : Nat → Nat) (C : Nat → va_E) {pb pn pm : Nat} {nu : Nat → UInt32} {md : Nat → Nat} (lpb : pb < N) (lpn : pn < N) (lpm : pm < N) (hpb : C pb = ob 2 [.ref (ad pn), .ref (ad pm)]) (hpn : C pn = fa G 192 nu) (hpm : C pm = ia G 64 (fun i => nI (md i))) (hn9 : ∀ i, i < 192 → vf_n32 (nu i))  (sz : Nat) : Met l yX2_bound wsX2_bound rmX2_bound (iPre G N ad C sz [.ref (ad pb)]) (va_Qv (fun (u : Nat → va_E) => u = va_up C pn (fa G 192 (fun i => bdF (nu i)))) (iB G N ad) (iA N ad sz)) 0 0 (iA N ad sz) := by
  refine Met.ofW (cc := cX2_bound) (maxL := 2) (ret := none) (by decide) rfl ?_
  intro p e s m args below meth c s₁ B hml hv
  obtain ⟨rfl, hsz, hP, hK, hD0⟩ := hv
  have hx := B.exec
  have hb := B.bytes
  have hr := B.returns
  have hts := atoms_spec (ws := wsX2_bound) B.pre
  have hown : s.vm.findClass RX2 = some m.cls := findClass_of_methodNamed B.named
  have hlocks := B.notSynchronized
  subst hsz
  have hD := wl_self hD0 s.heap.size
  have hA : ∀ q : Nat, s.heap.size ≤ q → iA N ad s.heap.size q := fun q h => Or.inr h
  have hS : va_S (iA N ad s.heap.size) s.heap s.heap [] := va_S.rf
  have hP : va_P G.1 vwB (wl N ad C) s.heap := hP
  have hl := lv_entry ([.ref (ad pb)]) (n := 2) (Nat.le_of_ble_eq_true rfl)
  rw [lg_entry_eq]
  generalize (lg_sl ([.ref (ad pb)]) ++ List.replicate (2 - (lg_sl ([.ref (ad pb)])).length) Slot.unset).toArray = ls at hl ⊢
  have hl : lv_has ls 2 [(0, .ref (ad pb))] := hl
  have n_pb_pn : pb ≠ pn := fun h => by rw [h, hpn] at hpb; simp at hpb
  have n_pb_pm : pb ≠ pm := fun h => by rw [h, hpm] at hpb; simp at hpb
  have n_pn_pm : pn ≠ pm := fun h => by rw [h, hpm] at hpn; simp at hpn
  refine lv_iconst (v := nI 0) hx hb dX2_bound_0 (by decide) ?_
  refine lv_istore_n (lv' := [(1, .int (nI 0)), (0, .ref (ad pb))]) hx hb dX2_bound_1 rfl hl (by decide) rfl (fun ls hl => ?_)
  have hP := wl_selfE hP hpn
  have hD := wl_D hD (va_up C pn (fa G 192 nu))
  refine lX2_bound hx hb hml hr hts hown hK hA (Nat.le_refl _) (Nat.le_refl _) lpb lpn lpm hpb hpn hpm hn9  (fun H locs ls hP hD hS hl => ?_) 193 0 _ _ ls (by omega) (by omega) (by rw [flI_0]; exact hP) (by rw [flI_0]; exact hD) hS (lv_sub hl [0, 1] rfl)
  have hP := wl_fa (g := fun i => bdF (nu i)) hP (fun k hk => by simp [flI, show k < 192 from hk])
  have hD := wl_D hD (va_up C pn (fa G 192 (fun i => bdF (nu i))))
  exact W.vret hx hb hr (fun t ht hW => ⟨⟨_, rfl, rfl, iB_of ht hP⟩, hS.F ht⟩) hS.2.2 dX2_bound_32
