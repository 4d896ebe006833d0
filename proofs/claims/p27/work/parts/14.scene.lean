set_option maxRecDepth 20000 in
theorem ggX3_lightAt_X3_shade : GoodIn wsX3_lightAt wsX3_shade := goodIn_r _ [7, 8, 9, 10, 11] (by decide +kernel) (by decide +kernel)
set_option maxRecDepth 20000 in
theorem gX3_lightAt_X3_shade : GoodIn wsX3_lightAt (wsV RX3 24 RX3 yX3_shade wsX3_shade) := goodIn_app (goodIn_of _ (by decide +kernel)) ggX3_lightAt_X3_shade
/-! what an array holds matters below its length alone -/
theorem arrV_congr (cA : ClassId) {n : Nat} {f g : Nat → Value} (h : ∀ j, j < n → f j = g j) : arrV cA n f = arrV cA n g := by
  have e : (fun j : Fin n => f j.val) = (fun j : Fin n => g j.val) := by
    funext j
    exact h j.val j.isLt
  unfold arrV
  rw [e]
theorem wl_congr {D : va_G} {cl : List vw_C} {N : Nat} {ad : Nat → Nat} {C C' : Nat → va_E} {H : Heap} (hP : va_P D cl (wl N ad C) H) (h : ∀ j, j < N → va_at D cl (ad j, C j) H → va_at D cl (ad j, C' j) H) : va_P D cl (wl N ad C') H := by
  intro k q hq
  obtain ⟨h1, rfl⟩ := wl_at hq
  exact h k h1 (hP k (ad k, C k) (wl_get h1 rfl))
theorem wl_ia {D : va_G} {cl : List vw_C} {N : Nat} {ad : Nat → Nat} {C : Nat → va_E} {H : Heap} {G : iG} {j n : Nat} {f g : Nat → Int32} (hP : va_P D cl (wl N ad (va_up C j (ia G n f))) H) (h : ∀ k, k < n → f k = g k) : va_P D cl (wl N ad (va_up C j (ia G n g))) H := by
  refine wl_congr hP (fun i hi ha => ?_)
  by_cases e : i = j
  · subst e
    rw [va_us] at ha ⊢
    show H[ad i]? = some (vp_cell _ (n, .inl g))
    rw [vp_cell_i, ← arrV_congr _ (fun k hk => congrArg Value.int (h k hk)), ← vp_cell_i]
    exact ha
  · rw [va_un _ _ e] at ha ⊢
    exact ha
theorem wl_fa {D : va_G} {cl : List vw_C} {N : Nat} {ad : Nat → Nat} {C : Nat → va_E} {H : Heap} {G : iG} {j n : Nat} {f g : Nat → UInt32} (hP : va_P D cl (wl N ad (va_up C j (fa G n f))) H) (h : ∀ k, k < n → f k = g k) : va_P D cl (wl N ad (va_up C j (fa G n g))) H := by
  refine wl_congr hP (fun i hi ha => ?_)
  by_cases e : i = j
  · subst e
    rw [va_us] at ha ⊢
    show H[ad i]? = some (vp_cell _ (n, .inr (.inr (.inl g))))
    rw [vp_cell_f, ← arrV_congr _ (fun k hk => congrArg Value.float (h k hk)), ← vp_cell_f]
    exact ha
  · rw [va_un _ _ e] at ha ⊢
    exact ha
theorem flI_n (f g : Nat → Nat) (i : Nat) : upd (fun k => nI (flI f g i k)) i (nI (f i)) = fun k => nI (flI f g (i + 1) k) := by
  funext k
  by_cases h : k = i
  · subst h; simp [upd, flI]
  · have h2 : (k < i + 1) = (k < i) := by simp; omega
    simp [upd, flI, h, h2]
theorem flI_f (f g : Nat → UInt32) (i : Nat) : vf_upd (flI f g i) i (f i) = flI f g (i + 1) := by
  funext k
  by_cases h : k = i
  · subst h; simp [vf_upd, flI]
  · have h2 : (k < i + 1) = (k < i) := by simp; omega
    simp [vf_upd, flI, h, h2]
/-- a painted place -/
def pcN (sh : Nat → Nat) (pl co : Nat) : Nat → Nat := fun i => if i = 3 * pl + 2 then co / 256 / 256 % 256 else if i = 3 * pl + 1 then co / 256 % 256 else if i = 3 * pl then co % 256 else sh i
theorem pc_eq (sh : Nat → Nat) (pl co : Nat) : upd (upd (upd (fun i => nI (sh i)) (3 * pl + 0) (nI (co % 256))) (3 * pl + 1) (nI (co / 256 % 256))) (3 * pl + 2) (nI (co / 256 / 256 % 256)) = fun i => nI (pcN sh pl co i) := by
  funext i
  unfold pcN upd
  simp only [Nat.add_zero]
  split
  · rfl
  · split
    · rfl
    · split <;> rfl
/-- the light in a place -/
def liF (sh : Nat → Nat) (fac : Nat → UInt32) (pl k time : Nat) : UInt32 := FP.fdiv (FP.fmul (FP.fmul (FP.i2f (nI (sh (3 * pl + k)))) (fac k)) (FP.i2f (nI time))) 1098907648
/-- the draws, from d on -/
def drN (d : Nat) : Nat → Nat
  | 0 => d
  | n + 1 => (2 * drN d n + 5) % 61
theorem drN_lt {d : Nat} (h : d < 61) : ∀ n, drN d n < 61
  | 0 => h
  | n + 1 => Nat.mod_lt _ (by omega)
theorem rawI_n (h : Int32) (li : UInt32) (g : Int32) (d : Nat) : ∃ n, n ≤ 255 ∧ rawI h li g d = nI n := by
  unfold rawI
  split
  · exact ⟨0, by omega, rfl⟩
  · split
    · exact ⟨255, by omega, rfl⟩
    · generalize nI 16 + minI (FP.f2i li) (nI 255) * g + nI (d % 8) - nI 4 = z
      unfold maxI minI
      by_cases h2 : z < nI 255
      · rw [if_pos h2]
        by_cases h1 : nI 0 < z
        · rw [if_pos h1]
          have a1 := Int32.lt_iff_toInt_lt.mp h1
          have a2 := Int32.lt_iff_toInt_lt.mp h2
          rw [nI_toInt (by omega)] at a1 a2
          refine ⟨z.toInt.toNat, by omega, Int32.toInt.inj ?_⟩
          rw [nI_toInt (by omega)]
          omega
        · rw [if_neg h1]
          exact ⟨0, by omega, rfl⟩
      · rw [if_neg h2, if_pos (nI_lt (by omega) (by omega))]
        exact ⟨255, by omega, rfl⟩
/-- RAW of a place in a frame that is taken -/
def exN (hw sh : Nat → Nat) (fac : Nat → UInt32) (d time gain : Nat) (k : Nat) : Nat := (rawI (nI (hw k)) (liF sh fac k (colN (k % 8) (k / 8)) time) (nI gain) (drN d (k + 1))).toNatClampNeg
theorem exN_ok (hw sh : Nat → Nat) (fac : Nat → UInt32) (d time gain k : Nat) : exN hw sh fac d time gain k ≤ 255 ∧ rawI (nI (hw k)) (liF sh fac k (colN (k % 8) (k / 8)) time) (nI gain) (drN d (k + 1)) = nI (exN hw sh fac d time gain k) := by
  unfold exN
  obtain ⟨n, h1, h2⟩ := rawI_n (nI (hw k)) (liF sh fac k (colN (k % 8) (k / 8)) time) (nI gain) (drN d (k + 1))
  rw [h2, nI_clamp (by omega)]
  exact ⟨h1, rfl⟩
/-- what is mapped, as the array has it -/
def bI (mp : Nat → Bool) : Nat → Int32 := fun k => if mp k then nI 1 else nI 0
theorem bI_up (mp : Nat → Bool) (k : Nat) (b : Bool) : upd (bI mp) k (if b then nI 1 else nI 0) = bI (va_up mp k b) := by
  funext i
  by_cases h : i = k <;> simp [upd, bI, va_up, h]
theorem bI_nar (b : Bool) : narrow .boolean (.int (if b then nI 1 else nI 0)) = .int (if b then nI 1 else nI 0) := by cases b <;> decide
theorem bI_vp (b : Bool) : vp_nar .boolean (if b then nI 1 else nI 0) = (if b then nI 1 else nI 0) := by cases b <;> decide
def ctN (mp : Nat → Bool) : Nat → Nat
  | 0 => 0
  | n + 1 => ctN mp n + if mp n then 1 else 0
theorem ctN_le (mp : Nat → Bool) : ∀ n, ctN mp n ≤ n
  | 0 => Nat.le_refl _
  | n + 1 => by
    have := ctN_le mp n
    unfold ctN
    split <;> omega
abbrev rmX3_colourPlace : Room := { frames := 0, cells := 0, slots := 0, locals := 0 }
set_option maxRecDepth 20000 in
theorem iu_X3_colourPlace_3 : ∀ w ∈ u_ws RX3 TX3 3, w ∈ wsX3_colourPlace := by decide +kernel
set_option maxRecDepth 20000 in
theorem il_X3_colourPlace_9 : (Cond.fieldLink RX3 9 "BayerGate$Scene" "shades" "[I") ∈ wsX3_colourPlace := by decide +kernel
set_option maxHeartbeats 4000000 in
set_option maxRecDepth 100000 in
theorem kX3_colourPlace (l : Launch) (G : iG) (N : Nat) (ad : Nat → Nat) (C : Nat → va_E) {sb ss sf : Nat} {sh : Nat → Nat} {fac : Nat → UInt32} {gq : Nat} (lsb : sb < N) (lss : ss < N) (lsf : sf < N) (hsb : C sb = ob 3 [.ref (ad ss), .ref (ad sf), .int (nI gq)]) (hss : C ss = ia G 192 (fun i => nI (sh i))) (hsf : C sf = fa G 3 fac) (pl co : Nat) (hpl : pl < 64) (hco : co < 2 ^ 31) (sz : Nat) : Met l yX3_colourPlace wsX3_colourPlace rmX3_colourPlace (iPre G N ad C sz [.ref (ad sb), .int (nI pl), .int (nI co)]) (va_Qv (fun (u : Nat → va_E) => u = va_up C ss (ia G 192 (fun i => nI (pcN sh pl co i)))) (iB G N ad) (iA N ad sz)) 0 0 (iA N ad sz) := by
  refine Met.ofW (cc := cX3_colourPlace) (maxL := 5) (ret := none) (by decide) rfl ?_
  intro p e s m args below meth c s₁ B hml hv
  obtain ⟨rfl, hsz, hP, hK, hD0⟩ := hv
  have hx := B.exec
  have hb := B.bytes
  have hr := B.returns
  have hts := atoms_spec (ws := wsX3_colourPlace) B.pre
  have hown : s.vm.findClass RX3 = some m.cls := findClass_of_methodNamed B.named
  have hlocks := B.notSynchronized
  subst hsz
  have hD := wl_self hD0 s.heap.size
  have hA : ∀ q : Nat, s.heap.size ≤ q → iA N ad s.heap.size q := fun q h => Or.inr h
  have hS : va_S (iA N ad s.heap.size) s.heap s.heap [] := va_S.rf
  have hP : va_P G.1 vwB (wl N ad C) s.heap := hP
  have hl := lv_entry ([.ref (ad sb), .int (nI pl), .int (nI co)]) (n := 5) (Nat.le_of_ble_eq_true rfl)
  rw [lg_entry_eq]
  generalize (lg_sl ([.ref (ad sb), .int (nI pl), .int (nI co)]) ++ List.replicate (5 - (lg_sl ([.ref (ad sb), .int (nI pl), .int (nI co)])).length) Slot.unset).toArray = ls at hl ⊢
  have hl : lv_has ls 5 [(0, .ref (ad sb)), (1, .int (nI pl)), (2, .int (nI co))] := hl
  have nss : sb ≠ ss := fun h => by rw [h, hss] at hsb; cases hsb
  have nsf : sb ≠ sf := fun h => by rw [h, hsf] at hsb; cases hsb
  refine lv_iload_n hx hb dX3_colourPlace_0 rfl (lv_at hl 2 rfl) ?_
  refine lv_istore_n (lv' := [(3, .int (nI co)), (0, .ref (ad sb)), (1, .int (nI pl)), (2, .int (nI co))]) hx hb dX3_colourPlace_1 rfl hl (by decide) rfl (fun ls hl => ?_)
  refine lv_iconst (v := nI 0) hx hb dX3_colourPlace_2 (by decide) ?_
  refine lv_istore (lv' := [(4, .int (nI 0)), (3, .int (nI co)), (0, .ref (ad sb)), (1, .int (nI pl)), (2, .int (nI co))]) hx hb dX3_colourPlace_3 hl (by decide) rfl (fun ls hl => ?_)
  refine lv_iload hx hb dX3_colourPlace_5 (lv_at hl 0 rfl) ?_
  refine lv_iconst (v := nI 3) hx hb dX3_colourPlace_7 (by decide) ?_
  refine lv_icmp_ge (tgt := 39) hx hb dX3_colourPlace_8 (by decide) (fun c9 => absurd c9 (by decide)) (fun _ => ?_)
  refine lv_aload_n hx hb dX3_colourPlace_11 rfl (lv_at hl 2 rfl) ?_
  refine iw_get hx hb hts iu_X3_colourPlace_3 hown hK hP lsb (hsb) rfl 0 (by decide) (hts _ il_X3_colourPlace_9) (fun _ h9 => h9) rfl dX3_colourPlace_12 ?_
  refine lv_iconst (v := nI 3) hx hb dX3_colourPlace_15 (by decide) ?_
  refine lv_iload_n hx hb dX3_colourPlace_16 rfl (lv_at hl 3 rfl) ?_
  refine lv_imul hx hb dX3_colourPlace_17 ?_
  refine lv_asI (y := nI (3 * pl)) (pk_mul _ _) ?_
  refine lv_iload hx hb dX3_colourPlace_18 (lv_at hl 0 rfl) ?_
  refine lv_iadd hx hb dX3_colourPlace_20 ?_
  refine lv_asI (y := nI ((3 * pl) + 0)) (nI_add _ _) ?_
  refine lv_iload_n hx hb dX3_colourPlace_21 rfl (lv_at hl 1 rfl) ?_
  refine lv_sipush (v := nI 256) hx hb dX3_colourPlace_22 (by decide) ?_
  refine lv_irem hx hb dX3_colourPlace_25 (by decide) ?_
  refine lv_asI (y := nI (co % 256)) (pk_rem (by omega) (by omega) (by omega)) ?_
  refine iw_iast hx hb hK hP hD hS lss (hss) (vp_in_nI (show (3 * pl) + 0 < 192 by omega) (by omega)) (nI_clamp (by omega)) dX3_colourPlace_26 (fun H locs hP hD hS => ?_)
  refine lv_iload_n hx hb dX3_colourPlace_27 rfl (lv_at hl 1 rfl) ?_
  refine lv_sipush (v := nI 256) hx hb dX3_colourPlace_28 (by decide) ?_
  refine lv_idiv hx hb dX3_colourPlace_31 (by decide) ?_
  refine lv_asI (y := nI (co / 256)) (pk_div (by omega) (by omega) (by omega)) ?_
  refine lv_istore_n (lv' := [(3, .int (nI (co / 256))), (4, .int (nI 0)), (0, .ref (ad sb)), (1, .int (nI pl)), (2, .int (nI co))]) hx hb dX3_colourPlace_32 rfl hl (by decide) rfl (fun ls hl => ?_)
  refine lv_iinc (v := nI 1) (lv' := [(4, .int (nI 1)), (3, .int (nI (co / 256))), (0, .ref (ad sb)), (1, .int (nI pl)), (2, .int (nI co))]) hx hb dX3_colourPlace_33 hl (k := 1) rfl (iinc_nat _ 1) (by decide) rfl (fun ls hl => ?_)
  refine lv_goto (tgt := 5) hx hb dX3_colourPlace_36 (by decide) ?_
  refine lv_iload hx hb dX3_colourPlace_5 (lv_at hl 0 rfl) ?_
  refine lv_iconst (v := nI 3) hx hb dX3_colourPlace_7 (by decide) ?_
  refine lv_icmp_ge (tgt := 39) hx hb dX3_colourPlace_8 (by decide) (fun c9 => absurd c9 (by decide)) (fun _ => ?_)
  refine lv_aload_n hx hb dX3_colourPlace_11 rfl (lv_at hl 2 rfl) ?_
  refine iw_get hx hb hts iu_X3_colourPlace_3 hown hK hP lsb ((va_un _ _ nss).trans (hsb)) rfl 0 (by decide) (hts _ il_X3_colourPlace_9) (fun _ h9 => h9) rfl dX3_colourPlace_12 ?_
  refine lv_iconst (v := nI 3) hx hb dX3_colourPlace_15 (by decide) ?_
  refine lv_iload_n hx hb dX3_colourPlace_16 rfl (lv_at hl 3 rfl) ?_
  refine lv_imul hx hb dX3_colourPlace_17 ?_
  refine lv_asI (y := nI (3 * pl)) (pk_mul _ _) ?_
  refine lv_iload hx hb dX3_colourPlace_18 (lv_at hl 0 rfl) ?_
  refine lv_iadd hx hb dX3_colourPlace_20 ?_
  refine lv_asI (y := nI ((3 * pl) + 1)) (nI_add _ _) ?_
  refine lv_iload_n hx hb dX3_colourPlace_21 rfl (lv_at hl 1 rfl) ?_
  refine lv_sipush (v := nI 256) hx hb dX3_colourPlace_22 (by decide) ?_
  refine lv_irem hx hb dX3_colourPlace_25 (by decide) ?_
  refine lv_asI (y := nI ((co / 256) % 256)) (pk_rem (by omega) (by omega) (by omega)) ?_
  refine iw_iast hx hb hK hP hD hS lss (va_us _ _ _) (vp_in_nI (show (3 * pl) + 1 < 192 by omega) (by omega)) (nI_clamp (by omega)) dX3_colourPlace_26 (fun H locs hP hD hS => ?_)
  rw [va_uu _ _ _ _] at hP hD
  refine lv_iload_n hx hb dX3_colourPlace_27 rfl (lv_at hl 1 rfl) ?_
  refine lv_sipush (v := nI 256) hx hb dX3_colourPlace_28 (by decide) ?_
  refine lv_idiv hx hb dX3_colourPlace_31 (by decide) ?_
  refine lv_asI (y := nI ((co / 256) / 256)) (pk_div (by omega) (by omega) (by omega)) ?_
  refine lv_istore_n (lv' := [(3, .int (nI ((co / 256) / 256))), (4, .int (nI 1)), (0, .ref (ad sb)), (1, .int (nI pl)), (2, .int (nI co))]) hx hb dX3_colourPlace_32 rfl hl (by decide) rfl (fun ls hl => ?_)
  refine lv_iinc (v := nI 2) (lv' := [(4, .int (nI 2)), (3, .int (nI ((co / 256) / 256))), (0, .ref (ad sb)), (1, .int (nI pl)), (2, .int (nI co))]) hx hb dX3_colourPlace_33 hl (k := 1) rfl (iinc_nat _ 1) (by decide) rfl (fun ls hl => ?_)
  refine lv_goto (tgt := 5) hx hb dX3_colourPlace_36 (by decide) ?_
  refine lv_iload hx hb dX3_colourPlace_5 (lv_at hl 0 rfl) ?_
  refine lv_iconst (v := nI 3) hx hb dX3_colourPlace_7 (by decide) ?_
  refine lv_icmp_ge (tgt := 39) hx hb dX3_colourPlace_8 (by decide) (fun c9 => absurd c9 (by decide)) (fun _ => ?_)
  refine lv_aload_n hx hb dX3_colourPlace_11 rfl (lv_at hl 2 rfl) ?_
  refine iw_get hx hb hts iu_X3_colourPlace_3 hown hK hP lsb ((va_un _ _ nss).trans (hsb)) rfl 0 (by decide) (hts _ il_X3_colourPlace_9) (fun _ h9 => h9) rfl dX3_colourPlace_12 ?_
  refine lv_iconst (v := nI 3) hx hb dX3_colourPlace_15 (by decide) ?_
  refine lv_iload_n hx hb dX3_colourPlace_16 rfl (lv_at hl 3 rfl) ?_
  refine lv_imul hx hb dX3_colourPlace_17 ?_
  refine lv_asI (y := nI (3 * pl)) (pk_mul _ _) ?_
  refine lv_iload hx hb dX3_colourPlace_18 (lv_at hl 0 rfl) ?_
  refine lv_iadd hx hb dX3_colourPlace_20 ?_
  refine lv_asI (y := nI ((3 * pl) + 2)) (nI_add _ _) ?_
  refine lv_iload_n hx hb dX3_colourPlace_21 rfl (lv_at hl 1 rfl) ?_
  refine lv_sipush (v := nI 256) hx hb dX3_colourPlace_22 (by decide) ?_
  refine lv_irem hx hb dX3_colourPlace_25 (by decide) ?_
  refine lv_asI (y := nI (((co / 256) / 256) % 256)) (pk_rem (by omega) (by omega) (by omega)) ?_
  refine iw_iast hx hb hK hP hD hS lss (va_us _ _ _) (vp_in_nI (show (3 * pl) + 2 < 192 by omega) (by omega)) (nI_clamp (by omega)) dX3_colourPlace_26 (fun H locs hP hD hS => ?_)
  rw [va_uu _ _ _ _] at hP hD
  refine lv_iload_n hx hb dX3_colourPlace_27 rfl (lv_at hl 1 rfl) ?_
  refine lv_sipush (v := nI 256) hx hb dX3_colourPlace_28 (by decide) ?_
  refine lv_idiv hx hb dX3_colourPlace_31 (by decide) ?_
  refine lv_asI (y := nI (((co / 256) / 256) / 256)) (pk_div (by omega) (by omega) (by omega)) ?_
  refine lv_istore_n (lv' := [(3, .int (nI (((co / 256) / 256) / 256))), (4, .int (nI 2)), (0, .ref (ad sb)), (1, .int (nI pl)), (2, .int (nI co))]) hx hb dX3_colourPlace_32 rfl hl (by decide) rfl (fun ls hl => ?_)
  refine lv_iinc (v := nI 3) (lv' := [(4, .int (nI 3)), (3, .int (nI (((co / 256) / 256) / 256))), (0, .ref (ad sb)), (1, .int (nI pl)), (2, .int (nI co))]) hx hb dX3_colourPlace_33 hl (k := 1) rfl (iinc_nat _ 1) (by decide) rfl (fun ls hl => ?_)
  refine lv_goto (tgt := 5) hx hb dX3_colourPlace_36 (by decide) ?_
  refine lv_iload hx hb dX3_colourPlace_5 (lv_at hl 0 rfl) ?_
  refine lv_iconst (v := nI 3) hx hb dX3_colourPlace_7 (by decide) ?_
  refine lv_icmp_ge (tgt := 39) hx hb dX3_colourPlace_8 (by decide) (fun _ => ?_) (fun c9 => absurd (by decide) c9)
  exact W.vret hx hb hr (fun t ht hW => ⟨⟨_, rfl, by rw [← pc_eq], iB_of ht hP⟩, hS.F ht⟩) hS.2.2 dX3_colourPlace_39
abbrev rmX3_shade : Room := { frames := 0, cells := 0, slots := 0, locals := 0 }
set_option maxRecDepth 20000 in
theorem iu_X3_shade_3 : ∀ w ∈ u_ws RX3 TX3 3, w ∈ wsX3_shade := by decide +kernel
set_option maxRecDepth 20000 in
theorem il_X3_shade_9 : (Cond.fieldLink RX3 9 "BayerGate$Scene" "shades" "[I") ∈ wsX3_shade := by decide +kernel
set_option maxHeartbeats 4000000 in
set_option maxRecDepth 100000 in
theorem kX3_shade (l : Launch) (G : iG) (N : Nat) (ad : Nat → Nat) (C : Nat → va_E) {sb ss sf : Nat} {sh : Nat → Nat} {fac : Nat → UInt32} {gq : Nat} (lsb : sb < N) (lss : ss < N) (lsf : sf < N) (hsb : C sb = ob 3 [.ref (ad ss), .ref (ad sf), .int (nI gq)]) (hss : C ss = ia G 192 (fun i => nI (sh i))) (hsf : C sf = fa G 3 fac) (pl k : Nat) (hpl : pl < 64) (hk : k < 3) (sz : Nat) : Met l yX3_shade wsX3_shade rmX3_shade (iPre G N ad C sz [.ref (ad sb), .int (nI pl), .int (nI k)]) (va_Qi (fun (r : Int32) (u : Nat → va_E) => r = nI (sh (3 * pl + k)) ∧ u = C) (iB G N ad) (iA N ad sz)) 0 0 (iA N ad sz) := by
  refine Met.ofW (cc := cX3_shade) (maxL := 3) (ret := (some .int)) (by decide) rfl ?_
  intro p e s m args below meth c s₁ B hml hv
  obtain ⟨rfl, hsz, hP, hK, hD0⟩ := hv
  have hx := B.exec
  have hb := B.bytes
  have hr := B.returns
  have hts := atoms_spec (ws := wsX3_shade) B.pre
  have hown : s.vm.findClass RX3 = some m.cls := findClass_of_methodNamed B.named
  have hlocks := B.notSynchronized
  subst hsz
  have hD := wl_self hD0 s.heap.size
  have hA : ∀ q : Nat, s.heap.size ≤ q → iA N ad s.heap.size q := fun q h => Or.inr h
  have hS : va_S (iA N ad s.heap.size) s.heap s.heap [] := va_S.rf
  have hP : va_P G.1 vwB (wl N ad C) s.heap := hP
  have hl := lv_entry ([.ref (ad sb), .int (nI pl), .int (nI k)]) (n := 3) (Nat.le_of_ble_eq_true rfl)
  rw [lg_entry_eq]
  generalize (lg_sl ([.ref (ad sb), .int (nI pl), .int (nI k)]) ++ List.replicate (3 - (lg_sl ([.ref (ad sb), .int (nI pl), .int (nI k)])).length) Slot.unset).toArray = ls at hl ⊢
  have hl : lv_has ls 3 [(0, .ref (ad sb)), (1, .int (nI pl)), (2, .int (nI k))] := hl
  refine lv_aload_n hx hb dX3_shade_0 rfl (lv_at hl 0 rfl) ?_
  refine iw_get hx hb hts iu_X3_shade_3 hown hK hP lsb (hsb) rfl 0 (by decide) (hts _ il_X3_shade_9) (fun _ h9 => h9) rfl dX3_shade_1 ?_
  refine lv_iconst (v := nI 3) hx hb dX3_shade_4 (by decide) ?_
  refine lv_iload_n hx hb dX3_shade_5 rfl (lv_at hl 1 rfl) ?_
  refine lv_imul hx hb dX3_shade_6 ?_
  refine lv_asI (y := nI (3 * pl)) (pk_mul _ _) ?_
  refine lv_iload_n hx hb dX3_shade_7 rfl (lv_at hl 2 rfl) ?_
  refine lv_iadd hx hb dX3_shade_8 ?_
  refine lv_asI (y := nI ((3 * pl) + k)) (nI_add _ _) ?_
  refine iw_iald (v := nI (sh ((3 * pl) + k))) hx hb hK hP lss (hss) (vp_in_nI (show (3 * pl) + k < 192 by omega) (by omega)) (congrArg (fun i => nI (sh i)) (nI_clamp (by omega))) dX3_shade_9 ?_
  exact W.iret (v := (nI (sh ((3 * pl) + k)))) hx hb hr (fun t ht hW => ⟨⟨_, _, rfl, ⟨rfl, rfl⟩, iB_of ht hP⟩, hS.F ht⟩) hS.2.2 dX3_shade_10
abbrev rmX3_light : Room := { frames := 0, cells := 0, slots := 0, locals := 0 }
set_option maxRecDepth 20000 in
theorem iu_X3_light_3 : ∀ w ∈ u_ws RX3 TX3 3, w ∈ wsX3_light := by decide +kernel
set_option maxRecDepth 20000 in
theorem il_X3_light_15 : (Cond.fieldLink RX3 15 "BayerGate$Scene" "factors" "[F") ∈ wsX3_light := by decide +kernel
set_option maxRecDepth 20000 in
theorem il_X3_light_23 : (Cond.constantFloat RX3 23 (1082130432)) ∈ wsX3_light := by decide +kernel
set_option maxRecDepth 20000 in
theorem il_X3_light_19 : (Cond.fieldLink RX3 19 "BayerGate$Scene" "quartersOfGreen" "I") ∈ wsX3_light := by decide +kernel
set_option maxHeartbeats 4000000 in
set_option maxRecDepth 100000 in
theorem kX3_light (l : Launch) (G : iG) (N : Nat) (ad : Nat → Nat) (C : Nat → va_E) {sb ss sf : Nat} {sh : Nat → Nat} {fac : Nat → UInt32} {gq : Nat} (lsb : sb < N) (lss : ss < N) (lsf : sf < N) (hsb : C sb = ob 3 [.ref (ad ss), .ref (ad sf), .int (nI gq)]) (hss : C ss = ia G 192 (fun i => nI (sh i))) (hsf : C sf = fa G 3 fac) (r1 g1 b1 : Nat) (hr1 : 0 < r1 ∧ r1 < 17) (hg1 : 0 < g1 ∧ g1 < 17) (hb1 : 0 < b1 ∧ b1 < 17) (sz : Nat) : Met l yX3_light wsX3_light rmX3_light (iPre G N ad C sz [.ref (ad sb), .int (nI r1), .int (nI g1), .int (nI b1)]) (va_Qv (fun (u : Nat → va_E) => u = va_up (va_up C sf (fa G 3 (vf_upd (vf_upd (vf_upd fac 0 (quF r1)) 1 (quF g1)) 2 (quF b1)))) sb (ob 3 [.ref (ad ss), .ref (ad sf), .int (nI g1)])) (iB G N ad) (iA N ad sz)) 0 0 (iA N ad sz) := by
  refine Met.ofW (cc := cX3_light) (maxL := 4) (ret := none) (by decide) rfl ?_
  intro p e s m args below meth c s₁ B hml hv
  obtain ⟨rfl, hsz, hP, hK, hD0⟩ := hv
  have hx := B.exec
  have hb := B.bytes
  have hr := B.returns
  have hts := atoms_spec (ws := wsX3_light) B.pre
  have hown : s.vm.findClass RX3 = some m.cls := findClass_of_methodNamed B.named
  have hlocks := B.notSynchronized
  subst hsz
  have hD := wl_self hD0 s.heap.size
  have hA : ∀ q : Nat, s.heap.size ≤ q → iA N ad s.heap.size q := fun q h => Or.inr h
  have hS : va_S (iA N ad s.heap.size) s.heap s.heap [] := va_S.rf
  have hP : va_P G.1 vwB (wl N ad C) s.heap := hP
  have hl := lv_entry ([.ref (ad sb), .int (nI r1), .int (nI g1), .int (nI b1)]) (n := 4) (Nat.le_of_ble_eq_true rfl)
  rw [lg_entry_eq]
  generalize (lg_sl ([.ref (ad sb), .int (nI r1), .int (nI g1), .int (nI b1)]) ++ List.replicate (4 - (lg_sl ([.ref (ad sb), .int (nI r1), .int (nI g1), .int (nI b1)])).length) Slot.unset).toArray = ls at hl ⊢
  have hl : lv_has ls 4 [(0, .ref (ad sb)), (1, .int (nI r1)), (2, .int (nI g1)), (3, .int (nI b1))] := hl
  have nss : sb ≠ ss := fun h => by rw [h, hss] at hsb; cases hsb
  have nsf : sb ≠ sf := fun h => by rw [h, hsf] at hsb; cases hsb
  refine lv_aload_n hx hb dX3_light_0 rfl (lv_at hl 0 rfl) ?_
  refine iw_get hx hb hts iu_X3_light_3 hown hK hP lsb (hsb) rfl 1 (by decide) (hts _ il_X3_light_15) (fun _ h9 => h9) rfl dX3_light_1 ?_
  refine lv_iconst (v := nI 0) hx hb dX3_light_4 (by decide) ?_
  refine lv_iload_n hx hb dX3_light_5 rfl (lv_at hl 1 rfl) ?_
  refine lv_i2f hx hb dX3_light_6 ?_
  refine lv_ldcf hx hb hown (hts _ il_X3_light_23) dX3_light_7 ?_
  refine lv_fdiv hx hb dX3_light_9 (fin32_n (finz32_fin (quF_ok r1 hr1.2 hr1.1))) ?_
  refine iw_fast hx hb hK hP hD hS lsf (hsf) (vp_in_nI (show 0 < 3 by omega) (by omega)) (nI_clamp (by omega)) dX3_light_10 (fun H locs hP hD hS => ?_)
  refine lv_aload_n hx hb dX3_light_11 rfl (lv_at hl 0 rfl) ?_
  refine iw_get hx hb hts iu_X3_light_3 hown hK hP lsb ((va_un _ _ nsf).trans (hsb)) rfl 1 (by decide) (hts _ il_X3_light_15) (fun _ h9 => h9) rfl dX3_light_12 ?_
  refine lv_iconst (v := nI 1) hx hb dX3_light_15 (by decide) ?_
  refine lv_iload_n hx hb dX3_light_16 rfl (lv_at hl 2 rfl) ?_
  refine lv_i2f hx hb dX3_light_17 ?_
  refine lv_ldcf hx hb hown (hts _ il_X3_light_23) dX3_light_18 ?_
  refine lv_fdiv hx hb dX3_light_20 (fin32_n (finz32_fin (quF_ok g1 hg1.2 hg1.1))) ?_
  refine iw_fast hx hb hK hP hD hS lsf (va_us _ _ _) (vp_in_nI (show 1 < 3 by omega) (by omega)) (nI_clamp (by omega)) dX3_light_21 (fun H locs hP hD hS => ?_)
  rw [va_uu _ _ _ _] at hP hD
  refine lv_aload_n hx hb dX3_light_22 rfl (lv_at hl 0 rfl) ?_
  refine iw_get hx hb hts iu_X3_light_3 hown hK hP lsb ((va_un _ _ nsf).trans (hsb)) rfl 1 (by decide) (hts _ il_X3_light_15) (fun _ h9 => h9) rfl dX3_light_23 ?_
  refine lv_iconst (v := nI 2) hx hb dX3_light_26 (by decide) ?_
  refine lv_iload_n hx hb dX3_light_27 rfl (lv_at hl 3 rfl) ?_
  refine lv_i2f hx hb dX3_light_28 ?_
  refine lv_ldcf hx hb hown (hts _ il_X3_light_23) dX3_light_29 ?_
  refine lv_fdiv hx hb dX3_light_31 (fin32_n (finz32_fin (quF_ok b1 hb1.2 hb1.1))) ?_
  refine iw_fast hx hb hK hP hD hS lsf (va_us _ _ _) (vp_in_nI (show 2 < 3 by omega) (by omega)) (nI_clamp (by omega)) dX3_light_32 (fun H locs hP hD hS => ?_)
  rw [va_uu _ _ _ _] at hP hD
  refine lv_aload_n hx hb dX3_light_33 rfl (lv_at hl 0 rfl) ?_
  refine lv_iload_n hx hb dX3_light_34 rfl (lv_at hl 2 rfl) ?_
  refine iw_put (ty := .int) hx hb hts iu_X3_light_3 tyX3 tyX3_ok nmX3 hown hK hP hD hS lsb ((va_un _ _ nsf).trans (hsb)) rfl 2 (by decide) (hts _ il_X3_light_19) (fun _ h9 => h9) rfl (by decide +kernel) rfl rfl (Nat.le_of_ble_eq_true rfl) rfl dX3_light_35 (fun H locs hP hD hS => ?_)
  exact W.vret hx hb hr (fun t ht hW => ⟨⟨_, rfl, rfl, iB_of ht hP⟩, hS.F ht⟩) hS.2.2 dX3_light_38
abbrev rmX3_greenQuarters : Room := { frames := 0, cells := 0, slots := 0, locals := 0 }
set_option maxRecDepth 20000 in
theorem iu_X3_greenQuarters_3 : ∀ w ∈ u_ws RX3 TX3 3, w ∈ wsX3_greenQuarters := by decide +kernel
set_option maxRecDepth 20000 in
theorem il_X3_greenQuarters_19 : (Cond.fieldLink RX3 19 "BayerGate$Scene" "quartersOfGreen" "I") ∈ wsX3_greenQuarters := by decide +kernel
set_option maxHeartbeats 4000000 in
set_option maxRecDepth 100000 in
theorem kX3_greenQuarters (l : Launch) (G : iG) (N : Nat) (ad : Nat → Nat) (C : Nat → va_E) {sb ss sf : Nat} {sh : Nat → Nat} {fac : Nat → UInt32} {gq : Nat} (lsb : sb < N) (lss : ss < N) (lsf : sf < N) (hsb : C sb = ob 3 [.ref (ad ss), .ref (ad sf), .int (nI gq)]) (hss : C ss = ia G 192 (fun i => nI (sh i))) (hsf : C sf = fa G 3 fac) (sz : Nat) : Met l yX3_greenQuarters wsX3_greenQuarters rmX3_greenQuarters (iPre G N ad C sz [.ref (ad sb)]) (va_Qi (fun (r : Int32) (u : Nat → va_E) => r = nI gq ∧ u = C) (iB G N ad) (iA N ad sz)) 0 0 (iA N ad sz) := by
  refine Met.ofW (cc := cX3_greenQuarters) (maxL := 1) (ret := (some .int)) (by decide) rfl ?_
  intro p e s m args below meth c s₁ B hml hv
  obtain ⟨rfl, hsz, hP, hK, hD0⟩ := hv
  have hx := B.exec
  have hb := B.bytes
  have hr := B.returns
  have hts := atoms_spec (ws := wsX3_greenQuarters) B.pre
  have hown : s.vm.findClass RX3 = some m.cls := findClass_of_methodNamed B.named
  have hlocks := B.notSynchronized
  subst hsz
  have hD := wl_self hD0 s.heap.size
  have hA : ∀ q : Nat, s.heap.size ≤ q → iA N ad s.heap.size q := fun q h => Or.inr h
  have hS : va_S (iA N ad s.heap.size) s.heap s.heap [] := va_S.rf
  have hP : va_P G.1 vwB (wl N ad C) s.heap := hP
  have hl := lv_entry ([.ref (ad sb)]) (n := 1) (Nat.le_of_ble_eq_true rfl)
  rw [lg_entry_eq]
  generalize (lg_sl ([.ref (ad sb)]) ++ List.replicate (1 - (lg_sl ([.ref (ad sb)])).length) Slot.unset).toArray = ls at hl ⊢
  have hl : lv_has ls 1 [(0, .ref (ad sb))] := hl
  refine lv_aload_n hx hb dX3_greenQuarters_0 rfl (lv_at hl 0 rfl) ?_
  refine iw_get hx hb hts iu_X3_greenQuarters_3 hown hK hP lsb (hsb) rfl 2 (by decide) (hts _ il_X3_greenQuarters_19) (fun _ h9 => h9) rfl dX3_greenQuarters_1 ?_
  exact W.iret (v := (nI gq)) hx hb hr (fun t ht hW => ⟨⟨_, _, rfl, ⟨rfl, rfl⟩, iB_of ht hP⟩, hS.F ht⟩) hS.2.2 dX3_greenQuarters_4
abbrev rmX3_lightAt : Room := { frames := 1, cells := 0, slots := 0, locals := 22 }
set_option maxRecDepth 20000 in
theorem iu_X3_lightAt_3 : ∀ w ∈ u_ws RX3 TX3 3, w ∈ wsX3_lightAt := by decide +kernel
set_option maxRecDepth 20000 in
theorem il_X3_lightAt_15 : (Cond.fieldLink RX3 15 "BayerGate$Scene" "factors" "[F") ∈ wsX3_lightAt := by decide +kernel
set_option maxRecDepth 20000 in
theorem il_X3_lightAt_28 : (Cond.constantFloat RX3 28 (1098907648)) ∈ wsX3_lightAt := by decide +kernel
set_option maxHeartbeats 4000000 in
set_option maxRecDepth 100000 in
theorem kX3_lightAt (l : Launch) (G : iG) (N : Nat) (ad : Nat → Nat) (C : Nat → va_E) {sb ss sf : Nat} {sh : Nat → Nat} {fac : Nat → UInt32} {gq : Nat} (lsb : sb < N) (lss : ss < N) (lsf : sf < N) (hsb : C sb = ob 3 [.ref (ad ss), .ref (ad sf), .int (nI gq)]) (hss : C ss = ia G 192 (fun i => nI (sh i))) (hsf : C sf = fa G 3 fac) (pl k time : Nat) (hpl : pl < 64) (hk : k < 3) (ht0 : 0 < time) (ht1 : time < 65) (hfac : fin32 (fac k)) (sz : Nat) : Met l yX3_lightAt wsX3_lightAt rmX3_lightAt (iPre G N ad C sz [.ref (ad sb), .int (nI pl), .int (nI k), .int (nI time)]) (va_Qf (fun (r : UInt32) (u : Nat → va_E) => r = liF sh fac pl k time ∧ u = C) (iB G N ad) (iA N ad sz)) 0 0 (iA N ad sz) := by
  refine Met.ofW (cc := cX3_lightAt) (maxL := 4) (ret := (some .float)) (by decide) rfl ?_
  intro p e s m args below meth c s₁ B hml hv
  obtain ⟨rfl, hsz, hP, hK, hD0⟩ := hv
  have hx := B.exec
  have hb := B.bytes
  have hr := B.returns
  have hts := atoms_spec (ws := wsX3_lightAt) B.pre
  have hown : s.vm.findClass RX3 = some m.cls := findClass_of_methodNamed B.named
  have hlocks := B.notSynchronized
  subst hsz
  have hD := wl_self hD0 s.heap.size
  have hA : ∀ q : Nat, s.heap.size ≤ q → iA N ad s.heap.size q := fun q h => Or.inr h
  have hS : va_S (iA N ad s.heap.size) s.heap s.heap [] := va_S.rf
  have hP : va_P G.1 vwB (wl N ad C) s.heap := hP
  have hl := lv_entry ([.ref (ad sb), .int (nI pl), .int (nI k), .int (nI time)]) (n := 4) (Nat.le_of_ble_eq_true rfl)
  rw [lg_entry_eq]
  generalize (lg_sl ([.ref (ad sb), .int (nI pl), .int (nI k), .int (nI time)]) ++ List.replicate (4 - (lg_sl ([.ref (ad sb), .int (nI pl), .int (nI k), .int (nI time)])).length) Slot.unset).toArray = ls at hl ⊢
  have hl : lv_has ls 4 [(0, .ref (ad sb)), (1, .int (nI pl)), (2, .int (nI k)), (3, .int (nI time))] := hl
  have nss : sb ≠ ss := fun h => by rw [h, hss] at hsb; cases hsb
  have nsf : sb ≠ sf := fun h => by rw [h, hsf] at hsb; cases hsb
  refine lv_aload_n hx hb dX3_lightAt_0 rfl (lv_at hl 0 rfl) ?_
  refine lv_iload_n hx hb dX3_lightAt_1 rfl (lv_at hl 1 rfl) ?_
  refine lv_iload_n hx hb dX3_lightAt_2 rfl (lv_at hl 2 rfl) ?_
  refine iw_i (va_runV (As := [.int (nI pl), .int (nI k)]) (rest := []) ⟨hx, hb, hml, hown, hts⟩ (kX3_shade l G N ad C lsb lss lsf hsb hss hsf pl k hpl hk _) (cwV 2 hts gX3_lightAt_X3_shade rfl rfl rfl (by decide +kernel) ⟨Nat.le_of_ble_eq_true rfl, Nat.le_of_ble_eq_true rfl⟩) (iPV hK hP hD lsb (hsb) rfl [.int (nI pl), .int (nI k)]) rfl rfl hl.1 rfl (lv_room (Nat.le_of_ble_eq_true rfl)) dX3_lightAt_3 ⟨Nat.le_of_ble_eq_true rfl, Nat.le_of_ble_eq_true rfl⟩) hD hS hA (fun r8 u8 H locs hw8 hP hD hS => ?_)
  obtain ⟨hr8, hu8⟩ := hw8
  refine lv_asI hr8 ?_
  rw [hu8] at hP hD
  refine lv_i2f hx hb dX3_lightAt_6 ?_
  refine lv_aload_n hx hb dX3_lightAt_7 rfl (lv_at hl 0 rfl) ?_
  refine iw_get hx hb hts iu_X3_lightAt_3 hown hK hP lsb (hsb) rfl 1 (by decide) (hts _ il_X3_lightAt_15) (fun _ h9 => h9) rfl dX3_lightAt_8 ?_
  refine lv_iload_n hx hb dX3_lightAt_11 rfl (lv_at hl 2 rfl) ?_
  refine iw_fald (v := fac k) hx hb hK hP lsf (hsf) (vp_in_nI (show k < 3 by omega) (by omega)) (congrArg fac (nI_clamp (by omega))) dX3_lightAt_12 ?_
  refine lv_fmul hx hb dX3_lightAt_13 (fmul_ff (i2f_fin32 _) hfac) ?_
  refine lv_iload_n hx hb dX3_lightAt_14 rfl (lv_at hl 3 rfl) ?_
  refine lv_i2f hx hb dX3_lightAt_15 ?_
  refine lv_fmul hx hb dX3_lightAt_16 (fmul_nz (fmul_ff (i2f_fin32 _) hfac) (i2f_nz ht0 (by omega))) ?_
  refine lv_ldcf hx hb hown (hts _ il_X3_lightAt_28) dX3_lightAt_17 ?_
  refine lv_fdiv hx hb dX3_lightAt_19 (fdiv_nz (fmul_nz (fmul_ff (i2f_fin32 _) hfac) (i2f_nz ht0 (by omega))) f16_ok) ?_
  exact W.fret (v := (FP.fdiv (FP.fmul (FP.fmul (FP.i2f (nI (sh (3 * pl + k)))) (fac k)) (FP.i2f (nI time))) (1098907648))) hx hb hr (fun t ht hW => ⟨⟨_, _, rfl, ⟨rfl, rfl⟩, iB_of ht hP⟩, hS.F ht⟩) hS.2.2 dX3_lightAt_20
