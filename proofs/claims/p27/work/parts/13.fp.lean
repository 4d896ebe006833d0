/-! floats: what is no number is never made here -/
theorem n32_val (x : UInt32) : vf_n32 x ↔ FP.Core.val32 x ≠ .nan := by
  have e : vf_n32 x ↔ x.toNat % 2 ^ 31 ≤ 2139095040 := by
    unfold vf_n32
    rw [UInt32.le_iff_toNat_le, UInt32.toNat_and]
    have h1 : (0x7fffffff : UInt32).toNat = 2 ^ 31 - 1 := by decide
    have h2 : (0x7f800000 : UInt32).toNat = 2139095040 := by decide
    rw [h1, h2, Nat.and_two_pow_sub_one_eq_mod]
  rw [e, FP.Core.ne_nan32]
theorem n64_val (x : UInt64) : vf_n64 x ↔ FP.Core.val64 x ≠ .nan := by
  have e : vf_n64 x ↔ x.toNat % 2 ^ 63 ≤ 9218868437227405312 := by
    unfold vf_n64
    rw [UInt64.le_iff_toNat_le, UInt64.toNat_and]
    have h1 : (0x7fffffffffffffff : UInt64).toNat = 2 ^ 63 - 1 := by decide
    have h2 : (0x7ff0000000000000 : UInt64).toNat = 9218868437227405312 := by decide
    rw [h1, h2, Nat.and_two_pow_sub_one_eq_mod]
  rw [e, FP.Core.ne_nan]
/-- finite; finite and not zero -/
def fin32 (x : UInt32) : Prop := ∃ s c q, FP.Core.val32 x = .fin s c q
def finz32 (x : UInt32) : Prop := ∃ s c q, FP.Core.val32 x = .fin s c q ∧ c ≠ 0
def fin64 (x : UInt64) : Prop := ∃ s c q, FP.Core.val64 x = .fin s c q
def finz64 (x : UInt64) : Prop := ∃ s c q, FP.Core.val64 x = .fin s c q ∧ c ≠ 0
theorem fin32_n {x : UInt32} (h : fin32 x) : vf_n32 x := by
  obtain ⟨s, c, q, h⟩ := h
  rw [n32_val, h]
  exact fun e => by cases e
theorem fin64_n {x : UInt64} (h : fin64 x) : vf_n64 x := by
  obtain ⟨s, c, q, h⟩ := h
  rw [n64_val, h]
  exact fun e => by cases e
theorem finz32_fin {x : UInt32} (h : finz32 x) : fin32 x := by
  obtain ⟨s, c, q, h, -⟩ := h
  exact ⟨s, c, q, h⟩
theorem i2f_fin32 (v : Int32) : fin32 (FP.i2f v) := FP.Core.i2f_fin v
theorem rnd_n {f : FP.Core.Fmt} {d : FP.Core.Datum} (h : d ≠ .nan) : FP.Core.round f d ≠ .nan := by
  intro e
  exact h (FP.Core.round_nan.mp e)
theorem fmul_ff {x y : UInt32} (hx : fin32 x) (hy : fin32 y) : vf_n32 (FP.fmul x y) := by
  obtain ⟨s, c, q, hx⟩ := hx
  obtain ⟨t, d, r, hy⟩ := hy
  rw [n32_val]
  show FP.Core.val32 (FP.Core.fmul x y) ≠ .nan
  rw [FP.Core.val32_fmul, hx, hy]
  exact rnd_n (by simp [FP.Core.exactProduct])
theorem fmul_nz {x y : UInt32} (hx : vf_n32 x) (hy : finz32 y) : vf_n32 (FP.fmul x y) := by
  obtain ⟨t, d, r, hy, hd⟩ := hy
  rw [n32_val] at hx ⊢
  show FP.Core.val32 (FP.Core.fmul x y) ≠ .nan
  rw [FP.Core.val32_fmul, hy]
  refine rnd_n ?_
  cases hv : FP.Core.val32 x with
  | nan => exact absurd hv hx
  | inf s => simp [FP.Core.exactProduct, hd]
  | fin s c q => simp [FP.Core.exactProduct]
theorem fdiv_nz {x y : UInt32} (hx : vf_n32 x) (hy : finz32 y) : vf_n32 (FP.fdiv x y) := by
  obtain ⟨t, d, r, hy, hd⟩ := hy
  rw [n32_val] at hx ⊢
  show FP.Core.val32 (FP.Core.fdiv x y) ≠ .nan
  rw [FP.Core.val32_fdiv, hy]
  cases hv : FP.Core.val32 x with
  | nan => exact absurd hv hx
  | inf s => simp [FP.Core.quotient]
  | fin s c q =>
    simp only [FP.Core.quotient, hd, if_false, ite_false, reduceIte]
    exact FP.Core.roundRatio_ne_nan _ _ _ _ _
theorem fsub_nf {x y : UInt32} (hx : vf_n32 x) (hy : fin32 y) : vf_n32 (FP.fsub x y) := by
  obtain ⟨t, d, r, hy⟩ := hy
  rw [n32_val] at hx ⊢
  show FP.Core.val32 (FP.Core.fsub x y) ≠ .nan
  rw [FP.Core.val32_fsub, hy]
  refine rnd_n ?_
  cases hv : FP.Core.val32 x with
  | nan => exact absurd hv hx
  | inf s => simp [FP.Core.exactSum, FP.Core.negate]
  | fin s c q => simp [FP.Core.exactSum, FP.Core.negate]
theorem fsub_fn {x y : UInt32} (hx : fin32 x) (hy : vf_n32 y) : vf_n32 (FP.fsub x y) := by
  obtain ⟨t, d, r, hx⟩ := hx
  rw [n32_val] at hy ⊢
  show FP.Core.val32 (FP.Core.fsub x y) ≠ .nan
  rw [FP.Core.val32_fsub, hx]
  refine rnd_n ?_
  cases hv : FP.Core.val32 y with
  | nan => exact absurd hv hy
  | inf s => simp [FP.Core.exactSum, FP.Core.negate]
  | fin s c q => simp [FP.Core.exactSum, FP.Core.negate]
theorem dadd_nf {x y : UInt64} (hx : vf_n64 x) (hy : fin64 y) : vf_n64 (FP.dadd x y) := by
  obtain ⟨t, d, r, hy⟩ := hy
  rw [n64_val] at hx ⊢
  show FP.Core.val64 (FP.Core.dadd x y) ≠ .nan
  rw [FP.Core.val64_dadd, hy]
  refine rnd_n ?_
  cases hv : FP.Core.val64 x with
  | nan => exact absurd hv hx
  | inf s => simp [FP.Core.exactSum]
  | fin s c q => simp [FP.Core.exactSum]
theorem ddiv_nz {x y : UInt64} (hx : vf_n64 x) (hy : finz64 y) : vf_n64 (FP.ddiv x y) := by
  obtain ⟨t, d, r, hy, hd⟩ := hy
  rw [n64_val] at hx ⊢
  show FP.Core.val64 (FP.Core.ddiv x y) ≠ .nan
  rw [FP.Core.val64_ddiv, hy]
  cases hv : FP.Core.val64 x with
  | nan => exact absurd hv hx
  | inf s => simp [FP.Core.quotient]
  | fin s c q =>
    simp only [FP.Core.quotient, hd, if_false, ite_false, reduceIte]
    exact FP.Core.roundRatio_ne_nan _ _ _ _ _
/-- the quarters: k / 4f for k of 1 to 16, 4f, 16f, 0.5f, 2f, 255f -/
def quF (k : Nat) : UInt32 := FP.fdiv (FP.i2f (nI k)) 1082130432
def isFz (x : UInt32) : Bool := match FP.Core.val32 x with
  | .fin _ c _ => c != 0
  | _ => false
theorem isFz_ok {x : UInt32} (h : isFz x = true) : finz32 x := by
  unfold isFz at h
  cases hv : FP.Core.val32 x with
  | nan => rw [hv] at h; cases h
  | inf s => rw [hv] at h; cases h
  | fin s c q =>
    rw [hv] at h
    exact ⟨s, c, q, hv, by simpa using h⟩
theorem quF_ok : ∀ k, k < 17 → 0 < k → finz32 (quF k) := fun k hk h0 => isFz_ok (by
  have : (List.range 17).all (fun k => decide (k = 0) || isFz (quF k)) = true := by decide +kernel
  have h := List.all_eq_true.mp this k (List.mem_range.mpr hk)
  simp only [Bool.or_eq_true, decide_eq_true_eq] at h
  rcases h with h | h
  · omega
  · exact h)
theorem f4_ok : finz32 1082130432 := isFz_ok (by decide +kernel)
theorem f16_ok : finz32 1098907648 := isFz_ok (by decide +kernel)
theorem fhalf_ok : finz32 1056964608 := isFz_ok (by decide +kernel)
theorem f2_ok : finz32 FP.fconst2 := isFz_ok (by decide +kernel)
theorem f1_ok : finz32 FP.fconst1 := isFz_ok (by decide +kernel)
theorem f0_ok : fin32 FP.fconst0 := ⟨_, _, _, FP.Core.val32_fconst0⟩
theorem f255_ok : finz32 1132396544 := isFz_ok (by decide +kernel)
theorem i2f_nz {k : Nat} (h0 : 0 < k) (hk : k < 2 ^ 24) : finz32 (FP.i2f (nI k)) := by
  obtain ⟨s, c, q, h⟩ := i2f_fin32 (nI k)
  refine ⟨s, c, q, h, fun e => ?_⟩
  subst e
  have hz := FP.Core.i2f_big (v := nI k) (by rw [nI_toInt (by omega)]; omega)
  have h2 := (FP.Core.zero_bits232 (FP.i2f (nI k))).mp ⟨s, q, h⟩
  have h3 : 127 * 2 ^ 23 ≤ (FP.i2f (nI k)).toNat % 2 ^ 31 := hz.1
  omega
