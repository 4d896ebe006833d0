/-! WHAT THE LAW ASKS, IN NUMBERS: floats and doubles, the best time and gain, the best white -/
theorem tr_shift (c : Nat) (q : Int) (M : Nat) (hM : 0 ≤ q + M) : c * 2 ^ q.toNat / 2 ^ (-q).toNat = c * 2 ^ (q + M).toNat / 2 ^ M := by
  have h1 : (q + M).toNat = q.toNat + (M - (-q).toNat) := by omega
  have h2 : 2 ^ M = 2 ^ (-q).toNat * 2 ^ (M - (-q).toNat) := by rw [← Nat.pow_add]; congr 1; omega
  rw [h1, h2, Nat.pow_add, ← Nat.mul_assoc, Nat.mul_div_mul_right _ _ (Nat.two_pow_pos _)]
theorem trunc_eq {s : Bool} {c c' : Nat} {q q' : Int} (h : c * 2 ^ (q - q').toNat = c' * 2 ^ (q' - q).toNat) : FP.Core.truncate s c q = FP.Core.truncate s c' q' := by
  unfold FP.Core.truncate
  obtain ⟨M, h1, h2⟩ : ∃ M : Nat, 0 ≤ q + M ∧ 0 ≤ q' + M := ⟨(-q).toNat + (-q').toNat, by omega, by omega⟩
  have e : c * 2 ^ (q + M).toNat = c' * 2 ^ (q' + M).toNat := by
    have k1 : (q + M).toNat = (q - q').toNat + (min q q' + M).toNat := by omega
    have k2 : (q' + M).toNat = (q' - q).toNat + (min q q' + M).toNat := by omega
    rw [k1, k2, Nat.pow_add, Nat.pow_add, ← Nat.mul_assoc, ← Nat.mul_assoc, h]
  rw [tr_shift c q M h1, tr_shift c' q' M h2, e]
theorem n32_nan {x : UInt32} (h : vf_n32 x) : FP.Core.fIsNaN x = false := (FP.Core.notNaN_iff32 x).mpr ((n32_val x).mp h)
theorem d2i_f2d {x : UInt32} (h : vf_n32 x) : FP.d2i (FP.f2d x) = FP.f2i x := by
  have hn := (n32_val x).mp h
  have e : FP.f2d x = FP.Core.f2d x := FP.f2d_core (n32_nan h)
  rw [e]
  show Int32.ofInt (FP.Core.toInt (-2 ^ 31) (2 ^ 31 - 1) (FP.Core.val64 (FP.Core.f2d x))) = Int32.ofInt (FP.Core.toInt (-2 ^ 31) (2 ^ 31 - 1) (FP.Core.val32 x))
  rw [FP.Core.val64_f2d]
  have hf := FP.Core.val32_fits x
  cases hv : FP.Core.val32 x with
  | nan => exact absurd hv hn
  | inf s => rfl
  | fin s c q =>
    rw [hv] at hf
    obtain ⟨c', q', hfit, hz, hv2⟩ := FP.Core.within_fit FP.Core.good_b64 FP.Core.within_32_64 hf
    have h1 : FP.Core.round FP.Core.b64 (.fin s c q) = .fin s c' q' := FP.Core.roundRatio_exact FP.Core.good_b64 (by decide) hfit hv2
    rw [h1]
    show Int32.ofInt (max _ (min _ (FP.Core.truncate s c' q'))) = Int32.ofInt (max _ (min _ (FP.Core.truncate s c q)))
    rw [Nat.mul_one] at hv2
    rw [trunc_eq (s := s) hv2]
theorem cv_le {x y : UInt64} (hx : vf_n64 x) (hy : vf_n64 y) (b : CmpOp) : 0 ≤ Op.cmpValue (FP.dcmp x y) b ↔ FP.Core.dkey y ≤ FP.Core.dkey x := by
  have e : FP.dcmp x y = some (compare (FP.Core.dkey x) (FP.Core.dkey y)) := FP.Core.dcmp_key ((n64_val x).mp hx) ((n64_val y).mp hy)
  rw [e]
  cases h : compare (FP.Core.dkey x) (FP.Core.dkey y) with
  | lt => rw [FP.Core.compare_lt_iff] at h; exact ⟨fun c9 => absurd c9 (by show ¬ ((0 : Int32) ≤ -1); decide), fun c9 => by omega⟩
  | eq => rw [FP.Core.compare_eq_iff] at h; exact ⟨fun _ => by omega, fun _ => by show (0 : Int32) ≤ 0; decide⟩
  | gt => rw [FP.Core.compare_gt_iff] at h; exact ⟨fun _ => by omega, fun _ => by show (0 : Int32) ≤ 1; decide⟩
theorem cv_eq {x y : UInt64} (hx : vf_n64 x) (hy : vf_n64 y) (b : CmpOp) : Op.cmpValue (FP.dcmp x y) b = 0 ↔ FP.Core.dkey x = FP.Core.dkey y := by
  have e : FP.dcmp x y = some (compare (FP.Core.dkey x) (FP.Core.dkey y)) := FP.Core.dcmp_key ((n64_val x).mp hx) ((n64_val y).mp hy)
  rw [e]
  cases h : compare (FP.Core.dkey x) (FP.Core.dkey y) with
  | lt => rw [FP.Core.compare_lt_iff] at h; exact ⟨fun c9 => absurd c9 (by show ¬ ((-1 : Int32) = 0); decide), fun c9 => by omega⟩
  | eq => rw [FP.Core.compare_eq_iff] at h; exact ⟨fun _ => h, fun _ => rfl⟩
  | gt => rw [FP.Core.compare_gt_iff] at h; exact ⟨fun c9 => absurd c9 (by show ¬ ((1 : Int32) = 0); decide), fun c9 => by omega⟩
theorem absM_n {x : UInt64} (h : vf_n64 x) : vf_n64 (absM x) := by
  unfold vf_n64 absM at *
  rw [UInt64.and_assoc, UInt64.and_self]
  exact h
theorem dneg_n {x : UInt64} (h : vf_n64 x) : vf_n64 (FP.dneg x) := by
  rw [n64_val] at h ⊢
  have e : FP.dneg x = FP.Core.dneg x := FP.dneg_core ((FP.Core.notNaN_iff x).mpr h)
  rw [e, FP.Core.val64_dneg]
  exact FP.Core.negate_ne_nan h
theorem abJ {x : UInt64} (h : vf_n64 x) : vf_n64 (absJ x) ∧ FP.Core.dkey (absJ x) = FP.Core.dkey (absM x) := by
  have hx := (n64_val x).mp h
  have h0 : vf_n64 FP.dconst0 := fin64_n d0_ok
  have e0 : FP.dconst0 = (0 : UInt64) := rfl
  have hv0 := (n64_val _).mp h0
  refine ⟨by unfold absJ; split; exact h; exact dneg_n h, ?_⟩
  rcases Int.lt_trichotomy (FP.Core.dkey x) (FP.Core.dkey 0) with q | q | q
  · have e := (FP.Core.dcmp_lt_key hx (e0 ▸ hv0)).mpr q
    have e1 : absM x = FP.Core.dneg x := FP.Core.abs_neg e
    have e2 : absJ x = FP.dneg x := if_neg (fun c9 => by have := (cv_le h h0 .g).mp c9; rw [e0] at this; omega)
    rw [e1, e2, FP.dneg_core ((FP.Core.notNaN_iff x).mpr hx)]
  · have e := (FP.Core.dcmp_eq_key hx (e0 ▸ hv0)).mpr q
    have e1 : absM x = 0 := FP.Core.abs_zero e
    have e2 : absJ x = x := if_pos ((cv_le h h0 .g).mpr (by rw [e0]; omega))
    rw [e1, e2, q]
  · have e := (FP.Core.dcmp_gt_key hx (e0 ▸ hv0)).mpr q
    have e1 : absM x = x := FP.Core.abs_pos e
    have e2 : absJ x = x := if_pos ((cv_le h h0 .g).mpr (by rw [e0]; omega))
    rw [e1, e2]
abbrev bkN (S : St) (v t g : Nat) : Int := FP.Core.dkey (absM (offJ S v t g))
theorem offA_k (S : St) (v t g : Nat) : vf_n64 (offA S v t g) ∧ FP.Core.dkey (offA S v t g) = bkN S v t g := abJ (offJ_n S v t g)
theorem bt_id (m : Nat) (hm : m < 56) : 16 * 2 ^ (m % 7) + (m / 7 + 1) < 2 ^ 31 := by
  have h1 : 2 ^ (m % 7) ≤ 2 ^ 6 := Nat.pow_le_pow_right (by decide) (by omega)
  omega
theorem nI_m1 {k : Nat} (h : k < 2 ^ 31) : nI k ≠ -nI 1 := fun e => by
  have q := congrArg Int32.toInt e
  rw [nI_toInt h, show (-nI 1 : Int32).toInt = -1 from by decide] at q
  omega
theorem btF_inv (S : St) (v : Nat) : ∀ n, 0 < n → n ≤ 56 → ∃ i, i < n ∧ btF S v n = (nI (16 * 2 ^ (i % 7) + (i / 7 + 1)), offA S v (2 ^ (i % 7)) (i / 7 + 1)) ∧ ∀ m, m < n → bkN S v (2 ^ (i % 7)) (i / 7 + 1) ≤ bkN S v (2 ^ (m % 7)) (m / 7 + 1) ∧ (bkN S v (2 ^ (m % 7)) (m / 7 + 1) = bkN S v (2 ^ (i % 7)) (i / 7 + 1) → i ≤ m) := by
  intro n
  induction n with
  | zero => intro h; omega
  | succ n ih =>
    intro _ hn
    rcases Nat.eq_zero_or_pos n with h0 | h0
    · subst h0
      refine ⟨0, by omega, ?_, fun m hm => ?_⟩
      · show btS S v (2 ^ (0 % 7)) (0 / 7 + 1) (-nI 1, FP.dconst0) = _
        exact if_pos (Or.inl rfl)
      · obtain rfl : m = 0 := by omega
        exact ⟨Int.le_refl _, fun _ => Nat.le_refl _⟩
    · obtain ⟨i, hi, e, hall⟩ := ih h0 (by omega)
      show ∃ i, i < n + 1 ∧ btS S v (2 ^ (n % 7)) (n / 7 + 1) (btF S v n) = _ ∧ _
      rw [e]
      have hne : nI (16 * 2 ^ (i % 7) + (i / 7 + 1)) ≠ -nI 1 := nI_m1 (bt_id i (by omega))
      obtain ⟨n1, k1⟩ := offA_k S v (2 ^ (n % 7)) (n / 7 + 1)
      obtain ⟨n2, k2⟩ := offA_k S v (2 ^ (i % 7)) (i / 7 + 1)
      have hcv := cv_le n1 n2 .g
      rw [k1, k2] at hcv
      by_cases hlt : bkN S v (2 ^ (n % 7)) (n / 7 + 1) < bkN S v (2 ^ (i % 7)) (i / 7 + 1)
      · refine ⟨n, by omega, if_pos (Or.inr (fun c9 => by have := hcv.mp c9; omega)), fun m hm => ?_⟩
        rcases Nat.lt_succ_iff_lt_or_eq.mp hm with h1 | h1
        · have := (hall m h1).1
          exact ⟨by omega, fun h => by omega⟩
        · subst h1
          exact ⟨Int.le_refl _, fun _ => Nat.le_refl _⟩
      · refine ⟨i, by omega, if_neg (fun c9 => c9.elim hne (fun c9 => c9 (hcv.mpr (by omega)))), fun m hm => ?_⟩
        rcases Nat.lt_succ_iff_lt_or_eq.mp hm with h1 | h1
        · exact hall m h1
        · subst h1
          exact ⟨by omega, fun _ => by omega⟩
theorem btF_best (S : St) (v : Nat) : ∃ q0 p0, q0 < 7 ∧ p0 < 8 ∧ (btF S v 56).1 = nI (16 * 2 ^ q0 + (p0 + 1)) ∧ ∀ q1 p1, q1 < 7 → p1 < 8 → bkN S v (2 ^ q0) (p0 + 1) ≤ bkN S v (2 ^ q1) (p1 + 1) ∧ (bkN S v (2 ^ q1) (p1 + 1) = bkN S v (2 ^ q0) (p0 + 1) → p0 ≤ p1 ∧ (p0 = p1 → q0 ≤ q1)) := by
  obtain ⟨i, hi, e, hall⟩ := btF_inv S v 56 (by decide) (by decide)
  refine ⟨i % 7, i / 7, by omega, by omega, by rw [e], fun q1 p1 hq hp => ?_⟩
  have h := hall (7 * p1 + q1) (by omega)
  rw [show (7 * p1 + q1) % 7 = q1 by omega, show (7 * p1 + q1) / 7 = p1 by omega] at h
  exact ⟨h.1, fun he => by have := h.2 he; omega⟩
theorem bwF_best (nu : Nat → UInt32) (c : Nat) : ∀ n, 0 < n → n < 2 ^ 20 → ∃ i, 0 < i ∧ i ≤ n ∧ bwF nu c n = (nI i, bwO nu c i) ∧ ∀ m, 0 < m → m ≤ n → (bwO nu c i).toInt ≤ (bwO nu c m).toInt ∧ ((bwO nu c m).toInt = (bwO nu c i).toInt → i ≤ m) := by
  intro n
  induction n with
  | zero => intro h; omega
  | succ n ih =>
    intro _ hn
    rcases Nat.eq_zero_or_pos n with h0 | h0
    · subst h0
      refine ⟨1, by omega, by omega, ?_, fun m hm h2 => ?_⟩
      · show bwS nu c 1 (-nI 1, nI 0) = _
        exact if_pos (Or.inl rfl)
      · obtain rfl : m = 1 := by omega
        exact ⟨Int.le_refl _, fun _ => Nat.le_refl _⟩
    · obtain ⟨i, hi, hin, e, hall⟩ := ih h0 (by omega)
      show ∃ i, 0 < i ∧ i ≤ n + 1 ∧ bwS nu c (n + 1) (bwF nu c n) = _ ∧ _
      rw [e]
      have hne : nI i ≠ -nI 1 := nI_m1 (by omega)
      by_cases hlt : (bwO nu c (n + 1)).toInt < (bwO nu c i).toInt
      · refine ⟨n + 1, by omega, by omega, if_pos (Or.inr (fun c9 => by have := Int32.le_iff_toInt_le.mp c9; dsimp only at this; omega)), fun m hm h2 => ?_⟩
        rcases (show m ≤ n ∨ m = n + 1 by omega) with h1 | h1
        · have := (hall m hm h1).1
          exact ⟨by omega, fun h => by omega⟩
        · subst h1
          exact ⟨Int.le_refl _, fun _ => Nat.le_refl _⟩
      · refine ⟨i, by omega, by omega, if_neg (fun c9 => c9.elim hne (fun c9 => c9 (Int32.le_iff_toInt_le.mpr (by dsimp only; omega)))), fun m hm h2 => ?_⟩
        rcases (show m ≤ n ∨ m = n + 1 by omega) with h1 | h1
        · exact hall m hm h1
        · subst h1
          exact ⟨by omega, fun _ => by omega⟩
/-! what is seen of a scene: only its 192 shades count, and three factors -/
theorem exN_congr {hw sh sh' : Nat → Nat} {fac fac' : Nat → UInt32} {d t g : Nat} (hs : ∀ i, i < 192 → sh i = sh' i) (hf : ∀ k, k < 3 → fac k = fac' k) {k : Nat} (hk : k < 64) : exN hw sh fac d t g k = exN hw sh' fac' d t g k := by
  have hc := colN_lt (k % 8) (k / 8)
  unfold exN liF
  rw [hs _ (by omega), hf _ hc]
theorem zoX_congr {rw rw' : Nat → Nat} (h : ∀ i, i < 64 → rw i = rw' i) (fx y a : Nat) (hy : y < 8) : ∀ n, fx + n ≤ 8 → zoX rw fx y a n = zoX rw' fx y a n
  | 0, _ => rfl
  | n + 1, hn => by
    unfold zoX
    rw [zoX_congr h fx y a hy n (by omega), h _ (by omega)]
theorem zoY_congr {rw rw' : Nat → Nat} (h : ∀ i, i < 64 → rw i = rw' i) (fx fy : Nat) (hx : fx + 4 ≤ 8) : ∀ n, fy + n ≤ 8 → zoY rw fx fy n = zoY rw' fx fy n
  | 0, _ => rfl
  | n + 1, hn => by
    unfold zoY
    rw [zoY_congr h fx fy hx n (by omega), zoX_congr h fx (fy + n) _ (by omega) 4 hx]
theorem meF_congr {rw rw' : Nat → Nat} (h : ∀ i, i < 64 → rw i = rw' i) : meF rw = meF rw' := by
  unfold meF moF zoN
  rw [zoY_congr h _ _ (by decide) 4 (by decide), zoY_congr h (1 % 2 * 4) _ (by decide) 4 (by decide), zoY_congr h (2 % 2 * 4) _ (by decide) 4 (by decide), zoY_congr h (3 % 2 * 4) _ (by decide) 4 (by decide)]
def compN (co q : Nat) : Nat := if q = 0 then co % 256 else if q = 1 then co / 256 % 256 else co / 256 / 256 % 256
theorem pcN_at (sh : Nat → Nat) (pl co i : Nat) : pcN sh pl co i = if i / 3 = pl then compN co (i % 3) else sh i := by
  unfold pcN compN
  by_cases h : i / 3 = pl
  · rw [if_pos h]
    rcases (show i % 3 = 0 ∨ i % 3 = 1 ∨ i % 3 = 2 by omega) with q | q | q
    · rw [if_neg (by omega), if_neg (by omega), if_pos (by omega), if_pos q]
    · rw [if_neg (by omega), if_pos (by omega), if_neg (by omega), if_pos q]
    · rw [if_pos (by omega), if_neg (by omega), if_neg (by omega)]
  · rw [if_neg h, if_neg (by omega), if_neg (by omega), if_neg (by omega)]
theorem paX_at (sh : Nat → Nat) (x y co i : Nat) (hy : y < 8) (hi : i < 192) : ∀ n, x + n ≤ 8 → paX sh x y co n i = if i / 3 / 8 = y ∧ x ≤ i / 3 % 8 ∧ i / 3 % 8 < x + n then compN co (i % 3) else sh i
  | 0, _ => (if_neg (by omega)).symm
  | n + 1, hn => by
    unfold paX
    rw [pcN_at, paX_at sh x y co i hy hi n (by omega)]
    by_cases h : i / 3 = 8 * y + (x + n)
    · rw [if_pos h, if_pos (by omega)]
    · rw [if_neg h]
      by_cases h2 : i / 3 / 8 = y ∧ x ≤ i / 3 % 8 ∧ i / 3 % 8 < x + n
      · rw [if_pos h2, if_pos (by omega)]
      · rw [if_neg h2, if_neg (by omega)]
theorem paY_at (sh : Nat → Nat) (x y co n i : Nat) (hx : x + n ≤ 8) (hi : i < 192) : ∀ h, y + h ≤ 8 → paY sh x y co n h i = if (y ≤ i / 3 / 8 ∧ i / 3 / 8 < y + h) ∧ x ≤ i / 3 % 8 ∧ i / 3 % 8 < x + n then compN co (i % 3) else sh i
  | 0, _ => (if_neg (by omega)).symm
  | h + 1, hh => by
    unfold paY
    rw [paX_at _ x (y + h) co i (by omega) hi n hx, paY_at sh x y co n i hx hi h (by omega)]
    by_cases c : i / 3 / 8 = y + h ∧ x ≤ i / 3 % 8 ∧ i / 3 % 8 < x + n
    · rw [if_pos c, if_pos (by omega)]
    · rw [if_neg c]
      by_cases c2 : (y ≤ i / 3 / 8 ∧ i / 3 / 8 < y + h) ∧ x ≤ i / 3 % 8 ∧ i / 3 % 8 < x + n
      · rw [if_pos c2, if_pos (by omega)]
      · rw [if_neg c2, if_neg (by omega)]
/-- the class's shades are the reckoner's -/
def SnI (sh sn : Nat → Nat) : Prop := ∀ i, i < 192 → sh i = sn i ∧ sn i < 256
theorem SnI_0 : SnI (sSh S0) (fun _ => 0) := fun i _ => ⟨rfl, by show 0 < 256; decide⟩
theorem SnI_p {sh sn : Nat → Nat} (h : SnI sh sn) {x y a b c r g e : Nat} (hq : x < 8 ∧ y < 8 ∧ a < 8 - x ∧ b < 8 - y ∧ r < 256 ∧ g < 256 ∧ e < 256) : SnI (paY sh x y (r + 256 * g + 65536 * e) (x + a - x + 1) (y + b - y + 1)) (snP x y (x + a) (y + b) r g e sn) := by
  intro i hi
  obtain ⟨h1, h2⟩ := h i hi
  rw [paY_at sh x y _ _ i (by omega) hi _ (by omega)]
  unfold snP rcB
  by_cases c : (y ≤ i / 3 / 8 ∧ i / 3 / 8 < y + (y + b - y + 1)) ∧ x ≤ i / 3 % 8 ∧ i / 3 % 8 < x + (x + a - x + 1)
  · rw [if_pos c, if_pos (by rw [decide_eq_true_eq]; omega)]
    unfold compN rw3
    rcases (show i % 3 = 0 ∨ i % 3 = 1 ∨ i % 3 = 2 by omega) with q | q | q
    · rw [if_pos q, if_pos q]; omega
    · rw [if_neg (by omega), if_pos q, if_neg (by omega), if_pos q]; omega
    · rw [if_neg (by omega), if_neg (by omega), if_neg (by omega), if_neg (by omega)]; omega
  · rw [if_neg c, if_neg (by rw [decide_eq_true_eq]; omega)]
    exact ⟨h1, h2⟩
/-- what the other camera has been told by the first p places -/
def oSh (sn : Nat → Nat) : Nat → Nat → Nat
  | 0 => fun _ => 0
  | p + 1 => pcN (oSh sn p) p (sn (3 * p) + 256 * sn (3 * p + 1) + 65536 * sn (3 * p + 2))
theorem oSh_at {sh sn : Nat → Nat} (h : SnI sh sn) : ∀ P, P ≤ 64 → ∀ i, i < 192 → oSh sn P i = if i / 3 < P then sn i else 0
  | 0, _, i, hi => (if_neg (by omega)).symm
  | P + 1, hP, i, hi => by
    unfold oSh
    rw [pcN_at, oSh_at h P (by omega) i hi]
    by_cases c : i / 3 = P
    · have h0 := (h (3 * P) (by omega)).2
      have h1 := (h (3 * P + 1) (by omega)).2
      have h2 := (h (3 * P + 2) (by omega)).2
      rw [if_pos c, if_pos (by omega)]
      unfold compN
      rcases (show i = 3 * P ∨ i = 3 * P + 1 ∨ i = 3 * P + 2 by omega) with q | q | q <;> subst q
      · rw [if_pos (by omega)]; omega
      · rw [if_neg (by omega), if_pos (by omega)]; omega
      · rw [if_neg (by omega), if_neg (by omega)]; omega
    · rw [if_neg c]
      by_cases c2 : i / 3 < P
      · rw [if_pos c2, if_pos (by omega)]
      · rw [if_neg c2, if_neg (by omega)]
theorem oSh_64 {sh sn : Nat → Nat} (h : SnI sh sn) (i : Nat) (hi : i < 192) : oSh sn 64 i = sh i := by
  rw [oSh_at h 64 (Nat.le_refl _) i hi, if_pos (by omega), (h i hi).1]
theorem pl_id (p : Nat) : 8 * (p / 8 + 0) + (p % 8 + 0) = p := by omega
theorem paY_one (sh : Nat → Nat) (p co : Nat) : paY sh (p % 8) (p / 8) co (p % 8 - p % 8 + 1) (p / 8 - p / 8 + 1) = pcN sh p co := by
  rw [Nat.sub_self, Nat.sub_self]
  show pcN sh (8 * (p / 8 + 0) + (p % 8 + 0)) co = _
  rw [pl_id]
theorem sn_co {sh sn : Nat → Nat} (h : SnI sh sn) {p : Nat} (hp : p < 64) : sn (3 * p) + 256 * sn (3 * p + 1) + 65536 * sn (3 * p + 2) < 16777216 := by
  have h0 := (h (3 * p) (by omega)).2
  have h1 := (h (3 * p + 1) (by omega)).2
  have h2 := (h (3 * p + 2) (by omega)).2
  omega
/-- the lamp's factors, however it was told before -/
theorem fac3 (f f' : Nat → UInt32) (a b c : UInt32) : ∀ k, k < 3 → vf_upd (vf_upd (vf_upd f 0 a) 1 b) 2 c k = vf_upd (vf_upd (vf_upd f' 0 a) 1 b) 2 c k := by
  intro k hk
  rcases (show k = 0 ∨ k = 1 ∨ k = 2 by omega) with rfl | rfl | rfl <;> simp [vf_upd]
/-! the edits -/
theorem hasM_congr {f g : Nat → Int32} : ∀ n, (∀ i, i < n → f i = g i) → hasM f n = hasM g n
  | 0, _ => rfl
  | n + 1, h => by
    unfold hasM
    rw [hasM_congr n (fun i hi => h i (by omega)), h n (by omega)]
theorem cmF_congr {kk nn kk' nn' : Nat → Nat} (nu : Nat → UInt32) : ∀ n, (∀ i, i < n → kk i = kk' i ∧ nn i = nn' i) → cmF kk nn nu n = cmF kk' nn' nu n
  | 0, _ => rfl
  | n + 1, h => by
    unfold cmF
    rw [cmF_congr nu n (fun i hi => h i (by omega)), (h n (by omega)).1, (h n (by omega)).2]
/-- the same list of edits -/
def eqEr (E E' : Er) : Prop := E.2.2 = E'.2.2 ∧ ∀ i, i < E.2.2 → E.1 i = E'.1 i ∧ E.2.1 i = E'.2.1 i
theorem coF_congr (rw : Nat → Nat) (mp : Nat → Bool) {E E' : Er} (h : eqEr E E') : coF rw mp E = coF rw mp E' := by
  unfold coF
  rw [← h.1, cmF_congr _ _ h.2, hasM_congr (f := fun i => nI (E.1 i)) (g := fun i => nI (E'.1 i)) E.2.2 (fun i hi => congrArg nI (h.2 i hi).1)]
theorem wdI_congr (rw : Nat → Nat) (mp : Nat → Bool) {E E' : Er} (h : eqEr E E') : wdI rw mp E = wdI rw mp E' := by
  unfold wdI piF
  rw [coF_congr rw mp h]
theorem coF_app (rw : Nat → Nat) (mp : Nat → Bool) (E : Er) (kd nb : Nat) (h5 : kd < 5) : coF rw mp (va_up E.1 E.2.2 kd, va_up E.2.1 E.2.2 nb, E.2.2 + 1) = apF kd nb (coF rw mp E) := by
  unfold coF
  show apF (va_up E.1 E.2.2 kd E.2.2) (va_up E.2.1 E.2.2 nb E.2.2) (cmF (va_up E.1 E.2.2 kd) (va_up E.2.1 E.2.2 nb) (whF (mmN rw mp (hasM (fun i => nI (va_up E.1 E.2.2 kd i)) E.2.2 || decide (nI (va_up E.1 E.2.2 kd E.2.2) = nI 5)))) E.2.2) = _
  have hd : decide (nI kd = nI 5) = false := decide_eq_false (fun e => by have := (nI_eq (by omega) (by omega)).mp e; omega)
  rw [va_us, va_us, hd, Bool.or_false, hasM_congr (f := fun i => nI (va_up E.1 E.2.2 kd i)) (g := fun i => nI (E.1 i)) E.2.2 (fun i hi => congrArg nI (va_un _ _ (by omega))), cmF_congr (kk' := E.1) (nn' := E.2.1) _ E.2.2 (fun i hi => ⟨va_un _ _ (by omega), va_un _ _ (by omega)⟩)]
/-- what the law sums up -/
def ofS (nu : Nat → UInt32) (c : Nat) : Nat → Int32
  | 0 => nI 0
  | n + 1 => ofS nu c n + (FP.f2i (bdF (nu (3 * n + 1))) - FP.f2i (bdF (nu (3 * n + c))))
theorem i32_mix (a b x y : Int32) : a - b + (x - y) = a + x - (b + y) := by
  apply Int32.toBitVec_inj.mp
  simp only [Int32.toBitVec_add, Int32.toBitVec_sub]
  rw [BitVec.sub_eq_add_neg, BitVec.sub_eq_add_neg, BitVec.sub_eq_add_neg, BitVec.neg_add, BitVec.sub_eq_add_neg]
  ac_rfl
theorem ofS_eq (nu : Nat → UInt32) (c : Nat) (t : UInt32) (hc : c = 0 ∨ c = 2) (hn : ∀ i, i < 192 → vf_n32 (nu i)) : ∀ n, n ≤ 64 → ofS (scF c t nu) c n = stI nu 1 FP.fconst1 n - stI nu c t n
  | 0, _ => by unfold ofS stI; decide
  | n + 1, h => by
    unfold ofS stI
    rw [ofS_eq nu c t hc hn n (by omega), i32_mix]
    have e1 : scF c t nu (3 * n + 1) = nu (3 * n + 1) := by unfold scF; rw [if_neg (by omega)]
    have e2 : scF c t nu (3 * n + c) = FP.fmul (nu (3 * n + c)) t := by unfold scF; rw [if_pos (by omega)]
    have e3 : FP.fmul (nu (3 * n + 1)) FP.fconst1 = nu (3 * n + 1) := FP.Core.fmul_one ((n32_val _).mp (hn _ (by omega)))
    rw [e1, e2, e3]
theorem ofS_bw (rw : Nat → Nat) (mp : Nat → Bool) {E : Er} (hE : okEr E) (kd nb : Nat) (hk : kd = 1 ∨ kd = 2) : absI (ofS (coF rw mp (va_up E.1 E.2.2 kd, va_up E.2.1 E.2.2 nb, E.2.2 + 1)) (if kd = 1 then 0 else 2) 64) = bwO (coF rw mp E) (if kd = 1 then 0 else 2) nb := by
  rw [coF_app rw mp E kd nb (by omega)]
  unfold bwO
  rcases hk with rfl | rfl
  · exact congrArg absI (ofS_eq (coF rw mp E) 0 (quF nb) (Or.inl rfl) (coF_n rw mp hE) 64 (Nat.le_refl _))
  · exact congrArg absI (ofS_eq (coF rw mp E) 2 (quF nb) (Or.inr rfl) (coF_n rw mp hE) 64 (Nat.le_refl _))
/-! a place that is mapped and mended -/
theorem ctN_one (mp : Nat → Bool) (pz : Nat) : ∀ n, (∀ i, i < n → mp i = decide (i = pz)) → ctN mp n = if pz < n then 1 else 0
  | 0, _ => rfl
  | n + 1, h => by
    have ih := ctN_one mp pz n (fun i hi => h i (by omega))
    have hn := h n (by omega)
    show ctN mp n + (if mp n = true then 1 else 0) = _
    rw [ih, hn]
    by_cases c : n = pz
    · subst c
      rw [if_neg (Nat.lt_irrefl n), if_pos (decide_eq_true rfl), if_pos (Nat.lt_succ_self n)]
    · have hd : decide (n = pz) = false := decide_eq_false c
      rw [hd]
      by_cases c2 : pz < n
      · rw [if_pos c2, if_pos (show pz < n + 1 by omega)]; rfl
      · rw [if_neg c2, if_neg (show ¬ pz < n + 1 by omega)]; rfl
theorem ctN_none (mp : Nat → Bool) : ∀ n, (∀ i, i < n → mp i = false) → ctN mp n = 0
  | 0, _ => rfl
  | n + 1, h => by
    unfold ctN
    rw [ctN_none mp n (fun i hi => h i (by omega)), h n (by omega)]
    rfl
def hoN (hw : Nat → Nat) (pz : Nat) : Nat → Nat → Nat
  | 0 => hw
  | p + 1 => va_up (hoN hw pz p) p (if p = pz then 2 else 0)
theorem hoN_at (hw : Nat → Nat) (pz : Nat) : ∀ n, pz < n → hoN hw pz n pz = 2
  | 0, h => absurd h (Nat.not_lt_zero _)
  | n + 1, h => by
    unfold hoN
    by_cases c : n = pz
    · subst c; rw [va_us, if_pos rfl]
    · rw [va_un _ _ (fun e => c e.symm)]; exact hoN_at hw pz n (by omega)
theorem exN_hot {hw sh : Nat → Nat} {fac : Nat → UInt32} {d t g k : Nat} (h : hw k = 2) : exN hw sh fac d t g k = 255 := by
  unfold exN rawI
  rw [h, if_neg (by decide), if_pos rfl]
  decide
theorem bd_int : ∀ m, m ≤ 255 → bdF (FP.i2f (nI m)) = FP.i2f (nI m) ∧ FP.f2d (FP.i2f (nI m)) = FP.i2d (nI m) := fun m hm => by
  have : (List.range 256).all (fun k => bdF (FP.i2f (nI k)) == FP.i2f (nI k) && FP.f2d (FP.i2f (nI k)) == FP.i2d (nI k)) = true := by decide +kernel
  have h := List.all_eq_true.mp this m (List.mem_range.mpr (by omega))
  simp only [Bool.and_eq_true, beq_iff_eq] at h
  exact h
theorem d255 : FP.i2d (nI 255) = 4643176031446892544 := by decide +kernel
theorem pl3 {x y c : Nat} (hx : x < 8) (hc : c < 3) : (3 * (8 * y + x) + c) / 3 = 8 * y + x ∧ (3 * (8 * y + x) + c) % 3 = c ∧ (8 * y + x) % 8 = x ∧ (8 * y + x) / 8 = y := by omega
/-- a place's own colour is what was read there, mended or not -/
theorem pi_own (rw : Nat → Nat) (mp : Nat → Bool) {E : Er} (hE : E.2.2 = 0 ∨ (E.2.2 = 1 ∧ E.1 0 = 5)) {x y : Nat} (hx : x < 8) (hy : y < 8) {m : Nat} (hm : mmN rw mp (decide (E.2.2 = 1)) (8 * y + x) = m) (h255 : m ≤ 255) : FP.f2d (piF rw mp E (3 * (8 * y + x) + colN x y)) = FP.i2d (nI m) := by
  have hc := colN_lt x y
  obtain ⟨p1, p2, p3, p4⟩ := pl3 (y := y) hx hc
  have e : coF rw mp E (3 * (8 * y + x) + colN x y) = FP.i2f (nI m) := by
    unfold coF
    have h1 : hasM (fun i => nI (E.1 i)) E.2.2 = decide (E.2.2 = 1) := by
      rcases hE with h | ⟨h, h5⟩
      · rw [h]; rfl
      · rw [h]
        show (hasM _ 0 || decide (nI (E.1 0) = nI 5)) = _
        rw [h5]; rfl
    have h2 : ∀ nu : Nat → UInt32, cmF E.1 E.2.1 nu E.2.2 = nu := fun nu => by
      rcases hE with h | ⟨h, h5⟩
      · rw [h]; rfl
      · rw [h]
        show apF (E.1 0) (E.2.1 0) nu = nu
        rw [h5]; rfl
    rw [h1, h2]
    unfold whF
    rw [p1, p2, p3, p4, if_pos rfl, hm]
  unfold piF
  rw [e, (bd_int m h255).1, (bd_int m h255).2]
theorem md_four (rw : Nat → Nat) (mp : Nat → Bool) {x y : Nat} (hx : 2 ≤ x ∧ x < 6) (hy : 2 ≤ y ∧ y < 6) (hmp : ∀ i, i < 64 → mp i = decide (i = 8 * y + x)) : mmN rw mp true (8 * y + x) = (rw (8 * y + (x - 2)) + rw (8 * y + (x + 2)) + rw (8 * (y - 2) + x) + rw (8 * (y + 2) + x)) / 4 := by
  unfold mmN
  rw [if_pos ⟨rfl, by rw [hmp _ (by omega)]; exact decide_eq_true rfl⟩, show (8 * y + x) % 8 = x by omega, show (8 * y + x) / 8 = y by omega]
  have h0 : mp (8 * y + (x - 2)) = false := by rw [hmp _ (by omega)]; exact decide_eq_false (by omega)
  have h1 : mp (8 * y + (x + 2)) = false := by rw [hmp _ (by omega)]; exact decide_eq_false (by omega)
  have h2 : mp (8 * (y - 2) + x) = false := by rw [hmp _ (by omega)]; exact decide_eq_false (by omega)
  have h3 : mp (8 * (y + 2) + x) = false := by rw [hmp _ (by omega)]; exact decide_eq_false (by omega)
  have k : mC mp x y 4 = 4 ∧ mS rw mp x y 4 = rw (8 * y + (x - 2)) + rw (8 * y + (x + 2)) + rw (8 * (y - 2) + x) + rw (8 * (y + 2) + x) := by
    simp only [mC, mS, nbOk, nbAt]
    simp [h0, h1, h2, h3, hx.1, hx.2, hy.1, hy.2]
  unfold mdN
  rw [k.1, k.2, if_neg (by decide)]
theorem mm_not (rw : Nat → Nat) (mp : Nat → Bool) (b : Bool) (k : Nat) (h : b = false ∨ mp k = false) : mmN rw mp b k = rw k := by
  unfold mmN
  exact if_neg (fun c => by rcases h with h | h <;> simp [h] at c)
theorem dcv_eq (v : Int32) (b : CmpOp) : Op.cmpValue (FP.dcmp (FP.i2d v) (FP.i2d v)) b = 0 := (cv_eq (fin64_n (i2d_fin64 v)) (fin64_n (i2d_fin64 v)) b).mpr rfl
theorem shl7 : ∀ q, q < 7 → nI 1 <<< (nI q &&& 31) = nI (2 ^ q) := fun q hq => by
  rcases (show q = 0 ∨ q = 1 ∨ q = 2 ∨ q = 3 ∨ q = 4 ∨ q = 5 ∨ q = 6 by omega) with rfl | rfl | rfl | rfl | rfl | rfl | rfl <;> decide +kernel
theorem p2_64 {q : Nat} (h : q < 7) : 0 < 2 ^ q ∧ 2 ^ q < 65 := ⟨Nat.two_pow_pos _, by have : 2 ^ q ≤ 2 ^ 6 := Nat.pow_le_pow_right (by decide) (by omega); omega⟩
theorem p2_mono {a b : Nat} (h : a ≤ b) : 2 ^ a ≤ 2 ^ b := Nat.pow_le_pow_right (by decide) h
