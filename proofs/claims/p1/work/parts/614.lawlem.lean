/-! THE LAW'S WALK: its cases -/
abbrev aA (s : State) : Nat → Prop := fun q : Nat => s.heap.size ≤ q
theorem Mod_same {G : iG} {N : Nat} {ad : Nat → Nat} {C u : Nat → va_E} {mo dz : Nat} {th : Int32} (h : Mod G N ad C mo dz th) (hs : ∀ i, mo ≤ i → i < mo + 7 → u i = C i) : Mod G N ad u mo dz th := by
  obtain ⟨hN, h0, h1, h2, h3, h4, h5, h6⟩ := h
  exact ⟨hN, (hs _ (by omega) (by omega)).trans h0, (hs _ (by omega) (by omega)).trans h1, (hs _ (by omega) (by omega)).trans h2, (hs _ (by omega) (by omega)).trans h3, (hs _ (by omega) (by omega)).trans h4, (hs _ (by omega) (by omega)).trans h5, (hs _ (by omega) (by omega)).trans h6⟩
theorem wl_shrink {D : va_G} {cl : List vw_C} {N N' : Nat} {ad ad1 : Nat → Nat} {C : Nat → va_E} {H : Heap} (hP : va_P D cl (wl N' ad1 C) H) (hN : N ≤ N') (ha : ∀ j, j < N → ad1 j = ad j) : va_P D cl (wl N ad C) H := by
  intro k q hq
  have hk : k < N := by
    have h := (List.getElem?_eq_some_iff.mp hq).1
    simpa [wl] using h
  rw [wl_get hk rfl] at hq
  cases hq
  have h := hP k _ (wl_get (Nat.lt_of_lt_of_le hk hN) rfl)
  rw [ha k hk] at h
  exact h
theorem rngN {v : Int32} {lo hi : Nat} (hh : hi < 2 ^ 31) (hl : lo < 2 ^ 31) (h : ¬ (v < nI lo ∨ nI hi < v)) : ∃ n : Nat, lo ≤ n ∧ n < hi + 1 ∧ v = nI n := by
  have h1 : ¬ v < nI lo := fun q => h (Or.inl q)
  have h2 : ¬ nI hi < v := fun q => h (Or.inr q)
  have h0 : ¬ v < 0 := fun q => h1 (Int32.lt_of_lt_of_le q (by rw [show (0 : Int32) = nI 0 from rfl]; exact nI_le (by omega) (by omega)))
  obtain ⟨j, hj, rfl⟩ := nI_of h0
  refine ⟨j, ?_, ?_, rfl⟩
  · by_cases q : lo ≤ j
    · exact q
    · exact absurd ((nI_ltI hj hl).mpr (by omega)) h1
  · by_cases q : j < hi + 1
    · exact q
    · exact absurd ((nI_ltI hh hj).mpr (by omega)) h2
theorem i_all (v : Int32) : v < 0 ∨ nI 0 ≤ v := by
  by_cases h : v < 0
  · exact Or.inl h
  · exact Or.inr (Int32.not_lt.mp h)
section LAWC
variable {p : Program} {l : Launch} {e : Env} {R : Room} {s : State} {m : MethodId} {args : Array Value} {below : List Frame} {meth : Method} {c : Code} {H : Heap} {locs : List Loc} {cells slots : Nat} {Q : State → Prop}
variable {pc : Nat} {ls : Array Slot} {rest st0 : List Value} {a : Array Value} {A : Nat → Prop} {H0 : Heap} {G : iG} {N : Nat} {ad : Nat → Nat} {C : Nat → va_E} {mc ms : Nat}
theorem iwx_i {post : Int32 → (Nat → va_E) → Prop} (hr : vx_Run p l e R s m args below meth c H locs cells slots mc ms (F0 m pc ls st0) rest (va_Qi post (iB G N ad) (iA N ad H.size) a) xN (iA N ad H.size)) (hD : va_D A (wl N ad C)) (hS : va_S A H0 H locs) (hA : ∀ q, H0.size ≤ q → A q)
    (kk : ∀ (r : Int32) (u : Nat → va_E) (H1 : Heap) (locs1 : List Loc), post r u → va_P G.1 vwB (wl N ad u) H1 → va_D A (wl N ad u) → va_S A H0 H1 locs1 → W p l e R s m args below meth c H1 locs1 (cells + mc) (slots + ms) Q (F0 m (pc + 3) ls (.int r :: rest))) : W p l e R s m args below meth c H locs cells slots Q (F0 m pc ls st0) :=
  vx_calli hr hS (fun q _ h => iA_free hD hS hA q h) (iA_free hD hS hA) (fun q _ h => h.elim) (fun E ce q9 u t H1 locs1 ht hvm hpx => hpx.elim) (fun r u t H1 locs1 ht hvm hw hB hz1 hk1 hS => kk r u H1 locs1 hw (by rw [← ht]; exact hB) (wl_D hD u) hS)
theorem iwq_i {v : Int32} {mo N' : Nat} {th : Int32} (hr : va_Run p l e R s m args below meth c H locs cells slots mc ms (F0 m pc ls st0) rest (va_Qi (fun (r : Int32) (u : iU) => (r = v) ∧ (∀ j, j < N → u.1 j = ad j) ∧ (∀ j, j < N → (j < mo ∨ mo + 7 ≤ j) → u.2 j = C j) ∧ Thr u.1 u.2 mo th) (iB2 G N' (iA N ad H.size)) (iA N ad H.size) a) (iA N ad H.size)) (hN : N ≤ N') (hmo : mo + 7 ≤ N) (hD : va_D A (wl N ad C)) (hS : va_S A H0 H locs) (hA : ∀ q, H0.size ≤ q → A q)
    (kk : ∀ (r : Int32) (u : Nat → va_E) (H1 : Heap) (locs1 : List Loc), (r = v ∧ Thr ad u mo th ∧ ∀ j, j < N → (j < mo ∨ mo + 7 ≤ j) → u j = C j) → va_P G.1 vwB (wl N ad u) H1 → va_D A (wl N ad u) → va_S A H0 H1 locs1 → W p l e R s m args below meth c H1 locs1 (cells + mc) (slots + ms) Q (F0 m (pc + 3) ls (.int r :: rest))) : W p l e R s m args below meth c H locs cells slots Q (F0 m pc ls st0) :=
  va_calli hr hS (fun q _ h => iA_free hD hS hA q h) (iA_free hD hS hA) (fun r u t H1 locs1 ht hvm hw hB hz1 hk1 hS9 => by
    obtain ⟨h1, h2, h3, d, h4⟩ := hw
    rw [h2 _ (by omega), h2 _ (by omega), h2 _ (by omega), h2 _ (by omega), h2 _ (by omega), h2 _ (by omega)] at h4
    exact kk r u.2 H1 locs1 ⟨h1, ⟨d, h4⟩, h3⟩ (wl_shrink (by rw [← ht]; exact hB.1) hN h2) (wl_D hD u.2) hS9)
theorem iwq_l {v : Int64} {mo N' : Nat} {th : Int32} (hr : va_Run p l e R s m args below meth c H locs cells slots mc ms (F0 m pc ls st0) rest (va_Ql (fun (r : Int64) (u : iU) => (r = v) ∧ (∀ j, j < N → u.1 j = ad j) ∧ (∀ j, j < N → (j < mo ∨ mo + 7 ≤ j) → u.2 j = C j) ∧ Thr u.1 u.2 mo th) (iB2 G N' (iA N ad H.size)) (iA N ad H.size) a) (iA N ad H.size)) (hN : N ≤ N') (hmo : mo + 7 ≤ N) (hD : va_D A (wl N ad C)) (hS : va_S A H0 H locs) (hA : ∀ q, H0.size ≤ q → A q)
    (kk : ∀ (r : Int64) (u : Nat → va_E) (H1 : Heap) (locs1 : List Loc), (r = v ∧ Thr ad u mo th ∧ ∀ j, j < N → (j < mo ∨ mo + 7 ≤ j) → u j = C j) → va_P G.1 vwB (wl N ad u) H1 → va_D A (wl N ad u) → va_S A H0 H1 locs1 → W p l e R s m args below meth c H1 locs1 (cells + mc) (slots + ms) Q (F0 m (pc + 3) ls (.long r :: rest))) : W p l e R s m args below meth c H locs cells slots Q (F0 m pc ls st0) :=
  va_calll hr hS (fun q _ h => iA_free hD hS hA q h) (iA_free hD hS hA) (fun r u t H1 locs1 ht hvm hw hB hz1 hk1 hS9 => by
    obtain ⟨h1, h2, h3, d, h4⟩ := hw
    rw [h2 _ (by omega), h2 _ (by omega), h2 _ (by omega), h2 _ (by omega), h2 _ (by omega), h2 _ (by omega)] at h4
    exact kk r u.2 H1 locs1 ⟨h1, ⟨d, h4⟩, h3⟩ (wl_shrink (by rw [← ht]; exact hB.1) hN h2) (wl_D hD u.2) hS9)
end LAWC
