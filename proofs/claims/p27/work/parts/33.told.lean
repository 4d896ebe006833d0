set_option maxRecDepth 20000 in
theorem ggX7_draw_L_cell : GoodIn wsX7_draw wsL_cell := goodIn_r _ [5, 6] (by decide +kernel) (by decide +kernel)
set_option maxRecDepth 20000 in
theorem gX7_draw_L_cell_n52 : GoodIn wsX7_draw (wsL_cell) := ggX7_draw_L_cell
set_option maxRecDepth 20000 in
theorem ggX7_draw_L_below : GoodIn wsX7_draw wsL_below := goodIn_r _ [8, 9] (by decide +kernel) (by decide +kernel)
set_option maxRecDepth 20000 in
theorem gX7_draw_L_below_n58 : GoodIn wsX7_draw (wsL_below) := ggX7_draw_L_below
theorem Cam_N {G : iG} {N M : Nat} {ad : Nat → Nat} {C : Nat → va_E} {o : Nat} {S : St} (h : Cam G N ad C o S) (hM : o + 74 ≤ M) : Cam G M ad C o S := ⟨hM, h.2⟩
theorem Cam_up {G : iG} {N : Nat} {ad : Nat → Nat} {C : Nat → va_E} {o : Nat} {S : St} (h : Cam G N ad C o S) {j : Nat} {e : va_E} (hj : j < o ∨ o + 74 ≤ j) : Cam G N ad (va_up C j e) o S := Cam_same h (fun i h1 h2 => va_un _ _ (by omega))
theorem Cam_cam {G : iG} {N : Nat} {ad : Nat → Nat} {C u : Nat → va_E} {o o2 : Nat} {S : St} (hs : same C u o2) (ho : o + 74 ≤ o2 ∨ o2 + 74 ≤ o) (h : Cam G N ad C o S) : Cam G N ad u o S := Cam_same h (fun i h1 h2 => hs i (by omega))
theorem Cam_gr {G : iG} {ad ad1 : Nat → Nat} {C C1 : Nat → va_E} {N M N0 o : Nat} {S : St} (e : ∀ j, j < N → ad1 j = ad j) (c : ∀ j, j < M → C1 j = C j) (hb : o + 74 ≤ N) (hm : o + 74 ≤ M) (h : Cam G N0 ad C o S) : Cam G N ad1 C1 o S := by
  have h2 : Cam G N ad C1 o S := Cam_same (Cam_N h hb) (fun i h1 h2 => c i (by omega))
  obtain ⟨hN, hok, h0, ⟨s1, s2, s3⟩, ⟨e1, e2, e3⟩, ⟨F7, h7, hF7⟩, ⟨F8, h8, hF8⟩, ⟨TF, t1⟩, ⟨TD, d1, d2, d3⟩, ⟨TC, c1, c2, c3⟩, hfr, hfi⟩ := h2
  refine ⟨hb, hok, h0.trans ?_, ⟨s1.trans ?_, s2, s3⟩, ⟨e1.trans ?_, e2, e3⟩, ⟨F7, h7, fun k hk => (hF7 k hk).trans ?_⟩, ⟨F8, h8, fun k hk => (hF8 k hk).trans ?_⟩, ⟨TF, isFr_gr (M := M + N + o + 74) e (fun _ _ => rfl) (by omega) (by omega) t1⟩, ⟨TD, isPi_gr (M := M + N + o + 74) e (fun _ _ => rfl) (by omega) (by omega) ⟨d1, d2, d3⟩⟩, ⟨TC, isPi_gr (M := M + N + o + 74) e (fun _ _ => rfl) (by omega) (by omega) ⟨c1, c2, c3⟩⟩, fun k hk => isFr_gr (M := M + N + o + 74) e (fun _ _ => rfl) (by omega) (by omega) (hfr k hk), fun k hk => isFi_gr (M := M + N + o + 74) e (fun _ _ => rfl) (by omega) (by omega) (hfi k hk)⟩
  · rw [e (o + 1) (by omega), e (o + 4) (by omega), e (o + 7) (by omega), e (o + 8) (by omega), e (o + 9) (by omega), e (o + 14) (by omega), e (o + 17) (by omega)]
  · rw [e (o + 2) (by omega), e (o + 3) (by omega)]
  · rw [e (o + 5) (by omega), e (o + 6) (by omega)]
  · rw [e (o + 20 + 5 * k) (by omega)]
  · rw [e (o + 50 + 4 * k) (by omega)]
/-- the scene as the reckoner keeps it: 64 rows, some of them one -/
def isTs (G : iG) (ad : Nat → Nat) (C : Nat → va_E) (B : Nat) (sn : Nat → Nat) : Prop := 140 ≤ B ∧ ∃ (F : Nat → Option Nat) (sc : Nat → Nat) (gr : Nat → Nat → Int32), C 75 = ra G 5 64 F ∧ ∀ i, i < 64 → F i = some (ad (sc i)) ∧ 76 ≤ sc i ∧ sc i < B ∧ (sc i < 140 ∨ 147 ≤ sc i) ∧ C (sc i) = ia G 3 (gr i) ∧ ∀ q, q < 3 → gr i q = nI (sn (3 * i + q))
theorem isTs_up {G : iG} {ad : Nat → Nat} {C : Nat → va_E} {B : Nat} {sn : Nat → Nat} (h : isTs G ad C B sn) {j : Nat} {e : va_E} (hj : j < 75 ∨ B ≤ j ∨ (140 ≤ j ∧ j < 147)) : isTs G ad (va_up C j e) B sn := by
  obtain ⟨hB, F, sc, gr, h1, h2⟩ := h
  refine ⟨hB, F, sc, gr, (va_un _ _ (by omega)).trans h1, fun i hi => ?_⟩
  obtain ⟨a1, a2, a3, a4, a5, a6⟩ := h2 i hi
  exact ⟨a1, a2, a3, a4, (va_un _ _ (by omega)).trans a5, a6⟩
theorem isTs_cam {G : iG} {ad : Nat → Nat} {C u : Nat → va_E} {B o : Nat} {sn : Nat → Nat} (hs : same C u o) (ho : o + 74 ≤ 75 ∨ B ≤ o) (h : isTs G ad C B sn) : isTs G ad u B sn := by
  obtain ⟨hB, F, sc, gr, h1, h2⟩ := h
  refine ⟨hB, F, sc, gr, (hs _ (by omega)).trans h1, fun i hi => ?_⟩
  obtain ⟨a1, a2, a3, a4, a5, a6⟩ := h2 i hi
  exact ⟨a1, a2, a3, a4, (hs _ (by omega)).trans a5, a6⟩
theorem isTs_gr {G : iG} {ad ad1 : Nat → Nat} {C C1 : Nat → va_E} {N M B : Nat} {sn : Nat → Nat} (e : ∀ j, j < N → ad1 j = ad j) (c : ∀ j, j < M → C1 j = C j) (hb : B ≤ N) (hm : B ≤ M) (h : isTs G ad C B sn) : isTs G ad1 C1 B sn := by
  obtain ⟨hB, F, sc, gr, h1, h2⟩ := h
  refine ⟨hB, F, sc, gr, (c _ (by omega)).trans h1, fun i hi => ?_⟩
  obtain ⟨a1, a2, a3, a4, a5, a6⟩ := h2 i hi
  exact ⟨by rw [e _ (by omega)]; exact a1, a2, a3, a4, (c _ (by omega)).trans a5, a6⟩
theorem isTs_B {G : iG} {ad : Nat → Nat} {C : Nat → va_E} {B B2 : Nat} {sn : Nat → Nat} (h : isTs G ad C B sn) (hB : B ≤ B2) : isTs G ad C B2 sn := by
  obtain ⟨hB0, F, sc, gr, h1, h2⟩ := h
  refine ⟨by omega, F, sc, gr, h1, fun i hi => ?_⟩
  obtain ⟨a1, a2, a3, a4, a5, a6⟩ := h2 i hi
  exact ⟨a1, a2, by omega, a4, a5, a6⟩
/-- three numbers -/
def rw3 (a b c : Nat) (i : Nat) : Nat := if i = 0 then a else if i = 1 then b else c
/-- a place that is painted -/
def rcB (x y tx ty i : Nat) : Bool := decide (x ≤ i % 8 ∧ i % 8 ≤ tx ∧ y ≤ i / 8 ∧ i / 8 ≤ ty)
def gpF (F : Nat → Option Nat) (a x y tx ty p : Nat) (i : Nat) : Option Nat := if i < p ∧ rcB x y tx ty i = true then some a else F i
theorem gpF_0 (F : Nat → Option Nat) (a x y tx ty : Nat) : gpF F a x y tx ty 0 = F := by
  funext i
  simp [gpF]
theorem gpF_t (F : Nat → Option Nat) {a x y tx ty p : Nat} (h : rcB x y tx ty p = true) : va_up (gpF F a x y tx ty p) p (some a) = gpF F a x y tx ty (p + 1) := by
  funext i
  unfold gpF
  by_cases e : i = p
  · subst e
    rw [va_us, if_pos ⟨by omega, h⟩]
  · rw [va_un _ _ e]
    by_cases h2 : i < p ∧ rcB x y tx ty i = true
    · rw [if_pos h2, if_pos ⟨by omega, h2.2⟩]
    · rw [if_neg h2, if_neg (fun h3 => h2 ⟨by omega, h3.2⟩)]
theorem gpF_f (F : Nat → Option Nat) {a x y tx ty p : Nat} (h : rcB x y tx ty p = false) : gpF F a x y tx ty p = gpF F a x y tx ty (p + 1) := by
  funext i
  unfold gpF
  by_cases e : i = p
  · subst e
    rw [if_neg (fun h3 => by omega), if_neg (fun h3 => by rw [h] at h3; cases h3.2)]
  · by_cases h2 : i < p ∧ rcB x y tx ty i = true
    · rw [if_pos h2, if_pos ⟨by omega, h2.2⟩]
    · rw [if_neg h2, if_neg (fun h3 => h2 ⟨by omega, h3.2⟩)]
def snP (x y tx ty a b c : Nat) (sn : Nat → Nat) (i : Nat) : Nat := if rcB x y tx ty (i / 3) = true then rw3 a b c (i % 3) else sn i
theorem isTs_new {G : iG} {ad : Nat → Nat} {C : Nat → va_E} {B N : Nat} {sn : Nat → Nat} {F : Nat → Option Nat} {sc : Nat → Nat} {gr : Nat → Nat → Int32} {x y tx ty a b c : Nat} (h147 : 147 ≤ N) (hB : B ≤ N) (h2 : ∀ i, i < 64 → F i = some (ad (sc i)) ∧ 76 ≤ sc i ∧ sc i < B ∧ (sc i < 140 ∨ 147 ≤ sc i) ∧ C (sc i) = ia G 3 (gr i) ∧ ∀ q, q < 3 → gr i q = nI (sn (3 * i + q)))
    (hr : C N = ia G 3 (fun i => nI (rw3 a b c i))) : isTs G ad (va_up C 75 (ra G 5 64 (gpF F (ad N) x y tx ty 64))) (N + 1) (snP x y tx ty a b c sn) := by
  refine ⟨by omega, gpF F (ad N) x y tx ty 64, fun i => if rcB x y tx ty i = true then N else sc i, fun i => if rcB x y tx ty i = true then (fun q => nI (rw3 a b c q)) else gr i, va_us _ _ _, fun i hi => ?_⟩
  obtain ⟨a1, a2, a3, a4, a5, a6⟩ := h2 i hi
  by_cases hc : rcB x y tx ty i = true
  · simp only [if_pos hc]
    refine ⟨if_pos ⟨hi, hc⟩, by omega, by omega, by omega, (va_un _ _ (by omega)).trans hr, fun q hq => ?_⟩
    unfold snP
    rw [show (3 * i + q) / 3 = i by omega, show (3 * i + q) % 3 = q by omega, if_pos hc]
  · simp only [if_neg hc]
    refine ⟨(if_neg (fun h => hc h.2)).trans a1, by omega, by omega, by omega, (va_un _ _ (by omega)).trans a5, fun q hq => ?_⟩
    unfold snP
    rw [show (3 * i + q) / 3 = i by omega, if_neg hc]
    exact a6 q hq
section IWR
variable {p : Program} {l : Launch} {e : Env} {R : Room} {s : State} {m : MethodId} {args : Array Value} {below : List Frame} {meth : Method} {c : Code} {H : Heap} {locs : List Loc} {cells slots : Nat} {Q : State → Prop}
variable {pc : Nat} {ls : Array Slot} {rest st0 : List Value} {a : Array Value} {A : Nat → Prop} {H0 : Heap} {G : iG} {N : Nat} {ad : Nat → Nat} {C : Nat → va_E}
theorem iwg_r {post : iU → Prop} {N' k mc ms : Nat} (hr : va_Run p l e R s m args below meth c H locs cells slots mc ms (F0 m pc ls st0) rest (va_Qr post (fun u a t => iB2 G N' (iA N ad H.size) u t ∧ a = u.1 k) (iA N ad H.size) a) (iA N ad H.size)) (hD : va_D A (wl N ad C)) (hS : va_S A H0 H locs) (hA : ∀ q, H0.size ≤ q → A q)
    (kk : ∀ (ad1 : Nat → Nat) (C1 : Nat → va_E) (H1 : Heap) (locs1 : List Loc), post (ad1, C1) → va_P G.1 vwB (wl N' ad1 C1) H1 → va_D A (wl N' ad1 C1) → va_S A H0 H1 locs1 → W p l e R s m args below meth c H1 locs1 (cells + mc) (slots + ms) Q (F0 m (pc + 3) ls (.ref (ad1 k) :: rest))) : W p l e R s m args below meth c H locs cells slots Q (F0 m pc ls st0) :=
  va_callr hr hS (fun q _ h => iA_free hD hS hA q h) (iA_free hD hS hA) (fun u ra t H1 locs1 ht hvm hw hB hz1 hk1 hS9 => by
    obtain ⟨hB1, rfl⟩ := hB
    exact kk u.1 u.2 H1 locs1 hw (by rw [← ht]; exact hB1.1) (hB1.2.weaken (fun _ _ _ h => iA_free hD hS hA _ h)) hS9)
end IWR
theorem mask31 (v : Int32) : ∃ w, w < 2 ^ 31 ∧ v &&& nI 2147483647 = nI w := by
  refine ⟨v.toBitVec.toNat % 2 ^ 31, Nat.mod_lt _ (by decide), Int32.toBitVec_inj.mp ?_⟩
  rw [Int32.toBitVec_and]
  apply BitVec.eq_of_toNat_eq
  rw [BitVec.toNat_and]
  show v.toBitVec.toNat &&& (2 ^ 31 - 1) = (BitVec.ofNat 32 (v.toBitVec.toNat % 2 ^ 31)).toNat
  rw [Nat.and_two_pow_sub_one_eq_mod, BitVec.toNat_ofNat]
  omega
theorem below_ok (v : Int32) {n : Nat} (h0 : 0 < n) (hn : n < 2 ^ 15) : ∃ q, q < n ∧ (v &&& nI 2147483647) - (v &&& nI 2147483647) / nI n * nI n = nI q := by
  obtain ⟨w, hw, e⟩ := mask31 v
  rw [e]
  exact ⟨w % n, Nat.mod_lt _ h0, pk_rem hw h0 (by omega)⟩
abbrev iPreC (b L : Nat) (xs : Nat → Int32) (av : List Value) : Array Value → State → Prop := va_Pc av (fun U => va_X b L xs U U.heap ∧ b < U.heap.size ∧ L ≤ 260)
theorem iPSc {b L M : Nat} {xs : Nat → Int32} {ad0 : Nat → Nat} {s : State} {H : Heap} {A : Nat → Prop} {locs : List Loc} (hX : XS b L xs M ad0 s s.heap) (hbA : ¬ A b) (hS : va_S A s.heap H locs) (As : List Value) : PreS s H (iPreC b L xs As) As :=
  ⟨fun a U g mk q => ⟨q.1, va_X.moved (u := U) (U := U.calling g mk a) (Vm.Alike.refl U.vm) q.2.1, q.2.2⟩, fun U hU hW => ⟨rfl, by rw [hU]; exact ((hX.1.kept (hS.2.1 b hX.2.1 hbA)).moved hW.alike), by rw [hU]; exact Nat.lt_of_lt_of_le hX.2.1 hS.1, hX.2.2.1⟩⟩
abbrev rmL_below : Room := { frames := 0, cells := 0, slots := 0, locals := 0 }
set_option maxRecDepth 20000 in
theorem il_L_below_7 : (Cond.constant RL 7 (2147483647)) ∈ wsL_below := by decide +kernel
set_option maxHeartbeats 4000000 in
set_option maxRecDepth 100000 in
theorem kL_below (l : Launch) (v : Int32) (n : Nat) (h0 : 0 < n) (hn : n < 2 ^ 15) : Met l yL_below wsL_below rmL_below (va_Pc [.int v, .int (nI n)] (fun _ => True)) (va_Qi (fun (r : Int32) (_ : Unit) => ∃ q, q < n ∧ r = nI q) (fun _ _ => True) (fun _ => False)) 0 0 (fun _ => False) := by
  refine Met.ofW (cc := cL_below) (maxL := 2) (ret := (some .int)) (by decide) rfl ?_
  intro p e s m args below meth c s₁ B hml hv
  obtain ⟨rfl, -⟩ := hv
  have hx := B.exec
  have hb := B.bytes
  have hr := B.returns
  have hts := atoms_spec (ws := wsL_below) B.pre
  have hown : s.vm.findClass RL = some m.cls := findClass_of_methodNamed B.named
  have hlocks := B.notSynchronized
  have hS : va_S (fun _ => False) s.heap s.heap [] := va_S.rf
  have hP : va_P (fun _ => 0, fun _ _ => 0) [] [] s.heap := fun k q h => by simp at h
  have hl := lv_entry ([.int v, .int (nI n)]) (n := 2) (Nat.le_of_ble_eq_true rfl)
  rw [lg_entry_eq]
  generalize (lg_sl ([.int v, .int (nI n)]) ++ List.replicate (2 - (lg_sl ([.int v, .int (nI n)])).length) Slot.unset).toArray = ls at hl ⊢
  have hl : lv_has ls 2 [(0, .int v), (1, .int (nI n))] := hl
  refine lv_iload_n hx hb dL_below_0 rfl (lv_at hl 0 rfl) ?_
  refine lv_ldc hx hb hown (hts _ il_L_below_7) dL_below_1 ?_
  refine lv_asI (y := nI 2147483647) (by decide) ?_
  refine lv_iand hx hb dL_below_3 ?_
  refine lv_iload_n hx hb dL_below_4 rfl (lv_at hl 1 rfl) ?_
  refine lv_irem hx hb dL_below_5 (fun e => by have := (nI_eq (by omega) (by omega)).mp (e.trans nI_0.symm); omega) ?_
  exact W.iret (v := ((v &&& (nI 2147483647)) - (v &&& (nI 2147483647)) / (nI n) * (nI n))) hx hb hr (fun t ht hW => ⟨⟨_, (), rfl, below_ok v h0 hn, trivial⟩, hS.F ht⟩) hS.2.2 dL_below_6
abbrev rmL_cell : Room := { frames := 0, cells := 0, slots := 0, locals := 0 }
set_option maxRecDepth 20000 in
theorem il_L_cell_8 : (Cond.constant RL 8 (790386105)) ∈ wsL_cell := by decide +kernel
set_option maxHeartbeats 4000000 in
set_option maxRecDepth 100000 in
theorem kL_cell (l : Launch) (b L : Nat) (xs : Nat → Int32) (k : Nat) (hk : k < 1000) : Met l yL_cell wsL_cell rmL_cell (iPreC b L xs [.ref b, .int (nI k)]) (va_Qi (fun (r : Int32) (_ : Unit) => True) (fun _ _ => True) (fun _ => False)) 0 0 (fun _ => False) := by
  refine Met.ofW (cc := cL_cell) (maxL := 2) (ret := (some .int)) (by decide) rfl ?_
  intro p e s m args below meth c s₁ B hml hv
  obtain ⟨rfl, hX, hbl, hL⟩ := hv
  have hx := B.exec
  have hb := B.bytes
  have hr := B.returns
  have hts := atoms_spec (ws := wsL_cell) B.pre
  have hown : s.vm.findClass RL = some m.cls := findClass_of_methodNamed B.named
  have hlocks := B.notSynchronized
  have hS : va_S (fun _ => False) s.heap s.heap [] := va_S.rf
  have hP : va_P (fun _ => 0, fun _ _ => 0) [] [] s.heap := fun k q h => by simp at h
  have hl := lv_entry ([.ref b, .int (nI k)]) (n := 2) (Nat.le_of_ble_eq_true rfl)
  rw [lg_entry_eq]
  generalize (lg_sl ([.ref b, .int (nI k)]) ++ List.replicate (2 - (lg_sl ([.ref b, .int (nI k)])).length) Slot.unset).toArray = ls at hl ⊢
  have hl : lv_has ls 2 [(0, .ref b), (1, .int (nI k))] := hl
  refine lv_iload_n hx hb dL_cell_0 rfl (lv_at hl 1 rfl) ?_
  refine lv_aload_n hx hb dL_cell_1 rfl (lv_at hl 0 rfl) ?_
  refine va_slen hx hb hX hbl (fun h => h) hS dL_cell_2 ?_
  refine lv_icmp_ge (tgt := 12) hx hb dL_cell_3 (by decide) (fun c3 => ?_) (fun c3 => ?_)
  · refine lv_ldc hx hb hown (hts _ il_L_cell_8) dL_cell_12 ?_
    refine lv_asI (y := nI 790386105) (by decide) ?_
    refine lv_iload_n hx hb dL_cell_14 rfl (lv_at hl 1 rfl) ?_
    refine lv_iconst (v := nI 3) hx hb dL_cell_15 (by decide) ?_
    refine lv_iadd hx hb dL_cell_16 ?_
    refine lv_asI (y := nI (k + 3)) (nI_add _ _) ?_
    refine lv_imul hx hb dL_cell_17 ?_
    refine lv_asI (y := nI (790386105 * (k + 3))) (pk_mul _ _) ?_
    exact W.iret (v := (nI (790386105 * (k + 3)))) hx hb hr (fun t ht hW => ⟨⟨_, (), rfl, trivial, trivial⟩, hS.F ht⟩) hS.2.2 dL_cell_18
  · have h4 : k < L := by have := mt (nI_leI (by omega) (by omega)).mpr c3; omega
    refine lv_aload_n hx hb dL_cell_6 rfl (lv_at hl 0 rfl) ?_
    refine lv_iload_n hx hb dL_cell_7 rfl (lv_at hl 1 rfl) ?_
    refine va_sld hx hb hX hbl (fun h => h) hS (vp_in_nI (show k < L by omega) (by omega)) dL_cell_8 ?_
    refine lv_goto (tgt := 18) hx hb dL_cell_9 (by decide) ?_
    exact W.iret (v := (xs (nI k).toNatClampNeg)) hx hb hr (fun t ht hW => ⟨⟨_, (), rfl, trivial, trivial⟩, hS.F ht⟩) hS.2.2 dL_cell_18
abbrev rmX7_draw : Room := { frames := 1, cells := 0, slots := 0, locals := 21 }
set_option maxRecDepth 20000 in
theorem iu_X7_draw_7 : ∀ w ∈ u_ws RX7 TX7 12, w ∈ wsX7_draw := by decide +kernel
set_option maxRecDepth 20000 in
theorem il_X7_draw_45 : (Cond.fieldLink RX7 45 "BayerGateLaw$Told" "s" "[I") ∈ wsX7_draw := by decide +kernel
set_option maxRecDepth 20000 in
theorem il_X7_draw_48 : (Cond.fieldLink RX7 48 "BayerGateLaw$Told" "draws" "I") ∈ wsX7_draw := by decide +kernel
set_option maxRecDepth 20000 in
theorem il_X7_draw_iniL : (Cond.initialized RL) ∈ wsX7_draw := by decide +kernel
set_option maxRecDepth 20000 in
theorem il_X7_draw_st_L_cell : (Cond.static yL_cell) ∈ wsX7_draw := by decide +kernel
set_option maxRecDepth 20000 in
theorem il_X7_draw_st_L_below : (Cond.static yL_below) ∈ wsX7_draw := by decide +kernel
set_option maxHeartbeats 4000000 in
set_option maxRecDepth 100000 in
theorem kX7_draw (l : Launch) (G : iG) (N : Nat) (ad : Nat → Nat) (C : Nat → va_E) (b L : Nat) (xs : Nat → Int32) {t a1 a2 a3 a4 a5 a6 a7 a8 a9 : Nat} {dw : Int32} (lt0 : t < N) (n : Nat) (hn : 0 < n ∧ n < 2 ^ 15) (d : Nat) (hd : d < 900) (h0 : C t = ob 7 [.ref a1, .ref b, .int (nI d), .ref a2, .ref a3, .ref a4, .ref a5, .int dw, .ref a6, .ref a7, .ref a8, .ref a9]) (sz : Nat) : Met l yX7_draw wsX7_draw rmX7_draw (iPreX G N ad C b L xs sz [.ref (ad t), .int (nI n)]) (va_Qi (fun (r : Int32) (u : Nat → va_E) => (∃ q, q < n ∧ r = nI q) ∧ u = va_up C t (ob 7 [.ref a1, .ref b, .int (nI (d + 1)), .ref a2, .ref a3, .ref a4, .ref a5, .int dw, .ref a6, .ref a7, .ref a8, .ref a9])) (iB G N ad) (iA N ad sz)) 0 0 (iA N ad sz) := by
  refine Met.ofW (cc := cX7_draw) (maxL := 3) (ret := (some .int)) (by decide) rfl ?_
  intro p e s m args below meth c s₁ B hml hv
  obtain ⟨rfl, ⟨hsz, hP, hK, hD0⟩, hV, hX⟩ := hv
  have hx := B.exec
  have hb := B.bytes
  have hr := B.returns
  have hts := atoms_spec (ws := wsX7_draw) B.pre
  have hown : s.vm.findClass RX7 = some m.cls := findClass_of_methodNamed B.named
  have hlocks := B.notSynchronized
  subst hsz
  have hD := wl_self hD0 s.heap.size
  have hA : ∀ q : Nat, s.heap.size ≤ q → iA N ad s.heap.size q := fun q h => Or.inr h
  have hS : va_S (iA N ad s.heap.size) s.heap s.heap [] := va_S.rf
  have hP : va_P G.1 vwB (wl N ad C) s.heap := hP
  have hbA := XS_out hX
  have hl := lv_entry ([.ref (ad t), .int (nI n)]) (n := 3) (Nat.le_of_ble_eq_true rfl)
  rw [lg_entry_eq]
  generalize (lg_sl ([.ref (ad t), .int (nI n)]) ++ List.replicate (3 - (lg_sl ([.ref (ad t), .int (nI n)])).length) Slot.unset).toArray = ls at hl ⊢
  have hl : lv_has ls 3 [(0, .ref (ad t)), (1, .int (nI n))] := hl
  refine lv_aload_n hx hb dX7_draw_0 rfl (lv_at hl 0 rfl) ?_
  refine iw_get hx hb hts iu_X7_draw_7 hown hK hP lt0 (h0) rfl 1 (by decide) (hts _ il_X7_draw_45) (fun _ h9 => h9) rfl dX7_draw_1 ?_
  refine lv_aload_n hx hb dX7_draw_4 rfl (lv_at hl 0 rfl) ?_
  refine iw_get hx hb hts iu_X7_draw_7 hown hK hP lt0 (h0) rfl 2 (by decide) (hts _ il_X7_draw_48) (fun _ h9 => h9) rfl dX7_draw_5 ?_
  refine lv_bipush (v := nI 24) hx hb dX7_draw_8 (by decide) ?_
  refine lv_irem hx hb dX7_draw_10 (by decide) ?_
  refine lv_asI (y := nI (d % 24)) (pk_rem (by omega) (by omega) (by omega)) ?_
  refine iw_pi (va_runSN (As := [.ref b, .int (nI (d % 24))]) (rest := []) ⟨hx, hb, hml, hown, hts⟩ (kL_cell l b L xs (d % 24) (by omega)) ⟨va_cnB (host := RL) 2 hts gX7_draw_L_cell_n52 rfl rfl rfl (nw_RX7_52 hK.2) (hts _ il_X7_draw_iniL) (by decide +kernel) ⟨Nat.le_of_ble_eq_true rfl, Nat.le_of_ble_eq_true rfl⟩, (hts _ il_X7_draw_st_L_cell), trivial⟩ (iPSc hX hbA hS _) rfl rfl hl.1 rfl (lv_room (Nat.le_of_ble_eq_true rfl)) dX7_draw_11 ⟨Nat.le_of_ble_eq_true rfl, Nat.le_of_ble_eq_true rfl⟩) hP hS (fun r8 u8 H locs hw8 hP hS => ?_)
  obtain ⟨z1, rfl⟩ : ∃ z, z = r8 := ⟨_, rfl⟩
  refine lv_aload_n hx hb dX7_draw_14 rfl (lv_at hl 0 rfl) ?_
  refine iw_get hx hb hts iu_X7_draw_7 hown hK hP lt0 (h0) rfl 2 (by decide) (hts _ il_X7_draw_48) (fun _ h9 => h9) rfl dX7_draw_15 ?_
  refine lv_bipush (v := nI 24) hx hb dX7_draw_18 (by decide) ?_
  refine lv_idiv hx hb dX7_draw_20 (by decide) ?_
  refine lv_asI (y := nI (d / 24)) (pk_div (by omega) (by omega) (by omega)) ?_
  refine lv_bipush (v := nI 8) hx hb dX7_draw_21 (by decide) ?_
  refine lv_irem hx hb dX7_draw_23 (by decide) ?_
  refine lv_asI (y := nI ((d / 24) % 8)) (pk_rem (by omega) (by omega) (by omega)) ?_
  refine lv_ishr hx hb dX7_draw_24 ?_
  refine lv_sipush (v := nI 401) hx hb dX7_draw_25 (by decide) ?_
  refine lv_aload_n hx hb dX7_draw_28 rfl (lv_at hl 0 rfl) ?_
  refine iw_get hx hb hts iu_X7_draw_7 hown hK hP lt0 (h0) rfl 2 (by decide) (hts _ il_X7_draw_48) (fun _ h9 => h9) rfl dX7_draw_29 ?_
  refine lv_imul hx hb dX7_draw_32 ?_
  refine lv_asI (y := nI (401 * d)) (pk_mul _ _) ?_
  refine lv_iadd hx hb dX7_draw_33 ?_
  refine lv_iload_n hx hb dX7_draw_34 rfl (lv_at hl 1 rfl) ?_
  refine iw_pi (va_runSN (As := [.int ((z1 >>> ((nI ((d / 24) % 8)) &&& 31)) + (nI (401 * d))), .int (nI n)]) (rest := []) ⟨hx, hb, hml, hown, hts⟩ (kL_below l ((z1 >>> ((nI ((d / 24) % 8)) &&& 31)) + (nI (401 * d))) n hn.1 hn.2) ⟨va_cnB (host := RL) 2 hts gX7_draw_L_below_n58 rfl rfl rfl (nw_RX7_58 hK.2) (hts _ il_X7_draw_iniL) (by decide +kernel) ⟨Nat.le_of_ble_eq_true rfl, Nat.le_of_ble_eq_true rfl⟩, (hts _ il_X7_draw_st_L_below), trivial⟩ ⟨fun a U g mk q => q, fun U hU hW => ⟨rfl, trivial⟩⟩ rfl rfl hl.1 rfl (lv_room (Nat.le_of_ble_eq_true rfl)) dX7_draw_35 ⟨Nat.le_of_ble_eq_true rfl, Nat.le_of_ble_eq_true rfl⟩) hP hS (fun r8 u8 H locs hw8 hP hS => ?_)
  obtain ⟨q1, hq1, hr8⟩ := hw8
  refine lv_asI hr8 ?_
  refine lv_istore_n (lv' := [(2, .int (nI q1)), (0, .ref (ad t)), (1, .int (nI n))]) hx hb dX7_draw_38 rfl hl (by decide) rfl (fun ls hl => ?_)
  refine lv_aload_n hx hb dX7_draw_39 rfl (lv_at hl 1 rfl) ?_
  refine lv_dup hx hb dX7_draw_40 rfl ?_
  refine iw_get hx hb hts iu_X7_draw_7 hown hK hP lt0 (h0) rfl 2 (by decide) (hts _ il_X7_draw_48) (fun _ h9 => h9) rfl dX7_draw_41 ?_
  refine lv_iconst (v := nI 1) hx hb dX7_draw_44 (by decide) ?_
  refine lv_iadd hx hb dX7_draw_45 ?_
  refine lv_asI (y := nI (d + 1)) (nI_add _ _) ?_
  refine iw_put (ty := .int) hx hb hts iu_X7_draw_7 tyX7 tyX7_ok nmX7 hown hK hP hD hS lt0 (h0) rfl 2 (by decide) (hts _ il_X7_draw_48) (fun _ h9 => h9) rfl (by decide +kernel) rfl rfl (Nat.le_of_ble_eq_true rfl) rfl dX7_draw_46 (fun H locs hP hD hS => ?_)
  refine lv_iload_n hx hb dX7_draw_49 rfl (lv_at hl 0 rfl) ?_
  exact W.iret (v := (nI q1)) hx hb hr (fun t ht hW => ⟨⟨_, _, rfl, ⟨⟨q1, hq1, rfl⟩, rfl⟩, iB_of ht hP⟩, hS.F ht⟩) hS.2.2 dX7_draw_50
def clT (p : Nat) : Nat := if p / 8 % 2 = 0 then p % 2 else 1 + p % 2
theorem clT_lt (p : Nat) : clT p < 3 := by
  unfold clT
  split <;> omega
abbrev rmX7_colour : Room := { frames := 0, cells := 0, slots := 0, locals := 0 }
set_option maxHeartbeats 4000000 in
set_option maxRecDepth 100000 in
theorem kX7_colour (l : Launch) (pz : Nat) (hp : pz < 64) : Met l yX7_colour wsX7_colour rmX7_colour (va_Pc [.int (nI pz)] (fun _ => True)) (va_Qi (fun (r : Int32) (_ : Unit) => r = nI (clT pz)) (fun _ _ => True) (fun _ => False)) 0 0 (fun _ => False) := by
  refine Met.ofW (cc := cX7_colour) (maxL := 1) (ret := (some .int)) (by decide) rfl ?_
  intro p e s m args below meth c s₁ B hml hv
  obtain ⟨rfl, -⟩ := hv
  have hx := B.exec
  have hb := B.bytes
  have hr := B.returns
  have hts := atoms_spec (ws := wsX7_colour) B.pre
  have hown : s.vm.findClass RX7 = some m.cls := findClass_of_methodNamed B.named
  have hlocks := B.notSynchronized
  have hS : va_S (fun _ => False) s.heap s.heap [] := va_S.rf
  have hP : va_P (fun _ => 0, fun _ _ => 0) [] [] s.heap := fun k q h => by simp at h
  have hl := lv_entry ([.int (nI pz)]) (n := 1) (Nat.le_of_ble_eq_true rfl)
  rw [lg_entry_eq]
  generalize (lg_sl ([.int (nI pz)]) ++ List.replicate (1 - (lg_sl ([.int (nI pz)])).length) Slot.unset).toArray = ls at hl ⊢
  have hl : lv_has ls 1 [(0, .int (nI pz))] := hl
  refine lv_iload_n hx hb dX7_colour_0 rfl (lv_at hl 0 rfl) ?_
  refine lv_bipush (v := nI 8) hx hb dX7_colour_1 (by decide) ?_
  refine lv_idiv hx hb dX7_colour_3 (by decide) ?_
  refine lv_asI (y := nI (pz / 8)) (pk_div (by omega) (by omega) (by omega)) ?_
  refine lv_iconst (v := nI 2) hx hb dX7_colour_4 (by decide) ?_
  refine lv_irem hx hb dX7_colour_5 (by decide) ?_
  refine lv_asI (y := nI ((pz / 8) % 2)) (pk_rem (by omega) (by omega) (by omega)) ?_
  refine lv_if_ne (tgt := 15) hx hb dX7_colour_6 (by decide) (fun c6 => ?_) (fun c6 => ?_)
  · have e8 : ¬ pz / 8 % 2 = 0 := fun e => c6 (by rw [e]; exact nI_0)
    refine lv_iconst (v := nI 1) hx hb dX7_colour_15 (by decide) ?_
    refine lv_iload_n hx hb dX7_colour_16 rfl (lv_at hl 0 rfl) ?_
    refine lv_iconst (v := nI 2) hx hb dX7_colour_17 (by decide) ?_
    refine lv_irem hx hb dX7_colour_18 (by decide) ?_
    refine lv_asI (y := nI (pz % 2)) (pk_rem (by omega) (by omega) (by omega)) ?_
    refine lv_iadd hx hb dX7_colour_19 ?_
    refine lv_asI (y := nI (1 + (pz % 2))) (nI_add _ _) ?_
    exact W.iret (v := (nI (1 + (pz % 2)))) hx hb hr (fun t ht hW => ⟨⟨_, (), rfl, by unfold clT; first | rw [if_pos e8] | rw [if_neg e8], trivial⟩, hS.F ht⟩) hS.2.2 dX7_colour_20
  · have e8 : pz / 8 % 2 = 0 := (nI_eq (by omega) (by omega)).mp (c6.trans nI_0.symm)
    refine lv_iload_n hx hb dX7_colour_9 rfl (lv_at hl 0 rfl) ?_
    refine lv_iconst (v := nI 2) hx hb dX7_colour_10 (by decide) ?_
    refine lv_irem hx hb dX7_colour_11 (by decide) ?_
    refine lv_asI (y := nI (pz % 2)) (pk_rem (by omega) (by omega) (by omega)) ?_
    refine lv_goto (tgt := 20) hx hb dX7_colour_12 (by decide) ?_
    exact W.iret (v := (nI (pz % 2))) hx hb hr (fun t ht hW => ⟨⟨_, (), rfl, by unfold clT; first | rw [if_pos e8] | rw [if_neg e8], trivial⟩, hS.F ht⟩) hS.2.2 dX7_colour_20
def absM (x : UInt64) : UInt64 := x &&& 0x7fffffffffffffff
section IWM
variable {p : Program} {l : Launch} {e : Env} {R : Room} {s : State} {m : MethodId} {args : Array Value} {below : List Frame} {meth : Method} {c : Code} {H : Heap} {locs : List Loc} {cells slots : Nat} {Q : State → Prop} {pc : Nat} {ls : Array Slot} {rest : List Value}
/-- Math.abs of a double that is no NaN (the machine runs it by an entry of its own) -/
theorem iw_mabsD {cc : ByteArray} (hexec : p.tables.exec = Jvm.exec) (hb : c.code = cc) (hml : c.maxLocals = ls.size) {own : String} {index : Nat} (hown : s.vm.findClass own = some m.cls) (hlink : (Cond.methodLink own index yJ9_abs_294c1).before args s = true) (hstat : (Cond.static yJ9_abs_294c1).before args s = true) (hini : (Cond.initialized "java/lang/Math").before args s = true) {bytes : ByteArray} (hcode : (Cond.code yJ9_abs_294c1 bytes 2 (some .double)).before args s = true) {x : UInt64} (hn : vf_n64 x) (hframes : 1 ≤ R.frames) (hlocals : (rest.map fun v => v.category).sum + 13 ≤ R.locals) (hdg : decode cc pc = .ok (.invokestatic index, 3))
    (kk : W p l e R s m args below meth c H locs cells slots Q (F0 m (pc + 3) ls (.double (absM x) :: rest))) : W p l e R s m args below meth c H locs cells slots Q (F0 m pc ls (.double x :: rest)) := by
  intro T hT X
  have hK := Jvm.Free.NT.Abs64.pays (l := l) (R := R) (p := p) (e := e) (below := below) (s := s) (sargs := args) (len := 3) (W := (rest.map fun v => v.category).sum) hcode hstat hframes hlocals
  obtain ⟨v, vm₁, B, -, X', ⟨hB, hv⟩, st⟩ := callS X hexec hown hlink hstat hini hcode (by decide) hK (g := F0 m pc ls (.double x :: rest)) rfl (by rw [hml]) (argsL := [.double x]) (rest := rest)
    (fun sig hs => by
      have h : parseMethodDescriptor "(D)D" = some { parameters := [.double], returnType := some .double } := by decide +kernel
      rw [show yJ9_abs_294c1.desc = "(D)D" from rfl, h] at hs
      rw [← Option.some.inj hs]
      rfl) rfl (by show 2 * 0 + _ ≤ _; omega) (by rw [hb]; exact hdg) (fun vm₁ _ => ⟨x, rfl, hn⟩)
  subst hB
  have hv2 := hv x ⟨rfl, hn⟩
  subst hv2
  obtain ⟨t, a1, b1⟩ := kk (T.setVm vm₁) hT X'
  exact ⟨t, st t a1, b1⟩
end IWM
abbrev rmX7_plus : Room := { frames := 1, cells := 1, slots := 1, locals := 25 }
set_option maxRecDepth 20000 in
theorem il_X7_plus_32 : (Cond.classLink RX7 32 "[I") ∈ wsX7_plus := by decide +kernel
set_option maxRecDepth 20000 in
theorem il_X7_plus_62 : (Cond.methodLink RX7 62 arraycopyName) ∈ wsX7_plus := by decide +kernel
set_option maxRecDepth 20000 in
theorem il_X7_plus_natac : (Cond.native arraycopyName) ∈ wsX7_plus := by decide +kernel
set_option maxRecDepth 20000 in
theorem il_X7_plus_stac : (Cond.static arraycopyName) ∈ wsX7_plus := by decide +kernel
set_option maxRecDepth 20000 in
theorem il_X7_plus_inisys : (Cond.initialized "java/lang/System") ∈ wsX7_plus := by decide +kernel
set_option maxHeartbeats 4000000 in
set_option maxRecDepth 100000 in
theorem kX7_plus (l : Launch) (G : iG) (N : Nat) (ad : Nat → Nat) (C : Nat → va_E) {g0 v0 n0 : Nat} {F0 : Nat → Option Nat} {f0 : Nat → Int32} (lg0 : g0 < N) (lv0 : v0 < N) (hg0 : C g0 = ra G 5 0 F0) (hv0 : C v0 = ia G n0 f0) (sz : Nat) : Met l yX7_plus wsX7_plus rmX7_plus (iPreV G (N) ad C sz [.ref (ad g0), .ref (ad v0)]) (va_Qr (fun (u : iU) => (∀ j, j < N → u.1 j = ad j) ∧ (∀ j, j < N → u.2 j = C j) ∧ ∃ F : Nat → Option Nat, u.2 N = ra G 5 1 F ∧ F 0 = some (ad v0)) (fun u a t => iB2 G (N + 1) (iA (N) ad sz) u t ∧ a = u.1 (N)) (iA (N) ad sz)) 1 1 (iA (N) ad sz) := by
  refine Met.ofW (cc := cX7_plus) (maxL := 3) (ret := (some (.array (.array .int)))) (by decide) rfl ?_
  intro p e s m args below meth c s₁ B hml hv
  obtain ⟨rfl, ⟨hsz, hP, hK, hD0⟩, hV⟩ := hv
  have hx := B.exec
  have hb := B.bytes
  have hr := B.returns
  have hts := atoms_spec (ws := wsX7_plus) B.pre
  have hown : s.vm.findClass RX7 = some m.cls := findClass_of_methodNamed B.named
  have hlocks := B.notSynchronized
  subst hsz
  have hD := wl_self hD0 s.heap.size
  have hA : ∀ q : Nat, s.heap.size ≤ q → iA (N) ad s.heap.size q := fun q h => Or.inr h
  have hS : va_S (iA (N) ad s.heap.size) s.heap s.heap [] := va_S.rf
  have hP : va_P G.1 vwB (wl (N) ad C) s.heap := hP
  have hl := lv_entry ([.ref (ad g0), .ref (ad v0)]) (n := 3) (Nat.le_of_ble_eq_true rfl)
  rw [lg_entry_eq]
  generalize (lg_sl ([.ref (ad g0), .ref (ad v0)]) ++ List.replicate (3 - (lg_sl ([.ref (ad g0), .ref (ad v0)])).length) Slot.unset).toArray = ls at hl ⊢
  have hl : lv_has ls 3 [(0, .ref (ad g0)), (1, .ref (ad v0))] := hl
  refine lv_aload_n hx hb dX7_plus_0 rfl (lv_at hl 0 rfl) ?_
  refine iw_alenG (v := nI 0) hx hb hK hP (by omega) (hg0) rfl dX7_plus_1 ?_
  refine lv_iconst (v := nI 1) hx hb dX7_plus_2 (by decide) ?_
  refine lv_iadd hx hb dX7_plus_3 ?_
  refine lv_asI (y := nI 1) (nI_add _ _) ?_
  refine iw_newg (N' := 1) hx hb hown (hts _ il_X7_plus_32) (vx_ag hV) hK hP hD hS hA (by decide) (by decide) (Nat.le_of_ble_eq_true rfl) (Nat.le_of_ble_eq_true rfl) (Nat.le_of_ble_eq_true rfl) dX7_plus_4 (fun ad1 C1 H e1 c1 n1 hP hD hS => ?_)
  have k1_g0 : C1 g0 = ra G 5 0 F0 := (c1 _ (by omega)).trans (hg0)
  have k1_v0 : C1 v0 = ia G n0 f0 := (c1 _ (by omega)).trans (hv0)
  have ea1 : ∀ j, j < N → ad1 j = ad j := fun j h => e1 j (by omega)
  have ca1 : ∀ j, j < N → C1 j = C j := fun j h => (c1 j (by omega)).trans (rfl)
  have hl : lv_has ls 3 [(0, .ref (ad1 g0)), (1, .ref (ad1 v0))] := by rw [e1 g0 (by omega), e1 v0 (by omega)]; exact hl
  refine lv_astore_n (lv' := [(2, .ref (ad1 N)), (0, .ref (ad1 g0)), (1, .ref (ad1 v0))]) hx hb dX7_plus_7 rfl hl (by decide) rfl (fun ls hl => ?_)
  refine lv_aload_n hx hb dX7_plus_8 rfl (lv_at hl 1 rfl) ?_
  refine lv_iconst (v := nI 0) hx hb dX7_plus_9 (by decide) ?_
  refine lv_aload_n hx hb dX7_plus_10 rfl (lv_at hl 0 rfl) ?_
  refine lv_iconst (v := nI 0) hx hb dX7_plus_11 (by decide) ?_
  refine lv_aload_n hx hb dX7_plus_12 rfl (lv_at hl 1 rfl) ?_
  refine iw_alenG (v := nI 0) hx hb hK hP (by omega) (k1_g0) rfl dX7_plus_13 ?_
  refine iw_gcopy hx hb (hml.trans hl.1.symm) hown (hts _ il_X7_plus_62) (hts _ il_X7_plus_natac) (hts _ il_X7_plus_stac) (hts _ il_X7_plus_inisys) hK hP hD hS (by omega) (by omega) (k1_g0) (n1) (Nat.le_of_ble_eq_true rfl) (Nat.le_of_ble_eq_true rfl) dX7_plus_14 (fun H locs hP hD hS => ?_)
  refine lv_aload_n hx hb dX7_plus_17 rfl (lv_at hl 0 rfl) ?_
  refine lv_aload_n hx hb dX7_plus_18 rfl (lv_at hl 1 rfl) ?_
  refine iw_alenG (v := nI 0) hx hb hK hP (by omega) (k1_g0) rfl dX7_plus_19 ?_
  refine lv_aload_n hx hb dX7_plus_20 rfl (lv_at hl 2 rfl) ?_
  refine iw_gast hx hb hK (vx_ag hV) hP hD hS (by omega) (n1) (by omega) (k1_v0) (vp_in_nI (show 0 < 1 by omega) (by omega)) (nI_clamp (by omega)) dX7_plus_21 (fun H locs hP hD hS => ?_)
  refine lv_aload_n hx hb dX7_plus_22 rfl (lv_at hl 0 rfl) ?_
  refine W.widen (k := 1) (n := 1) (Nat.le_of_ble_eq_true rfl) (Nat.le_of_ble_eq_true rfl) ?_
  exact W.aret hx hb hr (Or.inr ⟨_, rfl⟩) (Or.inr ⟨_, rfl⟩) (fun t ht hW => ⟨⟨(ad1, va_up C1 N (ra G 5 1 (va_up (fun _ => none) 0 (some (ad1 v0))))), _, rfl, ⟨ea1, fun j h => (va_un _ _ (by omega)).trans (ca1 j h), ⟨_, va_us _ _ _, (va_us _ _ _).trans (congrArg some (ea1 v0 (by omega)))⟩⟩, ⟨by rw [ht]; exact hP, hD⟩, rfl⟩, hS.F ht⟩) hS.2.2 dX7_plus_23
abbrev rmX7_plus_ : Room := { frames := 1, cells := 1, slots := 12, locals := 25 }
set_option maxRecDepth 20000 in
theorem il_X7_plus__arrint : (Cond.arrayClass .int) ∈ wsX7_plus_ := by decide +kernel
set_option maxRecDepth 20000 in
theorem il_X7_plus__62 : (Cond.methodLink RX7 62 arraycopyName) ∈ wsX7_plus_ := by decide +kernel
set_option maxRecDepth 20000 in
theorem il_X7_plus__natac : (Cond.native arraycopyName) ∈ wsX7_plus_ := by decide +kernel
set_option maxRecDepth 20000 in
theorem il_X7_plus__stac : (Cond.static arraycopyName) ∈ wsX7_plus_ := by decide +kernel
set_option maxRecDepth 20000 in
theorem il_X7_plus__inisys : (Cond.initialized "java/lang/System") ∈ wsX7_plus_ := by decide +kernel
set_option maxHeartbeats 4000000 in
set_option maxRecDepth 100000 in
theorem kX7_plus_ (l : Launch) (G : iG) (N : Nat) (ad : Nat → Nat) (C : Nat → va_E) {v0 n0 : Nat} {f0 : Nat → Int32} (lv0 : v0 < N) (hn0 : n0 ≤ 10) (hv0 : C v0 = ia G n0 f0) (x1 x2 : Int32) (sz : Nat) : Met l yX7_plus_ wsX7_plus_ rmX7_plus_ (iPre G (N) ad C sz [.ref (ad v0), .int x1, .int x2]) (va_Qr (fun (u : iU) => (∀ j, j < N → u.1 j = ad j) ∧ (∀ j, j < N → u.2 j = C j) ∧ ∃ f : Nat → Int32, u.2 N = ia G (n0 + 2) f) (fun u a t => iB2 G (N + 1) (iA (N) ad sz) u t ∧ a = u.1 (N)) (iA (N) ad sz)) 1 12 (iA (N) ad sz) := by
  refine Met.ofW (cc := cX7_plus_) (maxL := 4) (ret := (some (.array .int))) (by decide) rfl ?_
  intro p e s m args below meth c s₁ B hml hv
  obtain ⟨rfl, hsz, hP, hK, hD0⟩ := hv
  have hx := B.exec
  have hb := B.bytes
  have hr := B.returns
  have hts := atoms_spec (ws := wsX7_plus_) B.pre
  have hown : s.vm.findClass RX7 = some m.cls := findClass_of_methodNamed B.named
  have hlocks := B.notSynchronized
  subst hsz
  have hD := wl_self hD0 s.heap.size
  have hA : ∀ q : Nat, s.heap.size ≤ q → iA (N) ad s.heap.size q := fun q h => Or.inr h
  have hS : va_S (iA (N) ad s.heap.size) s.heap s.heap [] := va_S.rf
  have hP : va_P G.1 vwB (wl (N) ad C) s.heap := hP
  have hl := lv_entry ([.ref (ad v0), .int x1, .int x2]) (n := 4) (Nat.le_of_ble_eq_true rfl)
  rw [lg_entry_eq]
  generalize (lg_sl ([.ref (ad v0), .int x1, .int x2]) ++ List.replicate (4 - (lg_sl ([.ref (ad v0), .int x1, .int x2])).length) Slot.unset).toArray = ls at hl ⊢
  have hl : lv_has ls 4 [(0, .ref (ad v0)), (1, .int x1), (2, .int x2)] := hl
  refine lv_aload_n hx hb dX7_plus__0 rfl (lv_at hl 0 rfl) ?_
  refine iw_alenI (v := nI n0) hx hb hK hP (by omega) (hv0) rfl dX7_plus__1 ?_
  refine lv_iconst (v := nI 2) hx hb dX7_plus__2 (by decide) ?_
  refine lv_iadd hx hb dX7_plus__3 ?_
  refine lv_asI (y := nI (n0 + 2)) (nI_add _ _) ?_
  refine iw_newI (N' := n0 + 2) hx hb (hts _ il_X7_plus__arrint) hK hP hD hS hA (nI_pos (by omega)) (nI_clamp (by omega)) (by show (n0 + 2) * 4 ≤ 536870912; omega) (by show 0 + 1 ≤ 1; omega) (by show 0 + (n0 + 2) ≤ 12; omega) dX7_plus__4 (fun ad1 C1 H e1 c1 n1 hP hD hS => ?_)
  have k1_v0 : C1 v0 = ia G n0 f0 := (c1 _ (by omega)).trans (hv0)
  have ea1 : ∀ j, j < N → ad1 j = ad j := fun j h => e1 j (by omega)
  have ca1 : ∀ j, j < N → C1 j = C j := fun j h => (c1 j (by omega)).trans (rfl)
  have hl : lv_has ls 4 [(0, .ref (ad1 v0)), (1, .int x1), (2, .int x2)] := by rw [e1 v0 (by omega)]; exact hl
  refine lv_astore_n (lv' := [(3, .ref (ad1 N)), (0, .ref (ad1 v0)), (1, .int x1), (2, .int x2)]) hx hb dX7_plus__6 rfl hl (by decide) rfl (fun ls hl => ?_)
  refine lv_aload_n hx hb dX7_plus__7 rfl (lv_at hl 1 rfl) ?_
  refine lv_iconst (v := nI 0) hx hb dX7_plus__8 (by decide) ?_
  refine lv_aload_n hx hb dX7_plus__9 rfl (lv_at hl 0 rfl) ?_
  refine lv_iconst (v := nI 0) hx hb dX7_plus__10 (by decide) ?_
  refine lv_aload_n hx hb dX7_plus__11 rfl (lv_at hl 1 rfl) ?_
  refine iw_alenI (v := nI n0) hx hb hK hP (by omega) (k1_v0) rfl dX7_plus__12 ?_
  refine iw_icopy (sp' := 0) (dp' := 0) (n' := n0) hx hb (hml.trans hl.1.symm) hown (hts _ il_X7_plus__62) (hts _ il_X7_plus__natac) (hts _ il_X7_plus__stac) (hts _ il_X7_plus__inisys) hK hP hD hS (by omega) (by omega) (k1_v0) (n1) (nI_pos (by omega)) (nI_pos (by omega)) (nI_pos (by omega)) (nI_clamp (by omega)) (nI_clamp (by omega)) (nI_clamp (by omega)) (by omega) (by omega) (Nat.le_of_ble_eq_true rfl) (Nat.le_of_ble_eq_true rfl) dX7_plus__13 (fun H locs hP hD hS => ?_)
  refine lv_aload_n hx hb dX7_plus__16 rfl (lv_at hl 0 rfl) ?_
  refine lv_aload_n hx hb dX7_plus__17 rfl (lv_at hl 1 rfl) ?_
  refine iw_alenI (v := nI n0) hx hb hK hP (by omega) ((va_un _ _ (by omega)).trans (k1_v0)) rfl dX7_plus__18 ?_
  refine lv_iload_n hx hb dX7_plus__19 rfl (lv_at hl 2 rfl) ?_
  refine iw_iast hx hb hK hP hD hS (by omega) (va_us _ _ _) (vp_in_nI (show n0 < n0 + 2 by omega) (by omega)) (nI_clamp (by omega)) dX7_plus__20 (fun H locs hP hD hS => ?_)
  rw [va_uu _ _ _ _] at hP hD
  refine lv_aload_n hx hb dX7_plus__21 rfl (lv_at hl 0 rfl) ?_
  refine lv_aload_n hx hb dX7_plus__22 rfl (lv_at hl 1 rfl) ?_
  refine iw_alenI (v := nI n0) hx hb hK hP (by omega) ((va_un _ _ (by omega)).trans (k1_v0)) rfl dX7_plus__23 ?_
  refine lv_iconst (v := nI 1) hx hb dX7_plus__24 (by decide) ?_
  refine lv_iadd hx hb dX7_plus__25 ?_
  refine lv_asI (y := nI (n0 + 1)) (nI_add _ _) ?_
  refine lv_iload_n hx hb dX7_plus__26 rfl (lv_at hl 3 rfl) ?_
  refine iw_iast hx hb hK hP hD hS (by omega) (va_us _ _ _) (vp_in_nI (show n0 + 1 < n0 + 2 by omega) (by omega)) (nI_clamp (by omega)) dX7_plus__27 (fun H locs hP hD hS => ?_)
  rw [va_uu _ _ _ _] at hP hD
  refine lv_aload_n hx hb dX7_plus__28 rfl (lv_at hl 0 rfl) ?_
  refine W.widen (k := 1) (n := 12) (Nat.le_of_ble_eq_true rfl) (by omega) ?_
  exact W.aret hx hb hr (Or.inr ⟨_, rfl⟩) (Or.inr ⟨_, rfl⟩) (fun t ht hW => ⟨⟨(ad1, va_up C1 N (ia G (n0 + 2) (upd (upd (va_cpy f0 (fun _ => nI 0) 0 0 n0) n0 x1) (n0 + 1) x2))), _, rfl, ⟨ea1, fun j h => (va_un _ _ (by omega)).trans (ca1 j h), ⟨_, va_us _ _ _⟩⟩, ⟨by rw [ht]; exact hP, hD⟩, rfl⟩, hS.F ht⟩) hS.2.2 dX7_plus__29
